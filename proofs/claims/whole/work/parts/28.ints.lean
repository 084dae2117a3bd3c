/-! NUMBERS: counters, bits -/
theorem iN_toInt {a : Nat} (h : a < 2147483648) : (Int32.ofNat a).toInt = a := Int32.toInt_ofNat_of_lt h
theorem iN_le {a b : Nat} (ha : a < 2147483648) (hb : b < 2147483648) : (Int32.ofNat a ≤ Int32.ofNat b) = (a ≤ b) := by
  rw [Int32.le_iff_toInt_le, iN_toInt ha, iN_toInt hb]
  exact propext ⟨fun h => by omega, fun h => by omega⟩
theorem iN_lt {a b : Nat} (ha : a < 2147483648) (hb : b < 2147483648) : (Int32.ofNat a < Int32.ofNat b) = (a < b) := by
  rw [Int32.lt_iff_toInt_lt, iN_toInt ha, iN_toInt hb]
  exact propext ⟨fun h => by omega, fun h => by omega⟩
theorem iN_eq {a b : Nat} (ha : a < 2147483648) (hb : b < 2147483648) : (Int32.ofNat a = Int32.ofNat b) = (a = b) := by
  refine propext ⟨fun h => ?_, fun h => by rw [h]⟩
  have e := congrArg Int32.toInt h
  rw [iN_toInt ha, iN_toInt hb] at e
  omega
theorem li_le {n b : Nat} (ha : OfNat.ofNat n < 2147483648) (hb : b < 2147483648) : ((no_index (OfNat.ofNat n) : Int32) ≤ Int32.ofNat b) = (OfNat.ofNat n ≤ b) := iN_le ha hb
theorem li_lt {n b : Nat} (ha : OfNat.ofNat n < 2147483648) (hb : b < 2147483648) : ((no_index (OfNat.ofNat n) : Int32) < Int32.ofNat b) = (OfNat.ofNat n < b) := iN_lt ha hb
theorem li_eq {n b : Nat} (ha : OfNat.ofNat n < 2147483648) (hb : b < 2147483648) : ((no_index (OfNat.ofNat n) : Int32) = Int32.ofNat b) = (OfNat.ofNat n = b) := iN_eq ha hb
theorem il_le {n b : Nat} (ha : OfNat.ofNat n < 2147483648) (hb : b < 2147483648) : (Int32.ofNat b ≤ (no_index (OfNat.ofNat n) : Int32)) = (b ≤ OfNat.ofNat n) := iN_le hb ha
theorem il_lt {n b : Nat} (ha : OfNat.ofNat n < 2147483648) (hb : b < 2147483648) : (Int32.ofNat b < (no_index (OfNat.ofNat n) : Int32)) = (b < OfNat.ofNat n) := iN_lt hb ha
theorem il_eq {n b : Nat} (ha : OfNat.ofNat n < 2147483648) (hb : b < 2147483648) : (Int32.ofNat b = (no_index (OfNat.ofNat n) : Int32)) = (b = OfNat.ofNat n) := iN_eq hb ha
theorem iN_add {a b : Nat} : Int32.ofNat a + Int32.ofNat b = Int32.ofNat (a + b) := (Int32.ofNat_add a b).symm
theorem iN_add1 {a : Nat} : Int32.ofNat a + 1 = Int32.ofNat (a + 1) := (Int32.ofNat_add a 1).symm
theorem iL_add {a n : Nat} : Int32.ofNat a + (no_index (OfNat.ofNat n) : Int32) = Int32.ofNat (a + OfNat.ofNat n) := (Int32.ofNat_add a n).symm
theorem lI_add {a n : Nat} : (no_index (OfNat.ofNat n) : Int32) + Int32.ofNat a = Int32.ofNat (OfNat.ofNat n + a) := (Int32.ofNat_add n a).symm
theorem lI_mul {a n : Nat} : (no_index (OfNat.ofNat n) : Int32) * Int32.ofNat a = Int32.ofNat (OfNat.ofNat n * a) := (Int32.ofNat_mul n a).symm
theorem iL_mul {a n : Nat} : Int32.ofNat a * (no_index (OfNat.ofNat n) : Int32) = Int32.ofNat (a * OfNat.ofNat n) := (Int32.ofNat_mul a n).symm
theorem iN_mul {a b : Nat} : Int32.ofNat a * Int32.ofNat b = Int32.ofNat (a * b) := (Int32.ofNat_mul a b).symm
theorem iN_sub {a b : Nat} (h : b ≤ a) : Int32.ofNat a - Int32.ofNat b = Int32.ofNat (a - b) := by
  obtain ⟨c, rfl⟩ := Nat.le.dest h
  rw [Nat.add_sub_cancel_left, ← iN_add]
  grind
theorem iL_sub {a n : Nat} (h : OfNat.ofNat n ≤ a) : Int32.ofNat a - (no_index (OfNat.ofNat n) : Int32) = Int32.ofNat (a - OfNat.ofNat n) := iN_sub h
theorem lI_sub {a n : Nat} (h : a ≤ OfNat.ofNat n) : (no_index (OfNat.ofNat n) : Int32) - Int32.ofNat a = Int32.ofNat (OfNat.ofNat n - a) := iN_sub h
theorem iN_dec {a : Nat} : Int32.ofNat (a + 1) + (-1) = Int32.ofNat a := by
  rw [← iN_add1]
  grind
theorem iN_clamp {a : Nat} (h : a < 2147483648) : (Int32.ofNat a).toNatClampNeg = a := Int32.toNatClampNeg_ofNat_of_lt h
theorem li_clamp {n : Nat} (h : OfNat.ofNat n < 2147483648) : (no_index (OfNat.ofNat n) : Int32).toNatClampNeg = OfNat.ofNat n := Int32.toNatClampNeg_ofNat_of_lt h
theorem iN_vin {a n : Nat} (h : a < 2147483648) : (vinB (Int32.ofNat a) n = true) = (a < n) := by
  unfold vinB
  rw [iN_toInt h]
  exact propext ⟨fun q => by have := of_decide_eq_true q; omega, fun q => decide_eq_true (by omega)⟩
theorem li_vin {k n : Nat} (h : OfNat.ofNat k < 2147483648) : (vinB (no_index (OfNat.ofNat k) : Int32) n = true) = (OfNat.ofNat k < n) := iN_vin h
theorem nn_of {x : Int32} {n : Nat} (h0 : 0 ≤ x) (hn : n < 2147483648) (h : x ≤ Int32.ofNat n) : ∃ m, m ≤ n ∧ x = Int32.ofNat m := by
  have a := Int32.le_iff_toInt_le.mp h0
  have b := Int32.le_iff_toInt_le.mp h
  rw [iN_toInt hn] at b
  have z : (0 : Int32).toInt = 0 := rfl
  rw [z] at a
  refine ⟨x.toInt.toNat, by omega, ?_⟩
  apply Int32.toInt_inj.mp
  rw [iN_toInt (by omega)]
  omega
theorem nn_lt {x : Int32} {n : Nat} (h0 : 0 ≤ x) (hn : n < 2147483648) (h : x < Int32.ofNat n) : ∃ m, m < n ∧ x = Int32.ofNat m := by
  have b := Int32.lt_iff_toInt_lt.mp h
  rw [iN_toInt hn] at b
  obtain ⟨m, h1, rfl⟩ := nn_of h0 hn (Int32.le_of_lt h)
  refine ⟨m, ?_, rfl⟩
  rw [iN_toInt (by omega)] at b
  omega
/-- bits -/
def tb (x : Int64) (i : Nat) : Bool := x.toBitVec.getLsbD i
theorem tb_ext {x y : Int64} (h : ∀ i, i < 64 → tb x i = tb y i) : x = y := by
  apply Int64.toBitVec_inj.mp
  apply BitVec.eq_of_getLsbD_eq
  intro i hi
  exact h i hi
theorem tb_and {x y : Int64} {i : Nat} : tb (x &&& y) i = (tb x i && tb y i) := by
  unfold tb
  rw [Int64.toBitVec_and, BitVec.getLsbD_and]
theorem tb_or {x y : Int64} {i : Nat} : tb (x ||| y) i = (tb x i || tb y i) := by
  unfold tb
  rw [Int64.toBitVec_or, BitVec.getLsbD_or]
theorem tb_not {x : Int64} {i : Nat} (h : i < 64) : tb (~~~x) i = !tb x i := by
  unfold tb
  rw [Int64.toBitVec_not, BitVec.getLsbD_not, decide_eq_true h, Bool.true_and]
theorem tb_ge {x : Int64} {i : Nat} (h : 64 ≤ i) : tb x i = false := BitVec.getLsbD_of_ge _ _ h
theorem tb_zero {i : Nat} : tb 0 i = false := BitVec.getLsbD_zero
theorem sh_amt : ∀ n : Nat, n < 64 → (Int32.ofNat n).toInt64 &&& 63 = Int64.ofNat n ∧ (Int64.ofNat n).toBitVec.smod 64 = BitVec.ofNat 64 n ∧ ((Int32.ofNat n).toInt64.toUInt64 &&& Int64.toUInt64 63).toBitVec % 64 = BitVec.ofNat 64 n := by decide +kernel
theorem bv_shl {x : BitVec 64} {n : Nat} (h : n < 64) : x <<< BitVec.ofNat 64 n = x <<< n := by
  rw [BitVec.shiftLeft_eq', BitVec.toNat_ofNat, Nat.mod_eq_of_lt (by omega)]
theorem bv_shr {x : BitVec 64} {n : Nat} (h : n < 64) : x >>> BitVec.ofNat 64 n = x >>> n := by
  rw [BitVec.ushiftRight_eq', BitVec.toNat_ofNat, Nat.mod_eq_of_lt (by omega)]
theorem shl_bv {x : Int64} {n : Nat} (h : n < 64) : (x <<< ((Int32.ofNat n).toInt64 &&& 63)).toBitVec = x.toBitVec <<< n := by
  obtain ⟨a, b, -⟩ := sh_amt n h
  rw [a, Int64.toBitVec_shiftLeft, b, bv_shl h]
theorem ushr_bv {x : Int64} {n : Nat} (h : n < 64) : ((x.toUInt64 >>> ((Int32.ofNat n).toInt64.toUInt64 &&& Int64.toUInt64 63)).toInt64).toBitVec = x.toBitVec >>> n := by
  obtain ⟨-, -, c⟩ := sh_amt n h
  show (x.toUInt64 >>> ((Int32.ofNat n).toInt64.toUInt64 &&& Int64.toUInt64 63)).toBitVec = _
  rw [UInt64.toBitVec_shiftRight, c, bv_shr h]
  rfl
theorem sshr_bv {x : Int64} {n : Nat} (h : n < 64) : (x >>> ((Int32.ofNat n).toInt64 &&& 63)).toBitVec = x.toBitVec.sshiftRight n := by
  obtain ⟨a, b, -⟩ := sh_amt n h
  rw [a, Int64.toBitVec_shiftRight, b, BitVec.sshiftRight_eq', BitVec.toNat_ofNat, Nat.mod_eq_of_lt (by omega)]
theorem tb_shl {x : Int64} {n i : Nat} (h : n < 64) (hi : i < 64) : tb (x <<< ((Int32.ofNat n).toInt64 &&& 63)) i = (!decide (i < n) && tb x (i - n)) := by
  unfold tb
  rw [shl_bv h, BitVec.getLsbD_shiftLeft, decide_eq_true hi, Bool.true_and]
theorem tb_ushr {x : Int64} {n i : Nat} (h : n < 64) : tb ((x.toUInt64 >>> ((Int32.ofNat n).toInt64.toUInt64 &&& Int64.toUInt64 63)).toInt64) i = tb x (n + i) := by
  unfold tb
  rw [ushr_bv h, BitVec.getLsbD_ushiftRight]
theorem tb_one {i : Nat} : tb 1 i = decide (i = 0) := by
  show (1#64).getLsbD i = _
  rw [BitVec.getLsbD_one]
  simp
/-- the bit n alone -/
theorem tb_bit {n i : Nat} (h : n < 64) (hi : i < 64) : tb ((1 : Int64) <<< ((Int32.ofNat n).toInt64 &&& 63)) i = decide (i = n) := by
  rw [tb_shl h hi, tb_one]
  by_cases z : i < n
  · rw [decide_eq_true z]
    show false = decide (i = n)
    rw [decide_eq_false (by omega)]
  · rw [decide_eq_false z]
    by_cases y : i = n
    · rw [decide_eq_true y, decide_eq_true (by omega)]
      rfl
    · rw [decide_eq_false y, decide_eq_false (by omega)]
      rfl
theorem and_one {x : Int64} : x &&& 1 = if tb x 0 = true then 1 else 0 := by
  apply tb_ext
  intro i hi
  rw [tb_and, tb_one]
  by_cases z : i = 0
  · subst z
    cases tb x 0 <;> rfl
  · rw [decide_eq_false z, Bool.and_false]
    cases tb x 0
    · exact tb_zero.symm
    · rw [if_pos rfl, tb_one, decide_eq_false z]
theorem hb_tb {x : Int64} {n : Nat} (h : n < 64) : hbR x (Int32.ofNat n) = if tb x n = true then 1 else 0 := by
  unfold hbR
  rw [show Int64.ofNat 1 = 1 from rfl, and_one, tb_ushr h]
  show (if lg_cmp (if tb x n = true then 1 else 0) (Int64.ofNat 0) = 0 then _ else _) = _
  cases tb x n <;> decide
theorem sshr1 {x : Int64} {n : Nat} (h : n < 64) : (x >>> ((Int32.ofNat n).toInt64 &&& 63)) &&& 1 = if tb x n = true then 1 else 0 := by
  rw [and_one]
  have e : tb (x >>> ((Int32.ofNat n).toInt64 &&& 63)) 0 = tb x n := by
    unfold tb
    rw [sshr_bv h, BitVec.getLsbD_sshiftRight]
    simp [h]
  rw [e]
theorem ushr1 {x : Int64} {n : Nat} (h : n < 64) : ((x.toUInt64 >>> ((Int32.ofNat n).toInt64.toUInt64 &&& Int64.toUInt64 63)).toInt64) &&& 1 = if tb x n = true then 1 else 0 := by
  rw [and_one, tb_ushr h]
  rfl
theorem lc_eq {x y : Int64} : (lg_cmp x y = 0) = (x = y) := by
  refine propext ?_
  unfold lg_cmp
  grind
theorem lc_lt {x y : Int64} : (lg_cmp x y < 0) = (x < y) := by
  refine propext ?_
  unfold lg_cmp
  grind
theorem lc_le {x y : Int64} : (lg_cmp x y ≤ 0) = (x ≤ y) := by
  refine propext ?_
  unfold lg_cmp
  grind
theorem lc_ge {x y : Int64} : (0 ≤ lg_cmp x y) = (y ≤ x) := by
  refine propext ?_
  unfold lg_cmp
  grind
theorem lc_gt {x y : Int64} : (0 < lg_cmp x y) = (y < x) := by
  refine propext ?_
  unfold lg_cmp
  grind
theorem b01 {c : Prop} [Decidable c] : ((if c then (1 : Int32) else 0) = 0) = ¬ c := by
  by_cases z : c <;> simp [z]
theorem b01L {c : Prop} [Decidable c] : ((if c then (1 : Int64) else 0) = 0) = ¬ c := by
  by_cases z : c <;> simp [z]
theorem cF0 {a b : Nat} (h : a = b) : (Int32.ofNat a = Int32.ofNat b) = True := eq_true (congrArg _ h)
theorem cF1 {a b : Nat} (h : OfNat.ofNat a = b) : ((no_index (OfNat.ofNat a) : Int32) = Int32.ofNat b) = True := cF0 h
theorem cF2 {a b : Nat} (h : a = OfNat.ofNat b) : (Int32.ofNat a = (no_index (OfNat.ofNat b) : Int32)) = True := cF0 h
theorem cF3 {a b : Nat} (h : OfNat.ofNat a = OfNat.ofNat b) : ((no_index (OfNat.ofNat a) : Int32) = (no_index (OfNat.ofNat b) : Int32)) = True := cF0 h
theorem vinT {k n : Nat} (h : OfNat.ofNat k < n) (h2 : OfNat.ofNat k < 2147483648) : (vinB (no_index (OfNat.ofNat k) : Int32) n = true) = True := (li_vin h2).trans (eq_true h)
theorem vinN {k n : Nat} (h : k < n) (h2 : k < 2147483648) : (vinB (Int32.ofNat k) n = true) = True := (iN_vin h2).trans (eq_true h)
theorem cA0 {a b : Nat} (h : a ≤ b) (hb : b < 2147483648) : (Int32.ofNat a ≤ Int32.ofNat b) = True := (iN_le (Nat.lt_of_le_of_lt h hb) hb).trans (eq_true h)
theorem cB0 {a b : Nat} (h : b < a) (ha : a < 2147483648) : (Int32.ofNat a ≤ Int32.ofNat b) = False := (iN_le ha (Nat.lt_trans h ha)).trans (eq_false (Nat.not_le.mpr h))
theorem cC0 {a b : Nat} (h : a < b) (hb : b < 2147483648) : (Int32.ofNat a < Int32.ofNat b) = True := (iN_lt (Nat.lt_trans h hb) hb).trans (eq_true h)
theorem cD0 {a b : Nat} (h : b ≤ a) (ha : a < 2147483648) : (Int32.ofNat a < Int32.ofNat b) = False := (iN_lt ha (Nat.lt_of_le_of_lt h ha)).trans (eq_false (Nat.not_lt.mpr h))
theorem cE0 {a b : Nat} (h : ¬ a = b) (ha : a < 2147483648) (hb : b < 2147483648) : (Int32.ofNat a = Int32.ofNat b) = False := (iN_eq ha hb).trans (eq_false h)
theorem cA1 {a b : Nat} (h : OfNat.ofNat a ≤ b) (hb : b < 2147483648) : ((no_index (OfNat.ofNat a) : Int32) ≤ Int32.ofNat b) = True := cA0 h hb
theorem cB1 {a b : Nat} (h : b < OfNat.ofNat a) (ha : OfNat.ofNat a < 2147483648) : ((no_index (OfNat.ofNat a) : Int32) ≤ Int32.ofNat b) = False := cB0 h ha
theorem cC1 {a b : Nat} (h : OfNat.ofNat a < b) (hb : b < 2147483648) : ((no_index (OfNat.ofNat a) : Int32) < Int32.ofNat b) = True := cC0 h hb
theorem cD1 {a b : Nat} (h : b ≤ OfNat.ofNat a) (ha : OfNat.ofNat a < 2147483648) : ((no_index (OfNat.ofNat a) : Int32) < Int32.ofNat b) = False := cD0 h ha
theorem cE1 {a b : Nat} (h : ¬ OfNat.ofNat a = b) (ha : OfNat.ofNat a < 2147483648) (hb : b < 2147483648) : ((no_index (OfNat.ofNat a) : Int32) = Int32.ofNat b) = False := cE0 h ha hb
theorem cA2 {a b : Nat} (h : a ≤ OfNat.ofNat b) (hb : OfNat.ofNat b < 2147483648) : (Int32.ofNat a ≤ (no_index (OfNat.ofNat b) : Int32)) = True := cA0 h hb
theorem cB2 {a b : Nat} (h : OfNat.ofNat b < a) (ha : a < 2147483648) : (Int32.ofNat a ≤ (no_index (OfNat.ofNat b) : Int32)) = False := cB0 h ha
theorem cC2 {a b : Nat} (h : a < OfNat.ofNat b) (hb : OfNat.ofNat b < 2147483648) : (Int32.ofNat a < (no_index (OfNat.ofNat b) : Int32)) = True := cC0 h hb
theorem cD2 {a b : Nat} (h : OfNat.ofNat b ≤ a) (ha : a < 2147483648) : (Int32.ofNat a < (no_index (OfNat.ofNat b) : Int32)) = False := cD0 h ha
theorem cE2 {a b : Nat} (h : ¬ a = OfNat.ofNat b) (ha : a < 2147483648) (hb : OfNat.ofNat b < 2147483648) : (Int32.ofNat a = (no_index (OfNat.ofNat b) : Int32)) = False := cE0 h ha hb
theorem cA3 {a b : Nat} (h : OfNat.ofNat a ≤ OfNat.ofNat b) (hb : OfNat.ofNat b < 2147483648) : ((no_index (OfNat.ofNat a) : Int32) ≤ (no_index (OfNat.ofNat b) : Int32)) = True := cA0 h hb
theorem cB3 {a b : Nat} (h : OfNat.ofNat b < OfNat.ofNat a) (ha : OfNat.ofNat a < 2147483648) : ((no_index (OfNat.ofNat a) : Int32) ≤ (no_index (OfNat.ofNat b) : Int32)) = False := cB0 h ha
theorem cC3 {a b : Nat} (h : OfNat.ofNat a < OfNat.ofNat b) (hb : OfNat.ofNat b < 2147483648) : ((no_index (OfNat.ofNat a) : Int32) < (no_index (OfNat.ofNat b) : Int32)) = True := cC0 h hb
theorem cD3 {a b : Nat} (h : OfNat.ofNat b ≤ OfNat.ofNat a) (ha : OfNat.ofNat a < 2147483648) : ((no_index (OfNat.ofNat a) : Int32) < (no_index (OfNat.ofNat b) : Int32)) = False := cD0 h ha
theorem cE3 {a b : Nat} (h : ¬ OfNat.ofNat a = OfNat.ofNat b) (ha : OfNat.ofNat a < 2147483648) (hb : OfNat.ofNat b < 2147483648) : ((no_index (OfNat.ofNat a) : Int32) = (no_index (OfNat.ofNat b) : Int32)) = False := cE0 h ha hb
theorem z10 : ((1 : Int32) = 0) = False := by decide
theorem z10L : ((1 : Int64) = 0) = False := by decide
section MG
variable {E : EX} {M p : Nat} {ls st : List Value} {h : AH} {Q : Option Value → AH → Prop}
theorem mgI {c : Prop} [Decidable c] {a b : Int32} : (if c then Rn E M p ls (.int a :: st) h Q else Rn E M p ls (.int b :: st) h Q) = Rn E M p ls (.int (if c then a else b) :: st) h Q := by
  by_cases z : c
  · rw [if_pos z, if_pos z]
  · rw [if_neg z, if_neg z]
theorem mgL {c : Prop} [Decidable c] {a b : Int64} : (if c then Rn E M p ls (.long a :: st) h Q else Rn E M p ls (.long b :: st) h Q) = Rn E M p ls (.long (if c then a else b) :: st) h Q := by
  by_cases z : c
  · rw [if_pos z, if_pos z]
  · rw [if_neg z, if_neg z]
theorem mgQ {c : Prop} [Decidable c] {a b : Int32} : (if c then Q (some (.int a)) h else Q (some (.int b)) h) = Q (some (.int (if c then a else b))) h := by
  by_cases z : c
  · rw [if_pos z, if_pos z]
  · rw [if_neg z, if_neg z]
theorem mgQL {c : Prop} [Decidable c] {a b : Int64} : (if c then Q (some (.long a)) h else Q (some (.long b)) h) = Q (some (.long (if c then a else b))) h := by
  by_cases z : c
  · rw [if_pos z, if_pos z]
  · rw [if_neg z, if_neg z]
end MG
theorem ind_up {P : Nat → Prop} {n : Nat} (s : ∀ i, i < n → P (i + 1) → P i) (e : P n) : ∀ k, k ≤ n → P k := by
  have key : ∀ d k, k + d = n → P k := by
    intro d
    induction d with
    | zero =>
      intro k h
      rw [show k = n by omega]
      exact e
    | succ d ih =>
      intro k h
      exact s k (by omega) (ih (k + 1) (by omega))
  intro k hk
  exact key (n - k) k (by omega)
