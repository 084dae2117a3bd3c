/-! COUNTS of bits -/
def pcN (p : Nat → Bool) : Nat → Nat
  | 0 => 0
  | n + 1 => pcN p n + if p n = true then 1 else 0
def pc (x : Int64) : Nat := pcN (tb x) 64
theorem pcN_le (p : Nat → Bool) : ∀ n, pcN p n ≤ n
  | 0 => Nat.le_refl _
  | n + 1 => by
    have h := pcN_le p n
    unfold pcN
    split <;> omega
theorem pcN_congr {p q : Nat → Bool} : ∀ n, (∀ i, i < n → p i = q i) → pcN p n = pcN q n
  | 0, _ => rfl
  | n + 1, h => by
    unfold pcN
    rw [pcN_congr n (fun i hi => h i (by omega)), h n (by omega)]
theorem pcN_del {p q : Nat → Bool} {l : Nat} (hp : p l = true) (hq : q l = false) : ∀ n, l < n → (∀ i, i < n → i ≠ l → q i = p i) → pcN q n + 1 = pcN p n
  | 0, h, _ => by omega
  | n + 1, h, g => by
    unfold pcN
    by_cases z : n = l
    · subst z
      rw [hp, hq, pcN_congr (p := q) (q := p) n (fun i hi => g i (by omega) (by omega))]
      rfl
    · rw [g n (by omega) z]
      have := pcN_del hp hq n (by omega) (fun i hi => g i (by omega))
      omega
theorem pc_le (x : Int64) : pc x ≤ 64 := pcN_le _ _
theorem pcN_pos {p : Nat → Bool} {l : Nat} (hp : p l = true) : ∀ n, l < n → 0 < pcN p n
  | 0, h => by omega
  | n + 1, h => by
    unfold pcN
    by_cases z : n = l
    · subst z
      rw [hp]
      exact Nat.lt_of_lt_of_le Nat.zero_lt_one (Nat.le_add_left _ _)
    · have := pcN_pos hp n (by omega)
      omega
theorem pcN_zero {p : Nat → Bool} : ∀ n, pcN p n = 0 → ∀ i, i < n → p i = false
  | 0, _, i, hi => by omega
  | n + 1, h, i, hi => by
    unfold pcN at h
    by_cases z : i = n
    · subst z
      cases e : p i with
      | false => rfl
      | true =>
        rw [e] at h
        simp at h
    · exact pcN_zero n (by omega) i (by omega)
theorem low_nat : ∀ (k n : Nat), n < 2 ^ k → 0 < n → ∃ l m, l < k ∧ n = 2 ^ (l + 1) * m + 2 ^ l
  | 0, n, h1, h2 => by omega
  | k + 1, n, h1, h2 => by
    by_cases z : n % 2 = 1
    · exact ⟨0, n / 2, by omega, by omega⟩
    · obtain ⟨l, m, h3, h4⟩ := low_nat k (n / 2) (by rw [Nat.pow_succ] at h1; omega) (by omega)
      refine ⟨l + 1, m, by omega, ?_⟩
      have e : n = 2 * (n / 2) := by omega
      rw [h4] at e
      rw [e, Nat.mul_add, ← Nat.mul_assoc, Nat.pow_succ 2 (l + 1), Nat.pow_succ 2 l]
      rw [show 2 ^ l * 2 * 2 = 2 * (2 ^ l * 2) by omega, show 2 * 2 ^ l = 2 ^ l * 2 by omega]
/-- Kernighan's step -/
theorem low_bit {x : Int64} (h : ¬ x = 0) : ∃ l, l < 64 ∧ tb x l = true ∧ (∀ i, i < l → tb x i = false) ∧ ∀ i, i < 64 → tb (x &&& (x - 1)) i = if i = l then false else tb x i := by
  have hx : 0 < x.toBitVec.toNat := by
    apply Nat.pos_of_ne_zero
    intro z
    apply h
    apply Int64.toBitVec_inj.mp
    apply BitVec.eq_of_toNat_eq
    exact z
  obtain ⟨l, m, hl, e⟩ := low_nat 64 x.toBitVec.toNat x.toBitVec.isLt hx
  have b0 : ∀ i, tb x i = x.toBitVec.toNat.testBit i := fun i => rfl
  have b1 : ∀ i, tb (x - 1) i = (x.toBitVec.toNat - 1).testBit i := by
    intro i
    have e1 : (x - 1).toBitVec.toNat = x.toBitVec.toNat - 1 := by
      rw [Int64.toBitVec_sub]
      show (x.toBitVec - 1#64).toNat = _
      rw [BitVec.toNat_sub]
      have := x.toBitVec.isLt
      have e2 : (1#64).toNat = 1 := rfl
      rw [e2]
      omega
    show (x - 1).toBitVec.toNat.testBit i = _
    rw [e1]
  have p2 : 0 < 2 ^ l := Nat.pow_pos (by decide)
  have p3 : 2 ^ l < 2 ^ (l + 1) := by rw [Nat.pow_succ]; omega
  have t0 : ∀ i, x.toBitVec.toNat.testBit i = if i < l + 1 then (2 ^ l).testBit i else m.testBit (i - (l + 1)) := by
    intro i
    rw [e, Nat.testBit_two_pow_mul_add _ p3]
  have t1 : ∀ i, (x.toBitVec.toNat - 1).testBit i = if i < l + 1 then (2 ^ l - 1).testBit i else m.testBit (i - (l + 1)) := by
    intro i
    rw [show x.toBitVec.toNat - 1 = 2 ^ (l + 1) * m + (2 ^ l - 1) by omega, Nat.testBit_two_pow_mul_add _ (by omega)]
  refine ⟨l, hl, ?_, fun i hi => ?_, fun i hi => ?_⟩
  · rw [b0, t0, if_pos (by omega), Nat.testBit_two_pow_self]
  · rw [b0, t0, if_pos (by omega), Nat.testBit_two_pow_of_ne (by omega)]
  · rw [tb_and, b0, b1, t0, t1]
    by_cases z : i < l + 1
    · rw [if_pos z, if_pos z]
      by_cases y : i = l
      · subst y
        rw [if_pos rfl, Nat.testBit_two_pow_self, Nat.testBit_two_pow_sub_one, decide_eq_false (by omega)]
        rfl
      · rw [if_neg y, Nat.testBit_two_pow_of_ne (by omega)]
        rfl
    · rw [if_neg z, if_neg z, if_neg (by omega), Bool.and_self]
theorem pc_step {x : Int64} (h : ¬ x = 0) : pc (x &&& (x - 1)) + 1 = pc x := by
  obtain ⟨l, hl, h1, h2, h3⟩ := low_bit h
  refine pcN_del (l := l) h1 ?_ 64 hl (fun i hi hne => ?_)
  · rw [h3 l hl, if_pos rfl]
  · rw [h3 i hi, if_neg hne]
theorem pc_zero : pc 0 = 0 := by decide +kernel
theorem pc_eq0 {x : Int64} (h : pc x = 0) : x = 0 := by
  apply tb_ext
  intro i hi
  rw [pcN_zero 64 h i hi, tb_zero]
section S30
variable {N : Nat} {xs : Nat → Int32} {I : Nat → Nat → Int32} {L : Nat → Nat → Int64} {Q : Option Value → AH → Prop}
theorem lp_180 {v : Int64} : ∀ (d a : Nat) (x : Int64), pc x = d → Rn (EE N xs) 180 10004 [.long v, jk, .int (Int32.ofNat a), .long x, jk] [] (K0, I, L) Q = Q (some (.int (Int32.ofNat (a + d)))) (K0, I, L)
  | 0, a, x, h => by
    have z := pc_eq0 h
    subst z
    rw [n_180_10004]
    simp (maxSteps := 2000000) (disch := first | rfl | exact Nat.le_of_ble_eq_true rfl | assumption | omega) only [n_180_0, ric_0, n_180_1, ri_istore, s1_i1, s2_in, s2_io, s2_it, s1_r1, s2_rn, s2_ro, s2_rt, s1_n1, s2_nn, s2_no, s2_nt, s1_j1, s2_jn, s2_jo, s2_jt, sto1_1l, sto1_z, sto2_z0, sto2_z1, sto2_z2, s1_2, s2_2, s1_3, s2_3, s1_4, s2_4, s1_5, s2_5, s1_6, s2_6, s1_7, s2_7, s1_8, s2_8, s1_9, s2_9, s1_10, s2_10, s1_11, s2_11, s1_12, s2_12, s1_13, s2_13, s1_14, s2_14, s1_15, s2_15, tl_c, tl_n, n_180_2, ri_lload_0, n_180_3, ri_lstore, n_180_4, ri_ret, tk_0, tk_1, tk_2, tk_3, tk_4, tk_5, tk_6, tk_7, tk_8, tk_9, tk_10, tk_11, tk_12, tk_13, ri_lload_3, n_180_5, rlc_0, n_180_6, ri_lcmp, n_180_7, ri_if_eq, tn_22, n_180_10, rin_2_1, n_180_13, n_180_14, n_180_15, rlc_1, n_180_16, ri_lsub, n_180_17, ri_land, n_180_18, n_180_19, ri_goto, tn_4, n_180_22, ri_iload_2, n_180_23, rt_180, ite_not, cA0, cB0, cC0, cD0, cE0, cF0, cA1, cB1, cC1, cD1, cE1, cF1, cA2, cB2, cC2, cD2, cE2, cF2, cA3, cB3, cC3, cD3, cE3, cF3, vinT, vinN, li_clamp, iN_clamp, ↓reduceIte, if_true, if_false, iN_add1, iL_add, lI_add, iN_add, lI_mul, iL_mul, iN_mul, iN_sub, iL_sub, lI_sub, and_self, and_true, true_and, and_false, false_and, b01, b01L, z10, z10L, lc_eq, lc_lt, lc_le, lc_ge, lc_gt, ent_n, ent_i, ent_l, ent_r, ent_u, tL_n, tL_s, ap_n, ap_c]
    rfl
  | d + 1, a, x, h => by
    have z : ¬ x = 0 := by
      intro z
      subst z
      rw [pc_zero] at h
      omega
    have h2 := pc_step z
    rw [n_180_10004]
    simp (maxSteps := 2000000) (disch := first | rfl | exact Nat.le_of_ble_eq_true rfl | assumption | omega) only [n_180_0, ric_0, n_180_1, ri_istore, s1_i1, s2_in, s2_io, s2_it, s1_r1, s2_rn, s2_ro, s2_rt, s1_n1, s2_nn, s2_no, s2_nt, s1_j1, s2_jn, s2_jo, s2_jt, sto1_1l, sto1_z, sto2_z0, sto2_z1, sto2_z2, s1_2, s2_2, s1_3, s2_3, s1_4, s2_4, s1_5, s2_5, s1_6, s2_6, s1_7, s2_7, s1_8, s2_8, s1_9, s2_9, s1_10, s2_10, s1_11, s2_11, s1_12, s2_12, s1_13, s2_13, s1_14, s2_14, s1_15, s2_15, tl_c, tl_n, n_180_2, ri_lload_0, n_180_3, ri_lstore, n_180_4, ri_ret, tk_0, tk_1, tk_2, tk_3, tk_4, tk_5, tk_6, tk_7, tk_8, tk_9, tk_10, tk_11, tk_12, tk_13, ri_lload_3, n_180_5, rlc_0, n_180_6, ri_lcmp, n_180_7, ri_if_eq, tn_22, n_180_10, rin_2_1, n_180_13, n_180_14, n_180_15, rlc_1, n_180_16, ri_lsub, n_180_17, ri_land, n_180_18, n_180_19, ri_goto, tn_4, n_180_22, ri_iload_2, n_180_23, rt_180, ite_not, cA0, cB0, cC0, cD0, cE0, cF0, cA1, cB1, cC1, cD1, cE1, cF1, cA2, cB2, cC2, cD2, cE2, cF2, cA3, cB3, cC3, cD3, cE3, cF3, vinT, vinN, li_clamp, iN_clamp, ↓reduceIte, if_true, if_false, iN_add1, iL_add, lI_add, iN_add, lI_mul, iL_mul, iN_mul, iN_sub, iL_sub, lI_sub, and_self, and_true, true_and, and_false, false_and, b01, b01L, z10, z10L, lc_eq, lc_lt, lc_le, lc_ge, lc_gt, ent_n, ent_i, ent_l, ent_r, ent_u, tL_n, tL_s, ap_n, ap_c, z]
    rw [lp_180 d (a + 1) _ (by omega), show a + 1 + d = a + (d + 1) by omega]
theorem sp_180 {v : Int64} : Rn (EE N xs) 180 0 [.long v, jk] [] (K0, I, L) Q = Q (some (.int (Int32.ofNat (pc v)))) (K0, I, L) := by
  simp (maxSteps := 2000000) (disch := first | rfl | exact Nat.le_of_ble_eq_true rfl | assumption | omega) only [n_180_0, ric_0, n_180_1, ri_istore, s1_i1, s2_in, s2_io, s2_it, s1_r1, s2_rn, s2_ro, s2_rt, s1_n1, s2_nn, s2_no, s2_nt, s1_j1, s2_jn, s2_jo, s2_jt, sto1_1l, sto1_z, sto2_z0, sto2_z1, sto2_z2, s1_2, s2_2, s1_3, s2_3, s1_4, s2_4, s1_5, s2_5, s1_6, s2_6, s1_7, s2_7, s1_8, s2_8, s1_9, s2_9, s1_10, s2_10, s1_11, s2_11, s1_12, s2_12, s1_13, s2_13, s1_14, s2_14, s1_15, s2_15, tl_c, tl_n, n_180_2, ri_lload_0, n_180_3, ri_lstore, n_180_4, ri_ret, tk_0, tk_1, tk_2, tk_3, tk_4, tk_5, tk_6, tk_7, tk_8, tk_9, tk_10, tk_11, tk_12, tk_13, ri_lload_3, n_180_5, rlc_0, n_180_6, ri_lcmp, n_180_7, ri_if_eq, tn_22, n_180_10, rin_2_1, n_180_13, n_180_14, n_180_15, rlc_1, n_180_16, ri_lsub, n_180_17, ri_land, n_180_18, n_180_19, ri_goto, tn_4, n_180_22, ri_iload_2, n_180_23, rt_180, ite_not, cA0, cB0, cC0, cD0, cE0, cF0, cA1, cB1, cC1, cD1, cE1, cF1, cA2, cB2, cC2, cD2, cE2, cF2, cA3, cB3, cC3, cD3, cE3, cF3, vinT, vinN, li_clamp, iN_clamp, ↓reduceIte, if_true, if_false, iN_add1, iL_add, lI_add, iN_add, lI_mul, iL_mul, iN_mul, iN_sub, iL_sub, lI_sub, and_self, and_true, true_and, and_false, false_and, b01, b01L, z10, z10L, lc_eq, lc_lt, lc_le, lc_ge, lc_gt, ent_n, ent_i, ent_l, ent_r, ent_u, tL_n, tL_s, ap_n, ap_c]
  have h := lp_180 (N := N) (xs := xs) (I := I) (L := L) (Q := Q) (v := v) (pc v) 0 v rfl
  rw [Nat.zero_add] at h
  exact h
theorem rc_180 {M n nx : Nat} {ls r : List Value} {v : Int64} (hn : n % 1000 = 180) (hc : cs r ≤ 8) : RnC (EE N xs) 1 M n nx ls (.long v :: r) (K0, I, L) Q = Rn (EE N xs) M nx ls (.int (Int32.ofNat (pc v)) :: r) (K0, I, L) Q := by
  have e := RnC_S (E := EE N xs) (M := M) (nx := nx) (ls := ls) (as := [.long v]) (r := r) (h := (K0, I, L)) (Q := Q) hn rfl (show (2 : Nat) ≤ mlM 180 by decide) hc
  exact e.trans (sp_180)
theorem sp_150 {a b c : Int32} : Rn (EE N xs) 150 0 [.int a, .int b, .int c] [] (K0, I, L) Q = Q (some (.int (if b ≤ a ∧ a ≤ c then 1 else 0))) (K0, I, L) := by
  simp (maxSteps := 2000000) (disch := first | rfl | exact Nat.le_of_ble_eq_true rfl | assumption | omega) only [n_150_0, ri_iload_0, n_150_1, ri_iload_1, n_150_2, ri_icmp_lt, tn_14, n_150_5, n_150_6, ri_iload_2, n_150_7, ri_icmp_gt, n_150_10, ric_1, n_150_11, ri_goto, tn_15, n_150_14, ric_0, n_150_15, rt_150, ru_150, rx_150, ite_not, cA0, cB0, cC0, cD0, cE0, cF0, cA1, cB1, cC1, cD1, cE1, cF1, cA2, cB2, cC2, cD2, cE2, cF2, cA3, cB3, cC3, cD3, cE3, cF3, vinT, vinN, li_clamp, iN_clamp, ↓reduceIte, if_true, if_false, iN_add1, iL_add, lI_add, iN_add, lI_mul, iL_mul, iN_mul, iN_sub, iL_sub, lI_sub, and_self, and_true, true_and, and_false, false_and, b01, b01L, z10, z10L, lc_eq, lc_lt, lc_le, lc_ge, lc_gt, ent_n, ent_i, ent_l, ent_r, ent_u, tL_n, tL_s, ap_n, ap_c]
  grind
theorem rc_150 {M n nx : Nat} {ls r : List Value} {a b c : Int32} (hn : n % 1000 = 150) (hc : cs r ≤ 8) : RnC (EE N xs) 1 M n nx ls (.int c :: .int b :: .int a :: r) (K0, I, L) Q = Rn (EE N xs) M nx ls (.int (if b ≤ a ∧ a ≤ c then 1 else 0) :: r) (K0, I, L) Q := by
  have e := RnC_S (E := EE N xs) (M := M) (nx := nx) (ls := ls) (as := [.int a, .int b, .int c]) (r := r) (h := (K0, I, L)) (Q := Q) hn rfl (show (3 : Nat) ≤ mlM 150 by decide) hc
  exact e.trans (sp_150)
theorem sp_166 {a : Int32} : Rn (EE N xs) 166 0 [.int a] [] (K0, I, L) Q = Q (some (.int (if 0 ≤ a ∧ a ≤ 47 then 1 else 0))) (K0, I, L) := by
  simp (maxSteps := 2000000) (disch := first | rfl | exact Nat.le_of_ble_eq_true rfl | assumption | omega) only [n_166_0, ri_iload_0, n_166_1, ric_0, n_166_2, ric_47, n_166_4, ri_S, rc_150, n_166_7, rt_166, ru_166, rx_166, ent_n, ent_i, ent_l, ent_r, ent_u, tL_n, tL_s, ap_n, ap_c, b01, b01L, ite_not, z10, cA0, cB0, cC0, cD0, cE0, cF0, cA1, cB1, cC1, cD1, cE1, cF1, cA2, cB2, cC2, cD2, cE2, cF2, cA3, cB3, cC3, cD3, cE3, cF3, vinT, vinN, li_clamp, iN_clamp, ↓reduceIte, if_true, if_false, iN_add1, iL_add, lI_add, iN_add, lI_mul, iL_mul, iN_mul, iN_sub, iL_sub, lI_sub, and_self, and_true, true_and, and_false, false_and, z10L, lc_eq, lc_lt, lc_le, lc_ge, lc_gt]
theorem rc_166 {M n nx : Nat} {ls r : List Value} {a : Int32} (hn : n % 1000 = 166) (hc : cs r ≤ 8) : RnC (EE N xs) 1 M n nx ls (.int a :: r) (K0, I, L) Q = Rn (EE N xs) M nx ls (.int (if 0 ≤ a ∧ a ≤ 47 then 1 else 0) :: r) (K0, I, L) Q := by
  have e := RnC_S (E := EE N xs) (M := M) (nx := nx) (ls := ls) (as := [.int a]) (r := r) (h := (K0, I, L)) (Q := Q) hn rfl (show (1 : Nat) ≤ mlM 166 by decide) hc
  exact e.trans (sp_166)
theorem sp_168 {k : Int32} : Rn (EE N xs) 168 0 [.ref 106, .int k] [] (K0, I, L) Q = Q (some (.int (if 0 ≤ k ∧ k ≤ I 106 14 - 1 then 1 else 0))) (K0, I, L) := by
  simp (maxSteps := 2000000) (disch := first | rfl | exact Nat.le_of_ble_eq_true rfl | assumption | omega) only [n_168_0, ri_iload_1, n_168_1, ric_0, n_168_2, ri_aload_0, ri_aloadN_0, n_168_3, gf_1221114_106, n_168_6, ric_1, n_168_7, ri_isub, n_168_8, ri_S, rc_150, n_168_11, rt_168, ru_168, rx_168, ent_n, ent_i, ent_l, ent_r, ent_u, tL_n, tL_s, ap_n, ap_c, b01, b01L, ite_not, z10, cA0, cB0, cC0, cD0, cE0, cF0, cA1, cB1, cC1, cD1, cE1, cF1, cA2, cB2, cC2, cD2, cE2, cF2, cA3, cB3, cC3, cD3, cE3, cF3, vinT, vinN, li_clamp, iN_clamp, ↓reduceIte, if_true, if_false, iN_add1, iL_add, lI_add, iN_add, lI_mul, iL_mul, iN_mul, iN_sub, iL_sub, lI_sub, and_self, and_true, true_and, and_false, false_and, z10L, lc_eq, lc_lt, lc_le, lc_ge, lc_gt]
theorem rc_168 {M n nx : Nat} {ls r : List Value} {k : Int32} (hn : n % 1000 = 168) (hc : cs r ≤ 8) : RnC (EE N xs) 0 M n nx ls (.int k :: .ref 106 :: r) (K0, I, L) Q = Rn (EE N xs) M nx ls (.int (if 0 ≤ k ∧ k ≤ I 106 14 - 1 then 1 else 0) :: r) (K0, I, L) Q := by
  have e := RnC_V (E := EE N xs) (M := M) (nx := nx) (a := 106) (ls := ls) (as := [.int k]) (r := r) (h := (K0, I, L)) (Q := Q) hn rfl (show K0[106]? = some (.inl (ciM 168, _)) from rfl) (show (2 : Nat) ≤ mlM 168 by decide) hc
  exact e.trans (sp_168)
theorem sp_174 {t : Int32} : Rn (EE N xs) 174 0 [.ref 106, .int t] [] (K0, I, L) Q = Q (some (.int (if 0 ≤ t ∧ t ≤ I 107 0 - 1 then 1 else 0))) (K0, I, L) := by
  simp (maxSteps := 2000000) (disch := first | rfl | exact Nat.le_of_ble_eq_true rfl | assumption | omega) only [n_174_0, ri_iload_1, n_174_1, ric_0, n_174_2, ri_aload_0, ri_aloadN_0, n_174_3, gf_971102_106, n_174_6, n_174_7, al_2, al_3, al_5, al_6, al_7, al_10, al_11, al_12, al_39, al_41, al_44, al_45, al_46, al_47, al_49, al_51, al_53, al_107, al_108, al_109, al_110, al_111, al_112, al_113, al_114, al_115, al_116, al_117, al_118, al_119, al_120, al_121, al_122, al_c, al_d, al_14, al_bk, al_52, al_x0, al_x1, al_x2, al_x3, n_174_8, ric_1, n_174_9, ri_isub, n_174_10, ri_S, rc_150, n_174_13, rt_174, ru_174, rx_174, ent_n, ent_i, ent_l, ent_r, ent_u, tL_n, tL_s, ap_n, ap_c, b01, b01L, ite_not, z10, cA0, cB0, cC0, cD0, cE0, cF0, cA1, cB1, cC1, cD1, cE1, cF1, cA2, cB2, cC2, cD2, cE2, cF2, cA3, cB3, cC3, cD3, cE3, cF3, vinT, vinN, li_clamp, iN_clamp, ↓reduceIte, if_true, if_false, iN_add1, iL_add, lI_add, iN_add, lI_mul, iL_mul, iN_mul, iN_sub, iL_sub, lI_sub, and_self, and_true, true_and, and_false, false_and, z10L, lc_eq, lc_lt, lc_le, lc_ge, lc_gt]
theorem rc_174 {M n nx : Nat} {ls r : List Value} {t : Int32} (hn : n % 1000 = 174) (hc : cs r ≤ 8) : RnC (EE N xs) 0 M n nx ls (.int t :: .ref 106 :: r) (K0, I, L) Q = Rn (EE N xs) M nx ls (.int (if 0 ≤ t ∧ t ≤ I 107 0 - 1 then 1 else 0) :: r) (K0, I, L) Q := by
  have e := RnC_V (E := EE N xs) (M := M) (nx := nx) (a := 106) (ls := ls) (as := [.int t]) (r := r) (h := (K0, I, L)) (Q := Q) hn rfl (show K0[106]? = some (.inl (ciM 174, _)) from rfl) (show (2 : Nat) ≤ mlM 174 by decide) hc
  exact e.trans (sp_174)
theorem sp_198 {x y : Int32} : Rn (EE N xs) 198 0 [.ref 106, .int x, .int y] [] (K0, I, L) Q = Q (some (.int (if (0 ≤ x ∧ x ≤ 59) ∧ x ≤ y ∧ y ≤ 59 then 1 else 0))) (K0, I, L) := by
  simp (maxSteps := 2000000) (disch := first | rfl | exact Nat.le_of_ble_eq_true rfl | assumption | omega) only [n_198_0, ri_iload_1, n_198_1, ric_0, n_198_2, ric_59, n_198_4, ri_S, rc_150, n_198_7, ri_if_eq, tn_24, n_198_10, ri_iload_2, n_198_11, n_198_12, n_198_14, n_198_17, n_198_20, ric_1, n_198_21, ri_goto, tn_25, n_198_24, n_198_25, rt_198, ru_198, rx_198, ent_n, ent_i, ent_l, ent_r, ent_u, tL_n, tL_s, ap_n, ap_c, b01, b01L, ite_not, z10, cA0, cB0, cC0, cD0, cE0, cF0, cA1, cB1, cC1, cD1, cE1, cF1, cA2, cB2, cC2, cD2, cE2, cF2, cA3, cB3, cC3, cD3, cE3, cF3, vinT, vinN, li_clamp, iN_clamp, ↓reduceIte, if_true, if_false, iN_add1, iL_add, lI_add, iN_add, lI_mul, iL_mul, iN_mul, iN_sub, iL_sub, lI_sub, and_self, and_true, true_and, and_false, false_and, z10L, lc_eq, lc_lt, lc_le, lc_ge, lc_gt]
  grind
theorem rc_198 {M n nx : Nat} {ls r : List Value} {x y : Int32} (hn : n % 1000 = 198) (hc : cs r ≤ 8) : RnC (EE N xs) 0 M n nx ls (.int y :: .int x :: .ref 106 :: r) (K0, I, L) Q = Rn (EE N xs) M nx ls (.int (if (0 ≤ x ∧ x ≤ 59) ∧ x ≤ y ∧ y ≤ 59 then 1 else 0) :: r) (K0, I, L) Q := by
  have e := RnC_V (E := EE N xs) (M := M) (nx := nx) (a := 106) (ls := ls) (as := [.int x, .int y]) (r := r) (h := (K0, I, L)) (Q := Q) hn rfl (show K0[106]? = some (.inl (ciM 198, _)) from rfl) (show (3 : Nat) ≤ mlM 198 by decide) hc
  exact e.trans (sp_198)
theorem sp_164 {a b : Int32} : Rn (EE N xs) 164 0 [.int a, .int b] [] (K0, I, L) Q = Q (some (.long (if a ≤ b then spF a b else 0))) (K0, I, L) := by
  simp (maxSteps := 2000000) (disch := first | rfl | exact Nat.le_of_ble_eq_true rfl | assumption | omega) only [n_164_0, ri_iload_1, n_164_1, ri_iload_0, n_164_2, ri_icmp_ge, tn_9, n_164_5, rlc_0, n_164_6, ri_goto, tn_20, n_164_9, rlc_1, n_164_10, n_164_11, n_164_12, ri_isub, n_164_13, ric_1, n_164_14, ri_iadd, n_164_15, ri_lshl, n_164_16, n_164_17, ri_lsub, n_164_18, n_164_19, rt_164, ite_not, cA0, cB0, cC0, cD0, cE0, cF0, cA1, cB1, cC1, cD1, cE1, cF1, cA2, cB2, cC2, cD2, cE2, cF2, cA3, cB3, cC3, cD3, cE3, cF3, vinT, vinN, li_clamp, iN_clamp, ↓reduceIte, if_true, if_false, iN_add1, iL_add, lI_add, iN_add, lI_mul, iL_mul, iN_mul, iN_sub, iL_sub, lI_sub, and_self, and_true, true_and, and_false, false_and, b01, b01L, z10, z10L, lc_eq, lc_lt, lc_le, lc_ge, lc_gt, ent_n, ent_i, ent_l, ent_r, ent_u, tL_n, tL_s, ap_n, ap_c, mgI, mgL, mgQ, mgQL]
  try simp only [n_164_20]
  try simp (maxSteps := 2000000) (disch := first | rfl | exact Nat.le_of_ble_eq_true rfl | assumption | omega) only [n_164_0, ri_iload_1, n_164_1, ri_iload_0, n_164_2, ri_icmp_ge, tn_9, n_164_5, rlc_0, n_164_6, ri_goto, tn_20, n_164_9, rlc_1, n_164_10, n_164_11, n_164_12, ri_isub, n_164_13, ric_1, n_164_14, ri_iadd, n_164_15, ri_lshl, n_164_16, n_164_17, ri_lsub, n_164_18, n_164_19, rt_164, ite_not, cA0, cB0, cC0, cD0, cE0, cF0, cA1, cB1, cC1, cD1, cE1, cF1, cA2, cB2, cC2, cD2, cE2, cF2, cA3, cB3, cC3, cD3, cE3, cF3, vinT, vinN, li_clamp, iN_clamp, ↓reduceIte, if_true, if_false, iN_add1, iL_add, lI_add, iN_add, lI_mul, iL_mul, iN_mul, iN_sub, iL_sub, lI_sub, and_self, and_true, true_and, and_false, false_and, b01, b01L, z10, z10L, lc_eq, lc_lt, lc_le, lc_ge, lc_gt, ent_n, ent_i, ent_l, ent_r, ent_u, tL_n, tL_s, ap_n, ap_c, mgI, mgL, mgQ, mgQL]
  rfl
theorem rc_164 {M n nx : Nat} {ls r : List Value} {a b : Int32} (hn : n % 1000 = 164) (hc : cs r ≤ 8) : RnC (EE N xs) 1 M n nx ls (.int b :: .int a :: r) (K0, I, L) Q = Rn (EE N xs) M nx ls (.long (if a ≤ b then spF a b else 0) :: r) (K0, I, L) Q := by
  have e := RnC_S (E := EE N xs) (M := M) (nx := nx) (ls := ls) (as := [.int a, .int b]) (r := r) (h := (K0, I, L)) (Q := Q) hn rfl (show (2 : Nat) ≤ mlM 164 by decide) hc
  exact e.trans (sp_164)
theorem sp_200 {f : Int32} : Rn (EE N xs) 200 0 [.ref 106, .int f] [] (K0, I, L) Q = Q (some (.int (if I 114 3 < f + 12 then I 114 3 else f + 12))) (K0, I, L) := by
  simp (maxSteps := 2000000) (disch := first | rfl | exact Nat.le_of_ble_eq_true rfl | assumption | omega) only [n_200_0, ri_iload_1, n_200_1, ric_12, n_200_3, ri_iadd, n_200_4, ri_aload_0, ri_aloadN_0, n_200_5, gf_1041119_106, n_200_8, ric_3, n_200_9, al_2, al_3, al_5, al_6, al_7, al_10, al_11, al_12, al_39, al_41, al_44, al_45, al_46, al_47, al_49, al_51, al_53, al_107, al_108, al_109, al_110, al_111, al_112, al_113, al_114, al_115, al_116, al_117, al_118, al_119, al_120, al_121, al_122, al_c, al_d, al_14, al_bk, al_52, al_x0, al_x1, al_x2, al_x3, n_200_10, ri_icmp_le, tn_22, n_200_13, n_200_14, n_200_17, n_200_18, n_200_19, ri_goto, tn_26, n_200_22, n_200_23, n_200_25, n_200_26, rt_200, ite_not, cA0, cB0, cC0, cD0, cE0, cF0, cA1, cB1, cC1, cD1, cE1, cF1, cA2, cB2, cC2, cD2, cE2, cF2, cA3, cB3, cC3, cD3, cE3, cF3, vinT, vinN, li_clamp, iN_clamp, ↓reduceIte, if_true, if_false, iN_add1, iL_add, lI_add, iN_add, lI_mul, iL_mul, iN_mul, iN_sub, iL_sub, lI_sub, and_self, and_true, true_and, and_false, false_and, b01, b01L, z10, z10L, lc_eq, lc_lt, lc_le, lc_ge, lc_gt, ent_n, ent_i, ent_l, ent_r, ent_u, tL_n, tL_s, ap_n, ap_c]
  grind
theorem rc_200 {M n nx : Nat} {ls r : List Value} {f : Int32} (hn : n % 1000 = 200) (hc : cs r ≤ 8) : RnC (EE N xs) 0 M n nx ls (.int f :: .ref 106 :: r) (K0, I, L) Q = Rn (EE N xs) M nx ls (.int (if I 114 3 < f + 12 then I 114 3 else f + 12) :: r) (K0, I, L) Q := by
  have e := RnC_V (E := EE N xs) (M := M) (nx := nx) (a := 106) (ls := ls) (as := [.int f]) (r := r) (h := (K0, I, L)) (Q := Q) hn rfl (show K0[106]? = some (.inl (ciM 200, _)) from rfl) (show (2 : Nat) ≤ mlM 200 by decide) hc
  exact e.trans (sp_200)
theorem sp_185 {c : Nat} (hc2 : c < 48) : Rn (EE N xs) 185 0 [.ref 106, .int (Int32.ofNat c)] [] (K0, I, L) Q = Q (some (.int (if I 111 c = 3 then 1 else 0))) (K0, I, L) := by
  simp (maxSteps := 2000000) (disch := first | rfl | exact Nat.le_of_ble_eq_true rfl | assumption | omega) only [n_185_0, ri_aload_0, ri_aloadN_0, n_185_1, gf_1011112_106, n_185_4, ri_iload_1, n_185_5, al_2, al_3, al_5, al_6, al_7, al_10, al_11, al_12, al_39, al_41, al_44, al_45, al_46, al_47, al_49, al_51, al_53, al_107, al_108, al_109, al_110, al_111, al_112, al_113, al_114, al_115, al_116, al_117, al_118, al_119, al_120, al_121, al_122, al_c, al_d, al_14, al_bk, al_52, al_x0, al_x1, al_x2, al_x3, n_185_6, ric_3, n_185_7, ri_icmp_ne, tn_14, n_185_10, ric_1, n_185_11, ri_goto, tn_15, n_185_14, ric_0, n_185_15, rt_185, ru_185, rx_185, ite_not, cA0, cB0, cC0, cD0, cE0, cF0, cA1, cB1, cC1, cD1, cE1, cF1, cA2, cB2, cC2, cD2, cE2, cF2, cA3, cB3, cC3, cD3, cE3, cF3, vinT, vinN, li_clamp, iN_clamp, ↓reduceIte, if_true, if_false, iN_add1, iL_add, lI_add, iN_add, lI_mul, iL_mul, iN_mul, iN_sub, iL_sub, lI_sub, and_self, and_true, true_and, and_false, false_and, b01, b01L, z10, z10L, lc_eq, lc_lt, lc_le, lc_ge, lc_gt, ent_n, ent_i, ent_l, ent_r, ent_u, tL_n, tL_s, ap_n, ap_c]
  grind
theorem rc_185 {M n nx : Nat} {ls r : List Value} {c : Nat} (hc2 : c < 48) (hn : n % 1000 = 185) (hc : cs r ≤ 8) : RnC (EE N xs) 0 M n nx ls (.int (Int32.ofNat c) :: .ref 106 :: r) (K0, I, L) Q = Rn (EE N xs) M nx ls (.int (if I 111 c = 3 then 1 else 0) :: r) (K0, I, L) Q := by
  have e := RnC_V (E := EE N xs) (M := M) (nx := nx) (a := 106) (ls := ls) (as := [.int (Int32.ofNat c)]) (r := r) (h := (K0, I, L)) (Q := Q) hn rfl (show K0[106]? = some (.inl (ciM 185, _)) from rfl) (show (2 : Nat) ≤ mlM 185 by decide) hc
  exact e.trans (sp_185 hc2)
theorem sp_170 {k : Nat} (hk : k < 16) : Rn (EE N xs) 170 0 [.ref 106, .int (Int32.ofNat k)] [] (K0, I, L) Q = Q (some (.long (L 106 17 &&& (L 113 k ^^^ (-1))))) (K0, I, L) := by
  simp (maxSteps := 2000000) (disch := first | rfl | exact Nat.le_of_ble_eq_true rfl | assumption | omega) only [n_170_0, ri_aload_0, ri_aloadN_0, n_170_1, gf_1131117_106, n_170_4, n_170_5, gf_1031116_106, n_170_8, ri_iload_1, n_170_9, al_2, al_3, al_5, al_6, al_7, al_10, al_11, al_12, al_39, al_41, al_44, al_45, al_46, al_47, al_49, al_51, al_53, al_107, al_108, al_109, al_110, al_111, al_112, al_113, al_114, al_115, al_116, al_117, al_118, al_119, al_120, al_121, al_122, al_c, al_d, al_14, al_bk, al_52, al_x0, al_x1, al_x2, al_x3, n_170_10, rd2_21, n_170_13, ri_lxor, n_170_14, ri_land, n_170_15, rt_170, ite_not, cA0, cB0, cC0, cD0, cE0, cF0, cA1, cB1, cC1, cD1, cE1, cF1, cA2, cB2, cC2, cD2, cE2, cF2, cA3, cB3, cC3, cD3, cE3, cF3, vinT, vinN, li_clamp, iN_clamp, ↓reduceIte, if_true, if_false, iN_add1, iL_add, lI_add, iN_add, lI_mul, iL_mul, iN_mul, iN_sub, iL_sub, lI_sub, and_self, and_true, true_and, and_false, false_and, b01, b01L, z10, z10L, lc_eq, lc_lt, lc_le, lc_ge, lc_gt, ent_n, ent_i, ent_l, ent_r, ent_u, tL_n, tL_s, ap_n, ap_c]
theorem rc_170 {M n nx : Nat} {ls r : List Value} {k : Nat} (hk : k < 16) (hn : n % 1000 = 170) (hc : cs r ≤ 8) : RnC (EE N xs) 0 M n nx ls (.int (Int32.ofNat k) :: .ref 106 :: r) (K0, I, L) Q = Rn (EE N xs) M nx ls (.long (L 106 17 &&& (L 113 k ^^^ (-1))) :: r) (K0, I, L) Q := by
  have e := RnC_V (E := EE N xs) (M := M) (nx := nx) (a := 106) (ls := ls) (as := [.int (Int32.ofNat k)]) (r := r) (h := (K0, I, L)) (Q := Q) hn rfl (show K0[106]? = some (.inl (ciM 170, _)) from rfl) (show (2 : Nat) ≤ mlM 170 by decide) hc
  exact e.trans (sp_170 hk)
theorem lp_181 {x : Int64} : ∀ d i, i + d = 60 → Rn (EE N xs) 181 10002 [.long x, jk, .int (Int32.ofNat i)] [] (K0, I, L) Q = Q (some (.int (fsA (tb x) d i))) (K0, I, L)
  | 0, i, h => by
    have h : i = 60 := h
    subst h
    rw [n_181_10002]
    simp (maxSteps := 2000000) (disch := first | rfl | exact Nat.le_of_ble_eq_true rfl | assumption | omega) only [n_181_0, ric_0, n_181_1, ri_istore, s1_i1, s2_in, s2_io, s2_it, s1_r1, s2_rn, s2_ro, s2_rt, s1_n1, s2_nn, s2_no, s2_nt, s1_j1, s2_jn, s2_jo, s2_jt, sto1_1l, sto1_z, sto2_z0, sto2_z1, sto2_z2, s1_2, s2_2, s1_3, s2_3, s1_4, s2_4, s1_5, s2_5, s1_6, s2_6, s1_7, s2_7, s1_8, s2_8, s1_9, s2_9, s1_10, s2_10, s1_11, s2_11, s1_12, s2_12, s1_13, s2_13, s1_14, s2_14, s1_15, s2_15, tl_c, tl_n, n_181_2, ri_ret, tk_0, tk_1, tk_2, tk_3, tk_4, tk_5, tk_6, tk_7, tk_8, tk_9, tk_10, tk_11, tk_12, tk_13, ri_iload_2, n_181_3, ric_60, n_181_5, ri_icmp_ge, tn_24, n_181_8, ri_lload_0, n_181_9, n_181_10, ri_lshr, n_181_11, rlc_1, n_181_12, ri_land, n_181_13, rlc_0, n_181_14, ri_lcmp, n_181_15, ri_if_ne, n_181_18, rin_2_1, n_181_21, ri_goto, tn_2, n_181_24, n_181_25, n_181_27, ri_icmp_ne, tn_35, n_181_30, ric_m9, n_181_32, tn_36, n_181_35, n_181_36, rt_181, ite_not, cA0, cB0, cC0, cD0, cE0, cF0, cA1, cB1, cC1, cD1, cE1, cF1, cA2, cB2, cC2, cD2, cE2, cF2, cA3, cB3, cC3, cD3, cE3, cF3, vinT, vinN, li_clamp, iN_clamp, ↓reduceIte, if_true, if_false, iN_add1, iL_add, lI_add, iN_add, lI_mul, iL_mul, iN_mul, iN_sub, iL_sub, lI_sub, and_self, and_true, true_and, and_false, false_and, b01, b01L, z10, z10L, lc_eq, lc_lt, lc_le, lc_ge, lc_gt, ent_n, ent_i, ent_l, ent_r, ent_u, tL_n, tL_s, ap_n, ap_c]
    rfl
  | d + 1, i, h => by
    rw [n_181_10002]
    simp (maxSteps := 2000000) (disch := first | rfl | exact Nat.le_of_ble_eq_true rfl | assumption | omega) only [n_181_0, ric_0, n_181_1, ri_istore, s1_i1, s2_in, s2_io, s2_it, s1_r1, s2_rn, s2_ro, s2_rt, s1_n1, s2_nn, s2_no, s2_nt, s1_j1, s2_jn, s2_jo, s2_jt, sto1_1l, sto1_z, sto2_z0, sto2_z1, sto2_z2, s1_2, s2_2, s1_3, s2_3, s1_4, s2_4, s1_5, s2_5, s1_6, s2_6, s1_7, s2_7, s1_8, s2_8, s1_9, s2_9, s1_10, s2_10, s1_11, s2_11, s1_12, s2_12, s1_13, s2_13, s1_14, s2_14, s1_15, s2_15, tl_c, tl_n, n_181_2, ri_ret, tk_0, tk_1, tk_2, tk_3, tk_4, tk_5, tk_6, tk_7, tk_8, tk_9, tk_10, tk_11, tk_12, tk_13, ri_iload_2, n_181_3, ric_60, n_181_5, ri_icmp_ge, tn_24, n_181_8, ri_lload_0, n_181_9, n_181_10, ri_lshr, n_181_11, rlc_1, n_181_12, ri_land, n_181_13, rlc_0, n_181_14, ri_lcmp, n_181_15, ri_if_ne, n_181_18, rin_2_1, n_181_21, ri_goto, tn_2, n_181_24, n_181_25, n_181_27, ri_icmp_ne, tn_35, n_181_30, ric_m9, n_181_32, tn_36, n_181_35, n_181_36, rt_181, ite_not, cA0, cB0, cC0, cD0, cE0, cF0, cA1, cB1, cC1, cD1, cE1, cF1, cA2, cB2, cC2, cD2, cE2, cF2, cA3, cB3, cC3, cD3, cE3, cF3, vinT, vinN, li_clamp, iN_clamp, ↓reduceIte, if_true, if_false, iN_add1, iL_add, lI_add, iN_add, lI_mul, iL_mul, iN_mul, iN_sub, iL_sub, lI_sub, and_self, and_true, true_and, and_false, false_and, b01, b01L, z10, z10L, lc_eq, lc_lt, lc_le, lc_ge, lc_gt, ent_n, ent_i, ent_l, ent_r, ent_u, tL_n, tL_s, ap_n, ap_c, sshr1]
    unfold fsA
    by_cases z : tb x i = true
    · rw [if_pos z, if_pos z]
    · rw [if_neg z, if_neg z]
      exact lp_181 d (i + 1) (by omega)
theorem sp_181 {x : Int64} : Rn (EE N xs) 181 0 [.long x, jk] [] (K0, I, L) Q = Q (some (.int (fsA (tb x) 60 0))) (K0, I, L) := by
  simp (maxSteps := 2000000) (disch := first | rfl | exact Nat.le_of_ble_eq_true rfl | assumption | omega) only [n_181_0, ric_0, n_181_1, ri_istore, s1_i1, s2_in, s2_io, s2_it, s1_r1, s2_rn, s2_ro, s2_rt, s1_n1, s2_nn, s2_no, s2_nt, s1_j1, s2_jn, s2_jo, s2_jt, sto1_1l, sto1_z, sto2_z0, sto2_z1, sto2_z2, s1_2, s2_2, s1_3, s2_3, s1_4, s2_4, s1_5, s2_5, s1_6, s2_6, s1_7, s2_7, s1_8, s2_8, s1_9, s2_9, s1_10, s2_10, s1_11, s2_11, s1_12, s2_12, s1_13, s2_13, s1_14, s2_14, s1_15, s2_15, tl_c, tl_n, n_181_2, ri_ret, tk_0, tk_1, tk_2, tk_3, tk_4, tk_5, tk_6, tk_7, tk_8, tk_9, tk_10, tk_11, tk_12, tk_13, ri_iload_2, n_181_3, ric_60, n_181_5, ri_icmp_ge, tn_24, n_181_8, ri_lload_0, n_181_9, n_181_10, ri_lshr, n_181_11, rlc_1, n_181_12, ri_land, n_181_13, rlc_0, n_181_14, ri_lcmp, n_181_15, ri_if_ne, n_181_18, rin_2_1, n_181_21, ri_goto, tn_2, n_181_24, n_181_25, n_181_27, ri_icmp_ne, tn_35, n_181_30, ric_m9, n_181_32, tn_36, n_181_35, n_181_36, rt_181, ite_not, cA0, cB0, cC0, cD0, cE0, cF0, cA1, cB1, cC1, cD1, cE1, cF1, cA2, cB2, cC2, cD2, cE2, cF2, cA3, cB3, cC3, cD3, cE3, cF3, vinT, vinN, li_clamp, iN_clamp, ↓reduceIte, if_true, if_false, iN_add1, iL_add, lI_add, iN_add, lI_mul, iL_mul, iN_mul, iN_sub, iL_sub, lI_sub, and_self, and_true, true_and, and_false, false_and, b01, b01L, z10, z10L, lc_eq, lc_lt, lc_le, lc_ge, lc_gt, ent_n, ent_i, ent_l, ent_r, ent_u, tL_n, tL_s, ap_n, ap_c]
  exact lp_181 60 0 rfl
theorem rc_181 {M n nx : Nat} {ls r : List Value} {x : Int64} (hn : n % 1000 = 181) (hc : cs r ≤ 8) : RnC (EE N xs) 1 M n nx ls (.long x :: r) (K0, I, L) Q = Rn (EE N xs) M nx ls (.int (fsA (tb x) 60 0) :: r) (K0, I, L) Q := by
  have e := RnC_S (E := EE N xs) (M := M) (nx := nx) (ls := ls) (as := [.long x]) (r := r) (h := (K0, I, L)) (Q := Q) hn rfl (show (2 : Nat) ≤ mlM 181 by decide) hc
  exact e.trans (sp_181)
theorem lp_182 {x : Int64} : ∀ m, m ≤ 60 → Rn (EE N xs) 182 10003 [.long x, jk, .int (Int32.ofNat m + (-1))] [] (K0, I, L) Q = Q (some (.int (lsA (tb x) m))) (K0, I, L)
  | 0, h => by
    rw [n_182_10003]
    simp (maxSteps := 2000000) (disch := first | rfl | exact Nat.le_of_ble_eq_true rfl | assumption | omega) only [n_182_0, ric_59, n_182_2, ri_istore, s1_i1, s2_in, s2_io, s2_it, s1_r1, s2_rn, s2_ro, s2_rt, s1_n1, s2_nn, s2_no, s2_nt, s1_j1, s2_jn, s2_jo, s2_jt, sto1_1l, sto1_z, sto2_z0, sto2_z1, sto2_z2, s1_2, s2_2, s1_3, s2_3, s1_4, s2_4, s1_5, s2_5, s1_6, s2_6, s1_7, s2_7, s1_8, s2_8, s1_9, s2_9, s1_10, s2_10, s1_11, s2_11, s1_12, s2_12, s1_13, s2_13, s1_14, s2_14, s1_15, s2_15, tl_c, tl_n, n_182_3, ri_ret, tk_0, tk_1, tk_2, tk_3, tk_4, tk_5, tk_6, tk_7, tk_8, tk_9, tk_10, tk_11, tk_12, tk_13, ri_iload_2, n_182_4, ri_if_lt, tn_23, n_182_7, ri_lload_0, n_182_8, n_182_9, ri_lshr, n_182_10, rlc_1, n_182_11, ri_land, n_182_12, rlc_0, n_182_13, ri_lcmp, n_182_14, ri_if_ne, n_182_17, rin_2_m1, n_182_20, ri_goto, tn_3, n_182_23, n_182_24, ri_if_ge, tn_32, n_182_27, ric_m9, n_182_29, tn_33, n_182_32, n_182_33, rt_182, ite_not, cA0, cB0, cC0, cD0, cE0, cF0, cA1, cB1, cC1, cD1, cE1, cF1, cA2, cB2, cC2, cD2, cE2, cF2, cA3, cB3, cC3, cD3, cE3, cF3, vinT, vinN, li_clamp, iN_clamp, ↓reduceIte, if_true, if_false, iN_add1, iL_add, lI_add, iN_add, lI_mul, iL_mul, iN_mul, iN_sub, iL_sub, lI_sub, and_self, and_true, true_and, and_false, false_and, b01, b01L, z10, z10L, lc_eq, lc_lt, lc_le, lc_ge, lc_gt, ent_n, ent_i, ent_l, ent_r, ent_u, tL_n, tL_s, ap_n, ap_c]
    rfl
  | m + 1, h => by
    rw [n_182_10003, iN_dec]
    simp (maxSteps := 2000000) (disch := first | rfl | exact Nat.le_of_ble_eq_true rfl | assumption | omega) only [n_182_0, ric_59, n_182_2, ri_istore, s1_i1, s2_in, s2_io, s2_it, s1_r1, s2_rn, s2_ro, s2_rt, s1_n1, s2_nn, s2_no, s2_nt, s1_j1, s2_jn, s2_jo, s2_jt, sto1_1l, sto1_z, sto2_z0, sto2_z1, sto2_z2, s1_2, s2_2, s1_3, s2_3, s1_4, s2_4, s1_5, s2_5, s1_6, s2_6, s1_7, s2_7, s1_8, s2_8, s1_9, s2_9, s1_10, s2_10, s1_11, s2_11, s1_12, s2_12, s1_13, s2_13, s1_14, s2_14, s1_15, s2_15, tl_c, tl_n, n_182_3, ri_ret, tk_0, tk_1, tk_2, tk_3, tk_4, tk_5, tk_6, tk_7, tk_8, tk_9, tk_10, tk_11, tk_12, tk_13, ri_iload_2, n_182_4, ri_if_lt, tn_23, n_182_7, ri_lload_0, n_182_8, n_182_9, ri_lshr, n_182_10, rlc_1, n_182_11, ri_land, n_182_12, rlc_0, n_182_13, ri_lcmp, n_182_14, ri_if_ne, n_182_17, rin_2_m1, n_182_20, ri_goto, tn_3, n_182_23, n_182_24, ri_if_ge, tn_32, n_182_27, ric_m9, n_182_29, tn_33, n_182_32, n_182_33, rt_182, ite_not, cA0, cB0, cC0, cD0, cE0, cF0, cA1, cB1, cC1, cD1, cE1, cF1, cA2, cB2, cC2, cD2, cE2, cF2, cA3, cB3, cC3, cD3, cE3, cF3, vinT, vinN, li_clamp, iN_clamp, ↓reduceIte, if_true, if_false, iN_add1, iL_add, lI_add, iN_add, lI_mul, iL_mul, iN_mul, iN_sub, iL_sub, lI_sub, and_self, and_true, true_and, and_false, false_and, b01, b01L, z10, z10L, lc_eq, lc_lt, lc_le, lc_ge, lc_gt, ent_n, ent_i, ent_l, ent_r, ent_u, tL_n, tL_s, ap_n, ap_c, sshr1]
    unfold lsA
    by_cases z : tb x m = true
    · rw [if_pos z, if_pos z]
    · rw [if_neg z, if_neg z]
      exact lp_182 m (by omega)
theorem sp_182 {x : Int64} : Rn (EE N xs) 182 0 [.long x, jk] [] (K0, I, L) Q = Q (some (.int (lsA (tb x) 60))) (K0, I, L) := by
  simp (maxSteps := 2000000) (disch := first | rfl | exact Nat.le_of_ble_eq_true rfl | assumption | omega) only [n_182_0, ric_59, n_182_2, ri_istore, s1_i1, s2_in, s2_io, s2_it, s1_r1, s2_rn, s2_ro, s2_rt, s1_n1, s2_nn, s2_no, s2_nt, s1_j1, s2_jn, s2_jo, s2_jt, sto1_1l, sto1_z, sto2_z0, sto2_z1, sto2_z2, s1_2, s2_2, s1_3, s2_3, s1_4, s2_4, s1_5, s2_5, s1_6, s2_6, s1_7, s2_7, s1_8, s2_8, s1_9, s2_9, s1_10, s2_10, s1_11, s2_11, s1_12, s2_12, s1_13, s2_13, s1_14, s2_14, s1_15, s2_15, tl_c, tl_n, n_182_3, ri_ret, tk_0, tk_1, tk_2, tk_3, tk_4, tk_5, tk_6, tk_7, tk_8, tk_9, tk_10, tk_11, tk_12, tk_13, ri_iload_2, n_182_4, ri_if_lt, tn_23, n_182_7, ri_lload_0, n_182_8, n_182_9, ri_lshr, n_182_10, rlc_1, n_182_11, ri_land, n_182_12, rlc_0, n_182_13, ri_lcmp, n_182_14, ri_if_ne, n_182_17, rin_2_m1, n_182_20, ri_goto, tn_3, n_182_23, n_182_24, ri_if_ge, tn_32, n_182_27, ric_m9, n_182_29, tn_33, n_182_32, n_182_33, rt_182, ite_not, cA0, cB0, cC0, cD0, cE0, cF0, cA1, cB1, cC1, cD1, cE1, cF1, cA2, cB2, cC2, cD2, cE2, cF2, cA3, cB3, cC3, cD3, cE3, cF3, vinT, vinN, li_clamp, iN_clamp, ↓reduceIte, if_true, if_false, iN_add1, iL_add, lI_add, iN_add, lI_mul, iL_mul, iN_mul, iN_sub, iL_sub, lI_sub, and_self, and_true, true_and, and_false, false_and, b01, b01L, z10, z10L, lc_eq, lc_lt, lc_le, lc_ge, lc_gt, ent_n, ent_i, ent_l, ent_r, ent_u, tL_n, tL_s, ap_n, ap_c]
  exact lp_182 60 (by decide)
theorem rc_182 {M n nx : Nat} {ls r : List Value} {x : Int64} (hn : n % 1000 = 182) (hc : cs r ≤ 8) : RnC (EE N xs) 1 M n nx ls (.long x :: r) (K0, I, L) Q = Rn (EE N xs) M nx ls (.int (lsA (tb x) 60) :: r) (K0, I, L) Q := by
  have e := RnC_S (E := EE N xs) (M := M) (nx := nx) (ls := ls) (as := [.long x]) (r := r) (h := (K0, I, L)) (Q := Q) hn rfl (show (2 : Nat) ≤ mlM 182 by decide) hc
  exact e.trans (sp_182)
end S30
