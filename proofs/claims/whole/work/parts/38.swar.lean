/-! Long.bitCount counts the bits -/
def ush (x : Int64) (n : Int32) : Int64 := (x.toUInt64 >>> (n.toInt64.toUInt64 &&& Int64.toUInt64 63)).toInt64
def sw1 (x : Int64) : Int64 := x - (ush x 1 &&& 6148914691236517205)
def sw2 (x : Int64) : Int64 := (x &&& 3689348814741910323) + (ush x 2 &&& 3689348814741910323)
def sw3 (x : Int64) : Int64 := x + ush x 4 &&& 1085102592571150095
def sw4 (x : Int64) (n : Int32) : Int64 := x + ush x n
/-- c in each of j bytes -/
def mB (c : Nat) : Nat → Nat
  | 0 => 0
  | j + 1 => c + 256 * mB c j
def g1 (a : Nat) : Nat := a - (a / 2 &&& 85)
def g2 (a : Nat) : Nat := (a &&& 51) + (a / 4 &&& 51)
def g3 (a : Nat) : Nat := a + a / 16 &&& 15
theorem and_split {p q s t : Nat} (hp : p < 256) (hs : s < 256) : (p + 256 * q) &&& (s + 256 * t) = (p &&& s) + 256 * (q &&& t) := by
  have h1 : ((p + 256 * q) &&& (s + 256 * t)) % 256 = p &&& s := by
    have := Nat.and_mod_two_pow (a := p + 256 * q) (b := s + 256 * t) (n := 8)
    rw [show (2 : Nat) ^ 8 = 256 from rfl] at this
    rw [this, show (p + 256 * q) % 256 = p by omega, show (s + 256 * t) % 256 = s by omega]
  have h2 : ((p + 256 * q) &&& (s + 256 * t)) / 256 = q &&& t := by
    have := Nat.and_div_two_pow (a := p + 256 * q) (b := s + 256 * t) (n := 8)
    rw [show (2 : Nat) ^ 8 = 256 from rfl] at this
    rw [this, show (p + 256 * q) / 256 = q by omega, show (s + 256 * t) / 256 = t by omega]
  omega
def t1 (j n : Nat) : Nat := n - (n / 2 &&& mB 85 j)
def t2 (j n : Nat) : Nat := (n &&& mB 51 j) + (n / 4 &&& mB 51 j)
def t3 (j n : Nat) : Nat := n + n / 16 &&& mB 15 j
theorem d1 : ∀ a : Nat, a < 256 → ∀ b : Nat, b < 2 → (a / 2 + 128 * b) &&& 85 = a / 2 &&& 85 := by decide +kernel
theorem d1b : ∀ a : Nat, a < 256 → (a / 2 &&& 85) ≤ a := by decide +kernel
theorem d2 : ∀ a : Nat, a < 256 → ∀ b : Nat, b < 4 → (a / 4 + 64 * b) &&& 51 = a / 4 &&& 51 := by decide +kernel
theorem d3 : ∀ a : Nat, a < 256 → ∀ b : Nat, b < 16 → g3 a < 256 ∧ (g2 (g1 a) + g2 (g1 a) / 16 + 16 * b) % 256 &&& 15 = g2 (g1 a) + g2 (g1 a) / 16 &&& 15 := by decide +kernel
theorem d4 : ∀ a : Nat, a < 256 → g1 a < 256 ∧ g2 (g1 a) < 256 ∧ g2 (g1 a) + g2 (g1 a) / 16 < 112 ∧ g3 (g2 (g1 a)) ≤ 8 ∧ g3 (g2 (g1 a)) = pcN (fun i => a.testBit i) 8 ∧ g2 (g1 a) % 16 ≤ 4 ∧ g2 (g1 a) / 16 ≤ 4 := by decide +kernel
theorem t1_le (j n : Nat) : (n / 2 &&& mB 85 j) ≤ n := Nat.le_trans Nat.and_le_left (Nat.div_le_self _ _)
theorem t1_s {j a r : Nat} (ha : a < 256) : t1 (j + 1) (a + 256 * r) = g1 a + 256 * t1 j r := by
  have e : (a + 256 * r) / 2 = (a / 2 + 128 * (r % 2)) + 256 * (r / 2) := by omega
  have h1 := d1 a ha (r % 2) (by omega)
  have h2 := d1b a ha
  have h3 := t1_le j r
  unfold t1 g1
  rw [e, show mB 85 (j + 1) = 85 + 256 * mB 85 j from rfl, and_split (by omega) (by decide), h1]
  omega
theorem t2_s {j a r : Nat} (ha : a < 256) : t2 (j + 1) (a + 256 * r) = g2 a + 256 * t2 j r := by
  have e : (a + 256 * r) / 4 = (a / 4 + 64 * (r % 4)) + 256 * (r / 4) := by omega
  have h1 := d2 a ha (r % 4) (by omega)
  unfold t2 g2
  rw [e, show mB 51 (j + 1) = 51 + 256 * mB 51 j from rfl, and_split ha (by decide), and_split (by omega) (by decide), h1]
  omega
/-- the bytes' counts, side by side -/
def cB (n : Nat) : Nat → Nat
  | 0 => 0
  | j + 1 => g3 (g2 (g1 (n % 256))) + 256 * cB (n / 256) j
theorem t12 : ∀ (j n : Nat), n < 256 ^ j → t2 j (t1 j n) < 256 ^ j ∧ (t2 j (t1 j n)) % 16 ≤ 4 ∧ t3 j (t2 j (t1 j n)) = cB n j
  | 0, n, h => by
    have e : n = 0 := by omega
    subst e
    exact ⟨by decide, by decide, rfl⟩
  | j + 1, n, h => by
    have hr : n / 256 < 256 ^ j := by
      rw [Nat.pow_succ] at h
      omega
    obtain ⟨i1, i2, i3⟩ := t12 j (n / 256) hr
    have ha : n % 256 < 256 := Nat.mod_lt _ (by decide)
    obtain ⟨a1, a2, a3, a4, -, a5, a6⟩ := d4 _ ha
    have e1 : t2 (j + 1) (t1 (j + 1) n) = g2 (g1 (n % 256)) + 256 * t2 j (t1 j (n / 256)) := by
      rw [show n = n % 256 + 256 * (n / 256) by omega, t1_s ha, t2_s a1]
      rw [show (n % 256 + 256 * (n / 256)) % 256 = n % 256 by omega, show (n % 256 + 256 * (n / 256)) / 256 = n / 256 by omega]
    refine ⟨?_, ?_, ?_⟩
    · rw [e1, Nat.pow_succ]
      omega
    · rw [e1]
      omega
    · rw [e1]
      show t3 (j + 1) (g2 (g1 (n % 256)) + 256 * t2 j (t1 j (n / 256))) = g3 (g2 (g1 (n % 256))) + 256 * cB (n / 256) j
      rw [← i3]
      generalize t2 j (t1 j (n / 256)) = w at *
      have hb := (d3 _ ha (w % 16) (by omega)).2
      generalize g2 (g1 (n % 256)) = v at *
      have e : v + 256 * w + (v + 256 * w) / 16 = (v + v / 16 + 16 * (w % 16)) % 256 + 256 * (w + w / 16) := by omega
      unfold t3 g3
      rw [e, show mB 15 (j + 1) = 15 + 256 * mB 15 j from rfl, and_split (Nat.mod_lt _ (by decide)) (by decide), hb]
theorem pcN_add (p : Nat → Bool) (m : Nat) : ∀ n, pcN p (m + n) = pcN p m + pcN (fun i => p (m + i)) n
  | 0 => rfl
  | n + 1 => by
    have ih := pcN_add p m n
    show pcN p (m + n) + (if p (m + n) = true then 1 else 0) = pcN p m + (pcN (fun i => p (m + i)) n + (if p (m + n) = true then 1 else 0))
    omega
/-- the counts of j bytes, added -/
def cS (n : Nat) : Nat → Nat
  | 0 => 0
  | j + 1 => g3 (g2 (g1 (n % 256))) + cS (n / 256) j
theorem cS_pc : ∀ (j n : Nat), cS n j = pcN (fun i => n.testBit i) (8 * j)
  | 0, n => rfl
  | j + 1, n => by
    have ha : n % 256 < 256 := Nat.mod_lt _ (by decide)
    obtain ⟨-, -, -, -, a5, -, -⟩ := d4 _ ha
    rw [show 8 * (j + 1) = 8 + 8 * j by omega, pcN_add]
    show g3 (g2 (g1 (n % 256))) + cS (n / 256) j = _
    rw [a5, cS_pc j (n / 256)]
    have e1 : pcN (fun i => (n % 256).testBit i) 8 = pcN (fun i => n.testBit i) 8 := by
      apply pcN_congr
      intro i hi
      have := Nat.testBit_mod_two_pow n 8 i
      rw [show (2 : Nat) ^ 8 = 256 from rfl] at this
      show (n % 256).testBit i = n.testBit i
      rw [this, decide_eq_true hi, Bool.true_and]
    have e2 : pcN (fun i => (n / 256).testBit i) (8 * j) = pcN (fun i => n.testBit (8 + i)) (8 * j) := by
      apply pcN_congr
      intro i _
      have this : (n / 2 ^ 8).testBit i = n.testBit (i + 8) := Nat.testBit_div_two_pow n i
      rw [show (2 : Nat) ^ 8 = 256 from rfl] at this
      show (n / 256).testBit i = n.testBit (8 + i)
      rw [this, Nat.add_comm]
    rw [e1, e2]
theorem cB_le : ∀ (j n : Nat), cB n j < 9 * 256 ^ j
  | 0, n => by
    show 0 < 9 * 256 ^ 0
    decide
  | j + 1, n => by
    have ha : n % 256 < 256 := Nat.mod_lt _ (by decide)
    obtain ⟨-, -, -, a4, -, -, -⟩ := d4 _ ha
    have := cB_le j (n / 256)
    show _ + 256 * cB (n / 256) j < _
    rw [Nat.pow_succ]
    have p : 0 < 256 ^ j := Nat.pow_pos (by decide)
    omega
theorem fold8 (n : Nat) : let i := cB n 8; let i1 := i + i / 256; let i2 := i1 + i1 / 65536; let i3 := i2 + i2 / 4294967296; i3 % 128 = cS n 8 ∧ i < 1000000000000000000 := by
  have k : ∀ m : Nat, g3 (g2 (g1 (m % 256))) ≤ 8 := fun m => (d4 _ (Nat.mod_lt _ (by decide))).2.2.2.1
  simp only [cB, cS]
  have b0 := k n
  have b1 := k (n / 256)
  have b2 := k (n / 256 / 256)
  have b3 := k (n / 256 / 256 / 256)
  have b4 := k (n / 256 / 256 / 256 / 256)
  have b5 := k (n / 256 / 256 / 256 / 256 / 256)
  have b6 := k (n / 256 / 256 / 256 / 256 / 256 / 256)
  have b7 := k (n / 256 / 256 / 256 / 256 / 256 / 256 / 256)
  generalize g3 (g2 (g1 (n % 256))) = c0 at *
  generalize g3 (g2 (g1 (n / 256 % 256))) = c1 at *
  generalize g3 (g2 (g1 (n / 256 / 256 % 256))) = c2 at *
  generalize g3 (g2 (g1 (n / 256 / 256 / 256 % 256))) = c3 at *
  generalize g3 (g2 (g1 (n / 256 / 256 / 256 / 256 % 256))) = c4 at *
  generalize g3 (g2 (g1 (n / 256 / 256 / 256 / 256 / 256 % 256))) = c5 at *
  generalize g3 (g2 (g1 (n / 256 / 256 / 256 / 256 / 256 / 256 % 256))) = c6 at *
  generalize g3 (g2 (g1 (n / 256 / 256 / 256 / 256 / 256 / 256 / 256 % 256))) = c7 at *
  generalize h7 : c7 + 256 * 0 = j7 at *
  generalize h6 : c6 + 256 * j7 = j6 at *
  generalize h5 : c5 + 256 * j6 = j5 at *
  generalize h4 : c4 + 256 * j5 = j4 at *
  generalize h3 : c3 + 256 * j4 = j3 at *
  generalize h2 : c2 + 256 * j3 = j2 at *
  generalize h1 : c1 + 256 * j2 = j1 at *
  have e1 : (c0 + 256 * j1) / 256 = j1 := by
    clear h1 h2 h3 h4 h5 h6 h7
    omega
  rw [e1]
  have e3 : (c0 + 256 * j1 + j1) / 65536 = j2 + j3 := by
    have q : c0 + 256 * j1 + j1 = (c0 + c1 + 256 * (c1 + c2)) + 65536 * (j2 + j3) := by
      clear b0 b1 b2 b3 b4 b5 b6 b7 h3 h4 h5 h6 h7
      omega
    rw [q]
    clear h1 h2 h3 h4 h5 h6 h7 b3 b4 b5 b6 b7
    omega
  rw [e3]
  have e6 : c0 + 256 * j1 + j1 + (j2 + j3) = ((c0 + c1 + c2 + c3) + 256 * (c1 + c2 + c3 + c4) + 65536 * ((c2 + c3 + c4 + c5) + 256 * (c3 + c4 + c5 + c6))) + 4294967296 * (j4 + j5 + j6 + j7) := by
    clear b0 b1 b2 b3 b4 b5 b6 b7 h7
    omega
  have e7 : (c0 + 256 * j1 + j1 + (j2 + j3)) / 4294967296 = j4 + j5 + j6 + j7 := by
    rw [e6]
    clear h1 h2 h3 h4 h5 h6 h7 e1 e3 e6
    omega
  rw [e7]
  have e9 : j1 < 3000000000000000 := by
    clear e1 e3 e6 e7
    omega
  constructor
  · have e8 : c0 + 256 * j1 + j1 + (j2 + j3) + (j4 + j5 + j6 + j7) = (c0 + c1 + c2 + c3 + c4 + c5 + c6 + c7) + 128 * (2 * (c1 + c2 + c3 + c4) + 512 * ((c2 + c3 + c4 + c5) + 256 * (c3 + c4 + c5 + c6)) + 33554432 * (j4 + j5 + j6 + j7) + 2 * (j5 + j6 + j7)) := by
      rw [e6]
      clear b0 b1 b2 b3 b4 b5 b6 b7 h1 h2 h3 e1 e3 e6 e7 e9
      omega
    rw [e8, Nat.add_mul_mod_self_left]
    clear h1 h2 h3 h4 h5 h6 e1 e3 e6 e7 e8 e9
    omega
  · clear h1 h2 h3 h4 h5 h6 h7 e1 e3 e6 e7
    omega
def tn (x : Int64) : Nat := x.toBitVec.toNat
theorem tn_lt (x : Int64) : tn x < 2 ^ 64 := x.toBitVec.isLt
theorem tn_and (x y : Int64) : tn (x &&& y) = tn x &&& tn y := by
  unfold tn
  rw [Int64.toBitVec_and, BitVec.toNat_and]
theorem tn_add {x y : Int64} (h : tn x + tn y < 2 ^ 64) : tn (x + y) = tn x + tn y := by
  unfold tn at *
  rw [Int64.toBitVec_add, BitVec.toNat_add, Nat.mod_eq_of_lt h]
theorem tn_sub {x y : Int64} (h : tn y ≤ tn x) : tn (x - y) = tn x - tn y := by
  have := tn_lt x
  unfold tn at *
  rw [Int64.toBitVec_sub, BitVec.toNat_sub]
  omega
theorem tn_ush {x : Int64} {n : Nat} (h : n < 64) : tn (ush x (Int32.ofNat n)) = tn x / 2 ^ n := by
  unfold tn ush
  rw [ushr_bv h, BitVec.toNat_ushiftRight, Nat.shiftRight_eq_div_pow]
theorem tn_lit : tn 6148914691236517205 = mB 85 8 ∧ tn 3689348814741910323 = mB 51 8 ∧ tn 1085102592571150095 = mB 15 8 := by decide +kernel
theorem sw_all (x : Int64) : tn (sw3 (sw2 (sw1 x))) = cB (tn x) 8 := by
  have h1 : tn (sw1 x) = t1 8 (tn x) := by
    have e : tn (ush x 1 &&& 6148914691236517205) = (tn x / 2 &&& mB 85 8) := by
      rw [tn_and, show (1 : Int32) = Int32.ofNat 1 from rfl, tn_ush (by decide), tn_lit.1]
    unfold sw1 t1
    rw [tn_sub, e]
    rw [e]
    exact t1_le 8 _
  have hx : tn x < 256 ^ 8 := tn_lt x
  obtain ⟨q1, -, q3⟩ := t12 8 (tn x) hx
  have h2 : tn (sw2 (sw1 x)) = t2 8 (t1 8 (tn x)) := by
    have e1 : tn (sw1 x &&& 3689348814741910323) = (t1 8 (tn x) &&& mB 51 8) := by
      rw [tn_and, h1, tn_lit.2.1]
    have e2 : tn (ush (sw1 x) 2 &&& 3689348814741910323) = (t1 8 (tn x) / 4 &&& mB 51 8) := by
      rw [tn_and, show (2 : Int32) = Int32.ofNat 2 from rfl, tn_ush (by decide), tn_lit.2.1, h1]
    unfold sw2
    rw [tn_add, e1, e2]
    · rfl
    · rw [e1, e2]
      exact q1
  have lim : t2 8 (t1 8 (tn x)) + t2 8 (t1 8 (tn x)) / 16 < 2 ^ 64 := by
    have m5 : mB 51 8 = 3689348814741910323 := by decide
    have a1 : (t1 8 (tn x) &&& mB 51 8) ≤ mB 51 8 := Nat.and_le_right
    have a2 : (t1 8 (tn x) / 4 &&& mB 51 8) ≤ mB 51 8 := Nat.and_le_right
    have a3 : t2 8 (t1 8 (tn x)) = (t1 8 (tn x) &&& mB 51 8) + (t1 8 (tn x) / 4 &&& mB 51 8) := rfl
    omega
  have e3 : tn (ush (sw2 (sw1 x)) 4) = t2 8 (t1 8 (tn x)) / 16 := by
    rw [show (4 : Int32) = Int32.ofNat 4 from rfl, tn_ush (by decide), h2]
  unfold sw3
  rw [tn_and, tn_add, h2, e3, tn_lit.2.2]
  · exact q3
  · rw [h2, e3]
    exact lim
theorem swar (x : Int64) : (sw4 (sw4 (sw4 (sw3 (sw2 (sw1 x))) 8) 16) 32).toInt32 &&& 127 = Int32.ofNat (pc x) := by
  have h0 := sw_all x
  obtain ⟨f1, f2⟩ := fold8 (tn x)
  generalize sw3 (sw2 (sw1 x)) = y at *
  have h1 : tn (sw4 y 8) = cB (tn x) 8 + cB (tn x) 8 / 256 := by
    have e : tn (ush y 8) = cB (tn x) 8 / 256 := by rw [show (8 : Int32) = Int32.ofNat 8 from rfl, tn_ush (by decide), h0]
    unfold sw4
    rw [tn_add, h0, e]
    rw [h0, e]
    omega
  have h2 : tn (sw4 (sw4 y 8) 16) = tn (sw4 y 8) + tn (sw4 y 8) / 65536 := by
    have e : tn (ush (sw4 y 8) 16) = tn (sw4 y 8) / 65536 := by rw [show (16 : Int32) = Int32.ofNat 16 from rfl, tn_ush (by decide)]
    show tn (sw4 y 8 + ush (sw4 y 8) 16) = _
    rw [tn_add, e]
    rw [e, h1]
    omega
  have h3 : tn (sw4 (sw4 (sw4 y 8) 16) 32) = tn (sw4 (sw4 y 8) 16) + tn (sw4 (sw4 y 8) 16) / 4294967296 := by
    have e : tn (ush (sw4 (sw4 y 8) 16) 32) = tn (sw4 (sw4 y 8) 16) / 4294967296 := by rw [show (32 : Int32) = Int32.ofNat 32 from rfl, tn_ush (by decide)]
    show tn (sw4 (sw4 y 8) 16 + ush (sw4 (sw4 y 8) 16) 32) = _
    rw [tn_add, e]
    rw [e, h2, h1]
    omega
  have hm : tn (sw4 (sw4 (sw4 y 8) 16) 32) % 128 = pc x := by
    rw [h3, h2, h1]
    rw [show pc x = cS (tn x) 8 from (cS_pc 8 (tn x)).symm]
    exact f1
  generalize sw4 (sw4 (sw4 y 8) 16) 32 = w at *
  apply Int32.toBitVec_inj.mp
  apply BitVec.eq_of_toNat_eq
  rw [Int32.toBitVec_and, BitVec.toNat_and]
  have e1 : w.toInt32.toBitVec.toNat = tn w % 2 ^ 32 := by
    unfold tn
    rw [Int64.toBitVec_toInt32]
    unfold BitVec.signExtend
    rw [BitVec.toNat_ofInt, BitVec.toInt_eq_toNat_cond]
    split
    · omega
    · omega
  have e2 : (127 : Int32).toBitVec.toNat = 2 ^ 7 - 1 := rfl
  have e3 : (Int32.ofNat (pc x)).toBitVec.toNat = pc x := by
    have := pc_le x
    show (BitVec.ofNat 32 (pc x)).toNat = _
    rw [BitVec.toNat_ofNat]
    omega
  rw [e1, e2, e3, Nat.and_two_pow_sub_one_eq_mod, ← hm]
  omega
section S38
variable {N : Nat} {xs : Nat → Int32} {I : Nat → Nat → Int32} {L : Nat → Nat → Int64} {Q : Option Value → AH → Prop}
theorem sp_75 {x : Int64} : Rn (EE N xs) 75 0 [.long x, jk] [] (K0, I, L) Q = Q (some (.int (Int32.ofNat (pc x)))) (K0, I, L) := by
  rw [← swar]
  simp (maxSteps := 2000000) (disch := first | rfl | exact Nat.le_of_ble_eq_true rfl | assumption | omega) only [n_75_0, ri_lload_0, n_75_1, n_75_2, ric_1, n_75_3, ri_lushr, n_75_4, rd2_2, n_75_7, ri_land, n_75_8, ri_lsub, n_75_9, ri_lstore, s1_i1, s2_in, s2_io, s2_it, s1_r1, s2_rn, s2_ro, s2_rt, s1_n1, s2_nn, s2_no, s2_nt, s1_j1, s2_jn, s2_jo, s2_jt, sto1_1l, sto1_z, sto2_z0, sto2_z1, sto2_z2, s1_2, s2_2, s1_3, s2_3, s1_4, s2_4, s1_5, s2_5, s1_6, s2_6, s1_7, s2_7, s1_8, s2_8, s1_9, s2_9, s1_10, s2_10, s1_11, s2_11, s1_12, s2_12, s1_13, s2_13, s1_14, s2_14, s1_15, s2_15, tl_c, tl_n, n_75_10, n_75_11, rd2_3, n_75_14, n_75_15, n_75_16, ric_2, n_75_17, n_75_18, n_75_21, n_75_22, ri_ladd, n_75_23, n_75_24, n_75_25, n_75_26, ric_4, n_75_27, n_75_28, n_75_29, rd2_4, n_75_32, n_75_33, n_75_34, n_75_35, n_75_36, ric_8, n_75_38, n_75_39, n_75_40, n_75_41, n_75_42, n_75_43, ric_16, n_75_45, n_75_46, n_75_47, n_75_48, n_75_49, n_75_50, ric_32, n_75_52, n_75_53, n_75_54, n_75_55, n_75_56, ri_l2i, n_75_57, ric_127, n_75_59, ri_iand, n_75_60, rt_75, ite_not, cA0, cB0, cC0, cD0, cE0, cF0, cA1, cB1, cC1, cD1, cE1, cF1, cA2, cB2, cC2, cD2, cE2, cF2, cA3, cB3, cC3, cD3, cE3, cF3, vinT, vinN, li_clamp, iN_clamp, ↓reduceIte, if_true, if_false, iN_add1, iL_add, lI_add, iN_add, lI_mul, iL_mul, iN_mul, iN_sub, iL_sub, lI_sub, and_self, and_true, true_and, and_false, false_and, b01, b01L, z10, z10L, lc_eq, lc_lt, lc_le, lc_ge, lc_gt, ent_n, ent_i, ent_l, ent_r, ent_u, tL_n, tL_s, ap_n, ap_c]
  rfl
theorem rc_75 {M n nx : Nat} {ls r : List Value} {x : Int64} (hn : n % 1000 = 75) (hc : cs r ≤ 8) : RnC (EE N xs) 1 M n nx ls (.long x :: r) (K0, I, L) Q = Rn (EE N xs) M nx ls (.int (Int32.ofNat (pc x)) :: r) (K0, I, L) Q := by
  have e := RnC_S (E := EE N xs) (M := M) (nx := nx) (ls := ls) (as := [.long x]) (r := r) (h := (K0, I, L)) (Q := Q) hn rfl (show (2 : Nat) ≤ mlM 75 by decide) hc
  exact e.trans (sp_75)
theorem i64_bc : ∀ g : Nat, g < 64 → pc (Int32.ofNat g).toInt64 ≤ 6 := by decide +kernel
end S38
