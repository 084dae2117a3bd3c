/-! AMENDS -/
theorem L_toInt {a : Nat} (h : a < 9223372036854775808) : (Int64.ofNat a).toInt = a := Int64.toInt_ofNat_of_lt h
theorem L_le {a b : Nat} (ha : a < 9223372036854775808) (hb : b < 9223372036854775808) : (Int64.ofNat a ≤ Int64.ofNat b) = (a ≤ b) := by
  rw [Int64.le_iff_toInt_le, L_toInt ha, L_toInt hb]
  exact propext ⟨fun h => by omega, fun h => by omega⟩
theorem L_lt {a b : Nat} (ha : a < 9223372036854775808) (hb : b < 9223372036854775808) : (Int64.ofNat a < Int64.ofNat b) = (a < b) := by
  rw [Int64.lt_iff_toInt_lt, L_toInt ha, L_toInt hb]
  exact propext ⟨fun h => by omega, fun h => by omega⟩
theorem L_eq {a b : Nat} (ha : a < 9223372036854775808) (hb : b < 9223372036854775808) : (Int64.ofNat a = Int64.ofNat b) = (a = b) := by
  refine propext ⟨fun h => ?_, fun h => by rw [h]⟩
  have e := congrArg Int64.toInt h
  rw [L_toInt ha, L_toInt hb] at e
  omega
theorem L_of {c : Nat} (h : c < 2147483648) : (Int32.ofNat c).toInt64 = Int64.ofNat c := by
  apply Int64.toInt_inj.mp
  rw [Int32.toInt_toInt64, iN_toInt h, L_toInt (by omega)]
theorem L_add {a b : Nat} : Int64.ofNat a + Int64.ofNat b = Int64.ofNat (a + b) := (Int64.ofNat_add a b).symm
theorem L_mul {a b : Nat} : Int64.ofNat a * Int64.ofNat b = Int64.ofNat (a * b) := (Int64.ofNat_mul a b).symm
theorem L_sub {a b : Nat} (h : b ≤ a) : Int64.ofNat a - Int64.ofNat b = Int64.ofNat (a - b) := by
  obtain ⟨c, rfl⟩ := Nat.le.dest h
  rw [Nat.add_sub_cancel_left, ← L_add]
  grind
theorem L_div {x n : Nat} (hx : x < 9223372036854775808) (hn : n < 9223372036854775808) : Int64.ofNat x / Int64.ofNat n = Int64.ofNat (x / n) := by
  have hd : x / n ≤ x := Nat.div_le_self _ _
  apply Int64.toInt_inj.mp
  rw [Int64.toInt_div, L_toInt hx, L_toInt hn, L_toInt (by omega)]
  have e : (x : Int).tdiv (n : Int) = ((x / n : Nat) : Int) := rfl
  rw [e]
  generalize x / n = q at hd ⊢
  exact Int.bmod_eq_of_le (by omega) (by omega)
theorem L_rem {a b : Nat} (ha : a < 9223372036854775808) (hb : b < 9223372036854775808) : Int64.ofNat a - Int64.ofNat a / Int64.ofNat b * Int64.ofNat b = Int64.ofNat (a % b) := by
  rw [L_div ha hb, L_mul, L_sub (Nat.div_mul_le_self _ _)]
  have := Nat.div_add_mod' a b
  congr 1
  omega
theorem L_pos {x y : Nat} (hx : x < 1000000000000) (hy : y < 1000000000000) : (0 < Int64.ofNat x - Int64.ofNat y) = (y < x) ∧ (Int64.ofNat x - Int64.ofNat y = 0) = (x = y) := by
  have a1 : (0 : Int64) ≤ Int64.ofNat x := by rw [show (0 : Int64) = Int64.ofNat 0 from rfl, L_le (by omega) (by omega)]; omega
  have a2 : Int64.ofNat x ≤ Int64.ofNat 1000000000000 := by rw [L_le (by omega) (by omega)]; omega
  have b1 : (0 : Int64) ≤ Int64.ofNat y := by rw [show (0 : Int64) = Int64.ofNat 0 from rfl, L_le (by omega) (by omega)]; omega
  have b2 : Int64.ofNat y ≤ Int64.ofNat 1000000000000 := by rw [L_le (by omega) (by omega)]; omega
  have c : Int64.ofNat 1000000000000 = 1000000000000 := rfl
  rw [c] at a2 b2
  rw [← L_lt (a := y) (b := x) (by omega) (by omega), ← L_eq (a := x) (b := y) (by omega) (by omega)]
  generalize Int64.ofNat x = u at *
  generalize Int64.ofNat y = v at *
  constructor
  · refine propext ?_
    grind
  · refine propext ?_
    grind
def slN (l : Nat → Nat) : Nat → Nat
  | 0 => 0
  | n + 1 => slN l n + l n
theorem slN_le {l : Nat → Nat} {m : Nat} (h : ∀ k, l k ≤ m) : ∀ n, slN l n ≤ m * n
  | 0 => Nat.le_refl _
  | n + 1 => by
    have := slN_le h n
    have := h n
    show slN l n + l n ≤ m * (n + 1)
    rw [Nat.mul_succ]
    omega
theorem slN_z {l : Nat → Nat} {n : Nat} (h : ∀ k, n ≤ k → l k = 0) : ∀ d, slN l (n + d) = slN l n
  | 0 => rfl
  | d + 1 => by
    show slN l (n + d) + l (n + d) = _
    rw [slN_z h d, h (n + d) (by omega)]
    omega
/-- what is left of the purse behind n cabins; how many cabins lost more by rounding -/
def ovF (p A : Nat) (l : Nat → Nat) : Nat → Int64
  | 0 => Int64.ofNat p
  | n + 1 => ovF p A l n - Int64.ofNat (p * l n / A)
def ahB (p A : Nat) (l : Nat → Nat) (k o : Nat) : Bool := decide (p * l k % A < p * l o % A) || (decide (p * l o % A = p * l k % A) && decide (o < k))
theorem ovF_z {p A n : Nat} {l : Nat → Nat} (h : ∀ k, n ≤ k → l k = 0) : ∀ d, ovF p A l (n + d) = ovF p A l n
  | 0 => rfl
  | d + 1 => by
    show ovF p A l (n + d) - Int64.ofNat (p * l (n + d) / A) = _
    rw [ovF_z h d, h (n + d) (by omega), Nat.mul_zero, Nat.zero_div]
    generalize ovF p A l n = x
    show x - 0 = x
    grind
theorem ahB_z {p A n k : Nat} {l : Nat → Nat} (hk : k < n) (h : ∀ k, n ≤ k → l k = 0) {o : Nat} (ho : n ≤ o) : ahB p A l k o = false := by
  unfold ahB
  rw [h o ho, Nat.mul_zero, Nat.zero_mod]
  simp only [Bool.or_eq_false_iff, Bool.and_eq_false_iff, decide_eq_false_iff_not]
  omega
theorem pcN_z {q : Nat → Bool} {n : Nat} (h : ∀ o, n ≤ o → q o = false) : ∀ d, pcN q (n + d) = pcN q n
  | 0 => rfl
  | d + 1 => by
    show pcN q (n + d) + (if q (n + d) = true then 1 else 0) = _
    rw [pcN_z h d, h (n + d) (by omega), if_neg (by decide)]
    rfl
section S53
variable {N : Nat} {xs : Nat → Int32} {I : Nat → Nat → Int32} {L : Nat → Nat → Int64} {Q : Option Value → AH → Prop}
/-- the losses as numbers -/
theorem loss_nat (inv : Inv I L) : ∃ (h nc : Nat) (l : Nat → Nat), h ≤ 12 ∧ nc ≤ 8 ∧ I 13 1 = Int32.ofNat h ∧ I 107 0 = Int32.ofNat h ∧ I 9 3 = Int32.ofNat nc ∧ I 106 14 = Int32.ofNat nc ∧ (∀ k, l k ≤ 119988) ∧ (∀ k, nc ≤ k → l k = 0) ∧ ∀ k, k < 8 → smN (lcC I (Int32.ofNat k)) h = Int32.ofNat (l k) ∧ smN (lcM I (Int32.ofNat k)) h = Int32.ofNat (l k) := by
  obtain ⟨it, ⟨nc, iy, ib, im⟩, iu, iw, ia⟩ := id inv
  obtain ⟨nt, hnt, t1, t2, t3⟩ := id it
  obtain ⟨y0, y1, y2, y3, y4, y5, y6⟩ := id iy
  obtain ⟨h, h12, b1, b2, b3⟩ := InvB_get ib
  obtain ⟨u, u1, ⟨u2a, u2b⟩, u3q, ⟨u4a, u4b⟩, ⟨u5a, u5b⟩, u6q⟩ := id iu
  have one : ∀ (k : Int32) n, n ≤ h → ∃ c, c ≤ 9999 * n ∧ smN (lcC I k) n = Int32.ofNat c := by
    intro k n
    induction n with
    | zero => exact fun _ => ⟨0, by omega, rfl⟩
    | succ n ih =>
      intro hn
      obtain ⟨c, c1, c2⟩ := ih (by omega)
      have hn2 : n < h := hn
      obtain ⟨ck, ca, cb, cg, cl, ce, cn, ⟨k1, k2, k3, k4, k5, k6, k7, k8⟩, ⟨f0, g0⟩, ⟨f1, g1⟩, ⟨f2, g2⟩, ⟨f3, g3⟩, ⟨f4, g4⟩, ⟨f5, g5⟩, ⟨f6, g6⟩, cc⟩ := b3 n hn2
      have e : ∃ d, d ≤ 9999 ∧ lcC I k n = Int32.ofNat d := by
        unfold lcC
        split
        · split
          · next p =>
            rw [f6] at p
            have p2 : 0 < cn := by
              rw [show (0 : Int32) = Int32.ofNat 0 from rfl, iN_lt (by decide) (by omega)] at p
              exact p
            obtain ⟨m, m1, m2, -⟩ := cc 0 p2
            exact ⟨m, by omega, m2⟩
          · exact ⟨0, by omega, rfl⟩
        · exact ⟨0, by omega, rfl⟩
      obtain ⟨d, d1, d2⟩ := e
      refine ⟨c + d, by omega, ?_⟩
      show smN (lcC I k) n + lcC I k n = _
      rw [c2, d2, iN_add]
  have zer : ∀ k, nc ≤ k → k < 8 → smN (lcC I (Int32.ofNat k)) h = 0 := by
    intro k hk h8
    rw [smN_congr (g := fun _ => 0) h (fun t ht => ?_), smN_zero]
    obtain ⟨ck, ca, cb, cg, cl, ce, cn, ⟨k1, k2, k3, k4, k5, k6, k7, k8⟩, ⟨f0, g0⟩, ⟨f1, g1⟩, ⟨f2, g2⟩, ⟨f3, g3⟩, ⟨f4, g4⟩, ⟨f5, g5⟩, ⟨f6, g6⟩, cc⟩ := b3 t ht
    unfold lcC
    rw [if_neg]
    rintro ⟨q, -⟩
    rw [f0] at q
    have := (iN_eq (by omega) (by omega)).mp q
    omega
  refine ⟨h, nc, fun k => if k < nc then (smN (lcC I (Int32.ofNat k)) h).toNatClampNeg else 0, h12, y0, b1, b2, y1, y2, fun k => ?_, fun k hk => if_neg (by omega), fun k hk => ?_⟩
  · by_cases z : k < nc
    · obtain ⟨c, c1, c2⟩ := one (Int32.ofNat k) h (Nat.le_refl _)
      show (if k < nc then _ else 0) ≤ _
      rw [if_pos z, c2, iN_clamp (by omega)]
      omega
    · show (if k < nc then _ else 0) ≤ _
      rw [if_neg z]
      omega
  · have e : smN (lcC I (Int32.ofNat k)) h = smN (lcM I (Int32.ofNat k)) h := smN_congr h (fun t ht => (lc_same ib iu b1 h12 ht).1)
    rw [← e]
    have : smN (lcC I (Int32.ofNat k)) h = Int32.ofNat (if k < nc then (smN (lcC I (Int32.ofNat k)) h).toNatClampNeg else 0) := by
      by_cases z : k < nc
      · obtain ⟨c, c1, c2⟩ := one (Int32.ofNat k) h (Nat.le_refl _)
        rw [if_pos z, c2, iN_clamp (by omega)]
      · rw [if_neg z, zer k (by omega) hk]
        rfl
    exact ⟨this, this⟩
theorem lp_132a {h : Nat} {p k : Int32} {l : Nat → Nat} (hl : ∀ k, l k ≤ 119988) (hh : I 13 1 = Int32.ofNat h) (h12 : h ≤ 12) (lo : ∀ k, k < 8 → smN (lcC I (Int32.ofNat k)) h = Int32.ofNat (l k)) : ∀ d i, i + d = 8 → Rn (EE N xs) 132 10005 [.ref 8, .int p, .int k, .long (Int64.ofNat (slN l i)), jk, .int (Int32.ofNat i)] [] (K0, I, L) Q = Rn (EE N xs) 132 10005 [.ref 8, .int p, .int k, .long (Int64.ofNat (slN l 8)), jk, .int (Int32.ofNat 8)] [] (K0, I, L) Q
  | 0, i, e => by
    have e : i = 8 := e
    subst e
    rfl
  | d + 1, i, e => by
    have ih := lp_132a (p := p) (k := k) hl hh h12 lo d (i + 1) (by omega)
    have li := lo i (by omega)
    have b := hl i
    rw [← ih]
    conv => lhs; rw [n_132_10005]
    have e2 : Int64.ofNat (slN l i) + (Int32.ofNat (l i)).toInt64 = Int64.ofNat (slN l (i + 1)) := by
      rw [L_of (by omega), L_add]
      rfl
    simp (maxSteps := 2000000) (disch := first | rfl | exact Nat.le_of_ble_eq_true rfl | assumption | omega) only [n_132_0, rlc_0, n_132_1, ri_lstore, s1_i1, s2_in, s2_io, s2_it, s1_r1, s2_rn, s2_ro, s2_rt, s1_n1, s2_nn, s2_no, s2_nt, s1_j1, s2_jn, s2_jo, s2_jt, sto1_1l, sto1_z, sto2_z0, sto2_z1, sto2_z2, s1_2, s2_2, s1_3, s2_3, s1_4, s2_4, s1_5, s2_5, s1_6, s2_6, s1_7, s2_7, s1_8, s2_8, s1_9, s2_9, s1_10, s2_10, s1_11, s2_11, s1_12, s2_12, s1_13, s2_13, s1_14, s2_14, s1_15, s2_15, tl_c, tl_n, n_132_2, ric_0, n_132_3, ri_istore, n_132_5, ri_ret, tk_0, tk_1, tk_2, tk_3, tk_4, tk_5, tk_6, tk_7, tk_8, tk_9, tk_10, tk_11, tk_12, tk_13, n_132_7, ric_8, n_132_9, ri_icmp_ge, tn_28, n_132_12, ri_lload_3, n_132_13, ri_aload_0, ri_aloadN_0, n_132_14, ri_iload_5, n_132_16, ri_V, n_132_19, ri_i2l, n_132_20, ri_ladd, n_132_21, n_132_22, rin_5_1, n_132_25, ri_goto, tn_5, ent_n, ent_i, ent_l, ent_r, ent_u, tL_n, tL_s, ap_n, ap_c, b01, b01L, ite_not, z10, cA0, cB0, cC0, cD0, cE0, cF0, cA1, cB1, cC1, cD1, cE1, cF1, cA2, cB2, cC2, cD2, cE2, cF2, cA3, cB3, cC3, cD3, cE3, cF3, vinT, vinN, li_clamp, iN_clamp, ↓reduceIte, if_true, if_false, iN_add1, iL_add, lI_add, iN_add, lI_mul, iL_mul, iN_mul, iN_sub, iL_sub, lI_sub, and_self, and_true, true_and, and_false, false_and, z10L, lc_eq, lc_lt, lc_le, lc_ge, lc_gt, rc_129 (I := I) (h := h) hh h12, li, e2]
theorem lp_132b {h : Nat} {p k A : Nat} {l : Nat → Nat} (hp : p ≤ 99999) (hl : ∀ k, l k ≤ 119988) (hh : I 13 1 = Int32.ofNat h) (h12 : h ≤ 12) (hk : k < 8) (hA : 0 < A) (hA2 : A < 1000000) (lo : ∀ k, k < 8 → smN (lcC I (Int32.ofNat k)) h = Int32.ofNat (l k)) : ∀ d i, i + d = 8 → Rn (EE N xs) 132 10068 [.ref 8, .int (Int32.ofNat p), .int (Int32.ofNat k), .long (Int64.ofNat A), jk, .long (Int64.ofNat (p * l k)), jk, .long (ovF p A l i), jk, .int (Int32.ofNat (pcN (ahB p A l k) i)), .int (Int32.ofNat i)] [] (K0, I, L) Q = Rn (EE N xs) 132 10068 [.ref 8, .int (Int32.ofNat p), .int (Int32.ofNat k), .long (Int64.ofNat A), jk, .long (Int64.ofNat (p * l k)), jk, .long (ovF p A l 8), jk, .int (Int32.ofNat (pcN (ahB p A l k) 8)), .int (Int32.ofNat 8)] [] (K0, I, L) Q
  | 0, i, e => by
    have e : i = 8 := e
    subst e
    rfl
  | d + 1, i, e => by
    have ih := lp_132b hp hl hh h12 hk hA hA2 lo d (i + 1) (by omega)
    have li := lo i (by omega)
    have bi := hl i
    have bk := hl k
    have m1 : p * l i ≤ 99999 * 119988 := Nat.mul_le_mul hp bi
    have m2 : p * l k ≤ 99999 * 119988 := Nat.mul_le_mul hp bk
    rw [← ih]
    conv => lhs; rw [n_132_10068]
    have nz : ¬ Int64.ofNat A = 0 := by
      rw [show (0 : Int64) = Int64.ofNat 0 from rfl, L_eq (by omega) (by decide)]
      omega
    have e1 : (Int32.ofNat p).toInt64 * (Int32.ofNat (l i)).toInt64 = Int64.ofNat (p * l i) := by
      rw [L_of (by omega), L_of (by omega), L_mul]
    have e2 : Int64.ofNat (p * l i) - Int64.ofNat (p * l i / A) * Int64.ofNat A = Int64.ofNat (p * l i % A) := by
      rw [← L_div (by omega) (by omega)]
      exact L_rem (by omega) (by omega)
    have e3 : Int64.ofNat (p * l k) - Int64.ofNat (p * l k / A) * Int64.ofNat A = Int64.ofNat (p * l k % A) := by
      rw [← L_div (by omega) (by omega)]
      exact L_rem (by omega) (by omega)
    have e5 : Int64.ofNat (p * l k) / Int64.ofNat A = Int64.ofNat (p * l k / A) := L_div (by omega) (by omega)
    have e4 : Int64.ofNat (p * l i) / Int64.ofNat A = Int64.ofNat (p * l i / A) := L_div (by omega) (by omega)
    have r1 := Nat.mod_lt (p * l i) hA
    have r2 := Nat.mod_lt (p * l k) hA
    have lp := L_pos (x := p * l i % A) (y := p * l k % A) (by omega) (by omega)
    have u : pcN (ahB p A l k) (i + 1) = pcN (ahB p A l k) i + if ahB p A l k i = true then 1 else 0 := rfl
    have v : ovF p A l (i + 1) = ovF p A l i - Int64.ofNat (p * l i / A) := rfl
    rw [u, v]
    have ab : ahB p A l k i = (decide (p * l k % A < p * l i % A) || (decide (p * l i % A = p * l k % A) && decide (i < k))) := rfl
    by_cases z1 : p * l k % A < p * l i % A
    · rw [decide_eq_true z1, Bool.true_or] at ab
      rw [ab, if_pos rfl]
      simp (maxSteps := 2000000) (disch := first | rfl | exact Nat.le_of_ble_eq_true rfl | assumption | omega) only [n_132_68, ri_ret, tk_0, tk_1, tk_2, tk_3, tk_4, tk_5, tk_6, tk_7, tk_8, tk_9, tk_10, tk_11, tk_12, tk_13, n_132_70, ric_8, n_132_72, ri_icmp_ge, tn_143, n_132_75, ri_iload_1, n_132_76, ri_i2l, n_132_77, ri_aload_0, ri_aloadN_0, n_132_78, ri_iload_10, n_132_80, ri_V, n_132_83, n_132_84, ri_lmul, n_132_85, ri_lstore, s1_i1, s2_in, s2_io, s2_it, s1_r1, s2_rn, s2_ro, s2_rt, s1_n1, s2_nn, s2_no, s2_nt, s1_j1, s2_jn, s2_jo, s2_jt, sto1_1l, sto1_z, sto2_z0, sto2_z1, sto2_z2, s1_2, s2_2, s1_3, s2_3, s1_4, s2_4, s1_5, s2_5, s1_6, s2_6, s1_7, s2_7, s1_8, s2_8, s1_9, s2_9, s1_10, s2_10, s1_11, s2_11, s1_12, s2_12, s1_13, s2_13, s1_14, s2_14, s1_15, s2_15, tl_c, tl_n, n_132_87, ri_lload_7, n_132_89, ri_lload_11, n_132_91, ri_lload_3, n_132_92, ri_ldiv, n_132_93, ri_lsub, n_132_94, n_132_96, n_132_98, n_132_99, ri_lrem, n_132_100, ri_lload_5, n_132_102, n_132_103, n_132_104, n_132_105, n_132_107, ri_iload_9, n_132_109, ri_lload_13, n_132_111, rlc_0, n_132_112, ri_lcmp, n_132_113, ri_if_gt, tn_129, n_132_116, n_132_118, n_132_119, n_132_120, ri_if_ne, tn_133, n_132_123, n_132_125, ri_iload_2, n_132_126, n_132_129, ric_1, n_132_130, ri_goto, tn_134, n_132_133, ric_0, n_132_134, ri_iadd, n_132_135, ri_istore, n_132_137, rin_10_1, n_132_140, tn_68, ent_n, ent_i, ent_l, ent_r, ent_u, tL_n, tL_s, ap_n, ap_c, b01, b01L, ite_not, z10, cA0, cB0, cC0, cD0, cE0, cF0, cA1, cB1, cC1, cD1, cE1, cF1, cA2, cB2, cC2, cD2, cE2, cF2, cA3, cB3, cC3, cD3, cE3, cF3, vinT, vinN, li_clamp, iN_clamp, ↓reduceIte, if_true, if_false, iN_add1, iL_add, lI_add, iN_add, lI_mul, iL_mul, iN_mul, iN_sub, iL_sub, lI_sub, and_self, and_true, true_and, and_false, false_and, z10L, lc_eq, lc_lt, lc_le, lc_ge, lc_gt, rc_129 (I := I) (h := h) hh h12, li, nz, e1, e2, e3, e4, e5, lp.1.trans (eq_true z1)]
    · rw [decide_eq_false z1, Bool.false_or] at ab
      by_cases z2 : p * l i % A = p * l k % A
      · rw [decide_eq_true z2, Bool.true_and] at ab
        by_cases z3 : i < k
        · rw [decide_eq_true z3] at ab
          rw [ab, if_pos rfl]
          simp (maxSteps := 2000000) (disch := first | rfl | exact Nat.le_of_ble_eq_true rfl | assumption | omega) only [n_132_68, ri_ret, tk_0, tk_1, tk_2, tk_3, tk_4, tk_5, tk_6, tk_7, tk_8, tk_9, tk_10, tk_11, tk_12, tk_13, n_132_70, ric_8, n_132_72, ri_icmp_ge, tn_143, n_132_75, ri_iload_1, n_132_76, ri_i2l, n_132_77, ri_aload_0, ri_aloadN_0, n_132_78, ri_iload_10, n_132_80, ri_V, n_132_83, n_132_84, ri_lmul, n_132_85, ri_lstore, s1_i1, s2_in, s2_io, s2_it, s1_r1, s2_rn, s2_ro, s2_rt, s1_n1, s2_nn, s2_no, s2_nt, s1_j1, s2_jn, s2_jo, s2_jt, sto1_1l, sto1_z, sto2_z0, sto2_z1, sto2_z2, s1_2, s2_2, s1_3, s2_3, s1_4, s2_4, s1_5, s2_5, s1_6, s2_6, s1_7, s2_7, s1_8, s2_8, s1_9, s2_9, s1_10, s2_10, s1_11, s2_11, s1_12, s2_12, s1_13, s2_13, s1_14, s2_14, s1_15, s2_15, tl_c, tl_n, n_132_87, ri_lload_7, n_132_89, ri_lload_11, n_132_91, ri_lload_3, n_132_92, ri_ldiv, n_132_93, ri_lsub, n_132_94, n_132_96, n_132_98, n_132_99, ri_lrem, n_132_100, ri_lload_5, n_132_102, n_132_103, n_132_104, n_132_105, n_132_107, ri_iload_9, n_132_109, ri_lload_13, n_132_111, rlc_0, n_132_112, ri_lcmp, n_132_113, ri_if_gt, tn_129, n_132_116, n_132_118, n_132_119, n_132_120, ri_if_ne, tn_133, n_132_123, n_132_125, ri_iload_2, n_132_126, n_132_129, ric_1, n_132_130, ri_goto, tn_134, n_132_133, ric_0, n_132_134, ri_iadd, n_132_135, ri_istore, n_132_137, rin_10_1, n_132_140, tn_68, ent_n, ent_i, ent_l, ent_r, ent_u, tL_n, tL_s, ap_n, ap_c, b01, b01L, ite_not, z10, cA0, cB0, cC0, cD0, cE0, cF0, cA1, cB1, cC1, cD1, cE1, cF1, cA2, cB2, cC2, cD2, cE2, cF2, cA3, cB3, cC3, cD3, cE3, cF3, vinT, vinN, li_clamp, iN_clamp, ↓reduceIte, if_true, if_false, iN_add1, iL_add, lI_add, iN_add, lI_mul, iL_mul, iN_mul, iN_sub, iL_sub, lI_sub, and_self, and_true, true_and, and_false, false_and, z10L, lc_eq, lc_lt, lc_le, lc_ge, lc_gt, rc_129 (I := I) (h := h) hh h12, li, nz, e1, e2, e3, e4, e5, lp.1.trans (eq_false z1), lp.2.trans (eq_true z2)]
        · rw [decide_eq_false z3] at ab
          rw [ab, if_neg (by decide)]
          simp (maxSteps := 2000000) (disch := first | rfl | exact Nat.le_of_ble_eq_true rfl | assumption | omega) only [n_132_68, ri_ret, tk_0, tk_1, tk_2, tk_3, tk_4, tk_5, tk_6, tk_7, tk_8, tk_9, tk_10, tk_11, tk_12, tk_13, n_132_70, ric_8, n_132_72, ri_icmp_ge, tn_143, n_132_75, ri_iload_1, n_132_76, ri_i2l, n_132_77, ri_aload_0, ri_aloadN_0, n_132_78, ri_iload_10, n_132_80, ri_V, n_132_83, n_132_84, ri_lmul, n_132_85, ri_lstore, s1_i1, s2_in, s2_io, s2_it, s1_r1, s2_rn, s2_ro, s2_rt, s1_n1, s2_nn, s2_no, s2_nt, s1_j1, s2_jn, s2_jo, s2_jt, sto1_1l, sto1_z, sto2_z0, sto2_z1, sto2_z2, s1_2, s2_2, s1_3, s2_3, s1_4, s2_4, s1_5, s2_5, s1_6, s2_6, s1_7, s2_7, s1_8, s2_8, s1_9, s2_9, s1_10, s2_10, s1_11, s2_11, s1_12, s2_12, s1_13, s2_13, s1_14, s2_14, s1_15, s2_15, tl_c, tl_n, n_132_87, ri_lload_7, n_132_89, ri_lload_11, n_132_91, ri_lload_3, n_132_92, ri_ldiv, n_132_93, ri_lsub, n_132_94, n_132_96, n_132_98, n_132_99, ri_lrem, n_132_100, ri_lload_5, n_132_102, n_132_103, n_132_104, n_132_105, n_132_107, ri_iload_9, n_132_109, ri_lload_13, n_132_111, rlc_0, n_132_112, ri_lcmp, n_132_113, ri_if_gt, tn_129, n_132_116, n_132_118, n_132_119, n_132_120, ri_if_ne, tn_133, n_132_123, n_132_125, ri_iload_2, n_132_126, n_132_129, ric_1, n_132_130, ri_goto, tn_134, n_132_133, ric_0, n_132_134, ri_iadd, n_132_135, ri_istore, n_132_137, rin_10_1, n_132_140, tn_68, ent_n, ent_i, ent_l, ent_r, ent_u, tL_n, tL_s, ap_n, ap_c, b01, b01L, ite_not, z10, cA0, cB0, cC0, cD0, cE0, cF0, cA1, cB1, cC1, cD1, cE1, cF1, cA2, cB2, cC2, cD2, cE2, cF2, cA3, cB3, cC3, cD3, cE3, cF3, vinT, vinN, li_clamp, iN_clamp, ↓reduceIte, if_true, if_false, iN_add1, iL_add, lI_add, iN_add, lI_mul, iL_mul, iN_mul, iN_sub, iL_sub, lI_sub, and_self, and_true, true_and, and_false, false_and, z10L, lc_eq, lc_lt, lc_le, lc_ge, lc_gt, rc_129 (I := I) (h := h) hh h12, li, nz, e1, e2, e3, e4, e5, lp.1.trans (eq_false z1), lp.2.trans (eq_true z2)]
      · rw [decide_eq_false z2, Bool.false_and] at ab
        rw [ab, if_neg (by decide)]
        simp (maxSteps := 2000000) (disch := first | rfl | exact Nat.le_of_ble_eq_true rfl | assumption | omega) only [n_132_68, ri_ret, tk_0, tk_1, tk_2, tk_3, tk_4, tk_5, tk_6, tk_7, tk_8, tk_9, tk_10, tk_11, tk_12, tk_13, n_132_70, ric_8, n_132_72, ri_icmp_ge, tn_143, n_132_75, ri_iload_1, n_132_76, ri_i2l, n_132_77, ri_aload_0, ri_aloadN_0, n_132_78, ri_iload_10, n_132_80, ri_V, n_132_83, n_132_84, ri_lmul, n_132_85, ri_lstore, s1_i1, s2_in, s2_io, s2_it, s1_r1, s2_rn, s2_ro, s2_rt, s1_n1, s2_nn, s2_no, s2_nt, s1_j1, s2_jn, s2_jo, s2_jt, sto1_1l, sto1_z, sto2_z0, sto2_z1, sto2_z2, s1_2, s2_2, s1_3, s2_3, s1_4, s2_4, s1_5, s2_5, s1_6, s2_6, s1_7, s2_7, s1_8, s2_8, s1_9, s2_9, s1_10, s2_10, s1_11, s2_11, s1_12, s2_12, s1_13, s2_13, s1_14, s2_14, s1_15, s2_15, tl_c, tl_n, n_132_87, ri_lload_7, n_132_89, ri_lload_11, n_132_91, ri_lload_3, n_132_92, ri_ldiv, n_132_93, ri_lsub, n_132_94, n_132_96, n_132_98, n_132_99, ri_lrem, n_132_100, ri_lload_5, n_132_102, n_132_103, n_132_104, n_132_105, n_132_107, ri_iload_9, n_132_109, ri_lload_13, n_132_111, rlc_0, n_132_112, ri_lcmp, n_132_113, ri_if_gt, tn_129, n_132_116, n_132_118, n_132_119, n_132_120, ri_if_ne, tn_133, n_132_123, n_132_125, ri_iload_2, n_132_126, n_132_129, ric_1, n_132_130, ri_goto, tn_134, n_132_133, ric_0, n_132_134, ri_iadd, n_132_135, ri_istore, n_132_137, rin_10_1, n_132_140, tn_68, ent_n, ent_i, ent_l, ent_r, ent_u, tL_n, tL_s, ap_n, ap_c, b01, b01L, ite_not, z10, cA0, cB0, cC0, cD0, cE0, cF0, cA1, cB1, cC1, cD1, cE1, cF1, cA2, cB2, cC2, cD2, cE2, cF2, cA3, cB3, cC3, cD3, cE3, cF3, vinT, vinN, li_clamp, iN_clamp, ↓reduceIte, if_true, if_false, iN_add1, iL_add, lI_add, iN_add, lI_mul, iL_mul, iN_mul, iN_sub, iL_sub, lI_sub, and_self, and_true, true_and, and_false, false_and, z10L, lc_eq, lc_lt, lc_le, lc_ge, lc_gt, rc_129 (I := I) (h := h) hh h12, li, nz, e1, e2, e3, e4, e5, lp.1.trans (eq_false z1), lp.2.trans (eq_false z2)]
theorem lp_211a {h nc : Nat} {p k : Int32} {l : Nat → Nat} (hl : ∀ k, l k ≤ 119988) (hn8 : nc ≤ 8) (h14 : I 106 14 = Int32.ofNat nc) (hh : I 107 0 = Int32.ofNat h) (h12 : h ≤ 12) (lo : ∀ k, k < 8 → smN (lcM I (Int32.ofNat k)) h = Int32.ofNat (l k)) : ∀ d i, i + d = nc → Rn (EE N xs) 211 10030 [.ref 106, .int p, .int k, .long (Int64.ofNat (slN l i)), jk, .int (Int32.ofNat i)] [] (K0, I, L) Q = Rn (EE N xs) 211 10030 [.ref 106, .int p, .int k, .long (Int64.ofNat (slN l nc)), jk, .int (Int32.ofNat nc)] [] (K0, I, L) Q
  | 0, i, e => by
    have e : i = nc := e
    subst e
    rfl
  | d + 1, i, e => by
    have ih := lp_211a (p := p) (k := k) hl hn8 h14 hh h12 lo d (i + 1) (by omega)
    have li := lo i (by omega)
    have b := hl i
    rw [← ih]
    conv => lhs; rw [n_211_10030]
    have e2 : Int64.ofNat (slN l i) + (Int32.ofNat (l i)).toInt64 = Int64.ofNat (slN l (i + 1)) := by
      rw [L_of (by omega), L_add]
      rfl
    simp (maxSteps := 2000000) (disch := first | rfl | exact Nat.le_of_ble_eq_true rfl | assumption | omega) only [n_211_30, ri_ret, tk_0, tk_1, tk_2, tk_3, tk_4, tk_5, tk_6, tk_7, tk_8, tk_9, tk_10, tk_11, tk_12, tk_13, n_211_32, ri_aload_0, ri_aloadN_0, n_211_33, gf_1221114_106, n_211_36, ri_icmp_ge, tn_55, n_211_39, ri_lload_3, n_211_40, n_211_41, ri_iload_5, n_211_43, ri_V, n_211_46, ri_i2l, n_211_47, ri_ladd, n_211_48, ri_lstore, s1_i1, s2_in, s2_io, s2_it, s1_r1, s2_rn, s2_ro, s2_rt, s1_n1, s2_nn, s2_no, s2_nt, s1_j1, s2_jn, s2_jo, s2_jt, sto1_1l, sto1_z, sto2_z0, sto2_z1, sto2_z2, s1_2, s2_2, s1_3, s2_3, s1_4, s2_4, s1_5, s2_5, s1_6, s2_6, s1_7, s2_7, s1_8, s2_8, s1_9, s2_9, s1_10, s2_10, s1_11, s2_11, s1_12, s2_12, s1_13, s2_13, s1_14, s2_14, s1_15, s2_15, tl_c, tl_n, n_211_49, rin_5_1, n_211_52, ri_goto, tn_30, ent_n, ent_i, ent_l, ent_r, ent_u, tL_n, tL_s, ap_n, ap_c, b01, b01L, ite_not, z10, cA0, cB0, cC0, cD0, cE0, cF0, cA1, cB1, cC1, cD1, cE1, cF1, cA2, cB2, cC2, cD2, cE2, cF2, cA3, cB3, cC3, cD3, cE3, cF3, vinT, vinN, li_clamp, iN_clamp, ↓reduceIte, if_true, if_false, iN_add1, iL_add, lI_add, iN_add, lI_mul, iL_mul, iN_mul, iN_sub, iL_sub, lI_sub, and_self, and_true, true_and, and_false, false_and, z10L, lc_eq, lc_lt, lc_le, lc_ge, lc_gt, h14, rc_210 (I := I) (h := h) hh h12, li, e2]
def M122 (p A : Nat) (l : Nat → Nat) (c : Nat) (L M : Nat → Nat → Int64) : Prop := (∀ o, o < c → M 122 o = Int64.ofNat (p * l o % A)) ∧ ∀ x y, x ≠ 122 → M x y = L x y
theorem lp_211b {h nc p k A : Nat} {l : Nat → Nat} (hp : p ≤ 99999) (hl : ∀ k, l k ≤ 119988) (hn8 : nc ≤ 8) (h14 : I 106 14 = Int32.ofNat nc) (hh : I 107 0 = Int32.ofNat h) (h12 : h ≤ 12) (hA : 0 < A) (hA2 : A < 1000000) (lo : ∀ k, k < 8 → smN (lcM I (Int32.ofNat k)) h = Int32.ofNat (l k)) (K : ∀ M, M122 p A l nc L M → Rn (EE N xs) 211 10075 [.ref 106, .int (Int32.ofNat p), .int (Int32.ofNat k), .long (Int64.ofNat A), jk, .long (ovF p A l nc), jk, .int (Int32.ofNat nc)] [] (K0, I, M) Q) : ∀ d i M, i + d = nc → M122 p A l i L M → Rn (EE N xs) 211 10075 [.ref 106, .int (Int32.ofNat p), .int (Int32.ofNat k), .long (Int64.ofNat A), jk, .long (ovF p A l i), jk, .int (Int32.ofNat i)] [] (K0, I, M) Q
  | 0, i, M, e, m => by
    have e : i = nc := e
    subst e
    exact K M m
  | d + 1, i, M, e, m => by
    have li := lo i (by omega)
    have bi := hl i
    have m1 : p * l i ≤ 99999 * 119988 := Nat.mul_le_mul hp bi
    have nz : ¬ Int64.ofNat A = 0 := by
      rw [show (0 : Int64) = Int64.ofNat 0 from rfl, L_eq (by omega) (by decide)]
      omega
    have e1 : (Int32.ofNat p).toInt64 * (Int32.ofNat (l i)).toInt64 = Int64.ofNat (p * l i) := by
      rw [L_of (by omega), L_of (by omega), L_mul]
    have e2 : Int64.ofNat (p * l i) - Int64.ofNat (p * l i / A) * Int64.ofNat A = Int64.ofNat (p * l i % A) := by
      rw [← L_div (by omega) (by omega)]
      exact L_rem (by omega) (by omega)
    have e4 : Int64.ofNat (p * l i) / Int64.ofNat A = Int64.ofNat (p * l i / A) := L_div (by omega) (by omega)
    rw [n_211_10075]
    simp (maxSteps := 2000000) (disch := first | rfl | exact Nat.le_of_ble_eq_true rfl | assumption | omega) only [n_211_75, ri_ret, tk_0, tk_1, tk_2, tk_3, tk_4, tk_5, tk_6, tk_7, tk_8, tk_9, tk_10, tk_11, tk_12, tk_13, n_211_77, ri_aload_0, ri_aloadN_0, n_211_78, gf_1221114_106, n_211_81, ri_icmp_ge, tn_126, n_211_84, ri_lload_5, n_211_86, ri_iload_1, n_211_87, ri_i2l, n_211_88, n_211_89, ri_iload_7, n_211_91, ri_V, n_211_94, n_211_95, ri_lmul, n_211_96, ri_lload_3, n_211_97, ri_ldiv, n_211_98, ri_lsub, n_211_99, ri_lstore, s1_i1, s2_in, s2_io, s2_it, s1_r1, s2_rn, s2_ro, s2_rt, s1_n1, s2_nn, s2_no, s2_nt, s1_j1, s2_jn, s2_jo, s2_jt, sto1_1l, sto1_z, sto2_z0, sto2_z1, sto2_z2, s1_2, s2_2, s1_3, s2_3, s1_4, s2_4, s1_5, s2_5, s1_6, s2_6, s1_7, s2_7, s1_8, s2_8, s1_9, s2_9, s1_10, s2_10, s1_11, s2_11, s1_12, s2_12, s1_13, s2_13, s1_14, s2_14, s1_15, s2_15, tl_c, tl_n, n_211_101, n_211_102, gf_1121128_106, n_211_105, n_211_107, n_211_108, n_211_109, n_211_110, n_211_112, n_211_115, n_211_116, n_211_117, n_211_118, ri_lrem, n_211_119, as_2, as_3, as_5, as_6, as_7, as_10, as_11, as_12, as_39, as_41, as_44, as_45, as_46, as_47, as_49, as_51, as_53, as_107, as_108, as_109, as_110, as_111, as_112, as_113, as_114, as_115, as_116, as_117, as_118, as_119, as_120, as_121, as_122, as_c, as_d, n_211_120, rin_7_1, n_211_123, ri_goto, tn_75, ent_n, ent_i, ent_l, ent_r, ent_u, tL_n, tL_s, ap_n, ap_c, b01, b01L, ite_not, z10, cA0, cB0, cC0, cD0, cE0, cF0, cA1, cB1, cC1, cD1, cE1, cF1, cA2, cB2, cC2, cD2, cE2, cF2, cA3, cB3, cC3, cD3, cE3, cF3, vinT, vinN, li_clamp, iN_clamp, ↓reduceIte, if_true, if_false, iN_add1, iL_add, lI_add, iN_add, lI_mul, iL_mul, iN_mul, iN_sub, iL_sub, lI_sub, and_self, and_true, true_and, and_false, false_and, z10L, lc_eq, lc_lt, lc_le, lc_ge, lc_gt, u2_s, u2_k, u2_a, u2_T1, u2_T2, u2_T3, u2_T4, u2_T5, u2_T6, u2_T7, u2_T8, h14, rc_210 (I := I) (h := h) hh h12, li, nz, e1, e2, e4]
    refine lp_211b hp hl hn8 h14 hh h12 hA hA2 lo K d (i + 1) _ (by omega) ⟨fun o ho => ?_, fun x y hx => ?_⟩
    · by_cases z : o = i
      · subst z
        rw [u2_s]
      · rw [u2_k z]
        exact m.1 o (by omega)
    · rw [u2_a hx]
      exact m.2 x y hx
theorem lp_211c {nc p k A : Nat} {l : Nat → Nat} {P : Int32} {lf : Int64} (hp : p ≤ 99999) (hl : ∀ k, l k ≤ 119988) (hn8 : nc ≤ 8) (hk : k < nc) (h14 : I 106 14 = Int32.ofNat nc) (hA : 0 < A) (hA2 : A < 1000000) (hm : ∀ o, o < nc → L 122 o = Int64.ofNat (p * l o % A)) : ∀ d i, i + d = nc → Rn (EE N xs) 211 10132 [.ref 106, .int P, .int (Int32.ofNat k), .long (Int64.ofNat A), jk, .long lf, jk, .long (Int64.ofNat (pcN (ahB p A l k) i)), jk, .int (Int32.ofNat i)] [] (K0, I, L) Q = Rn (EE N xs) 211 10132 [.ref 106, .int P, .int (Int32.ofNat k), .long (Int64.ofNat A), jk, .long lf, jk, .long (Int64.ofNat (pcN (ahB p A l k) nc)), jk, .int (Int32.ofNat nc)] [] (K0, I, L) Q
  | 0, i, e => by
    have e : i = nc := e
    subst e
    rfl
  | d + 1, i, e => by
    have ih := lp_211c (P := P) (lf := lf) hp hl hn8 hk h14 hA hA2 hm d (i + 1) (by omega)
    have mi := hm i (by omega)
    have mk := hm k hk
    have r1 := Nat.mod_lt (p * l i) hA
    have r2 := Nat.mod_lt (p * l k) hA
    have c1 := L_lt (a := p * l k % A) (b := p * l i % A) (by omega) (by omega)
    have c2 := L_eq (a := p * l i % A) (b := p * l k % A) (by omega) (by omega)
    rw [← ih]
    conv => lhs; rw [n_211_10132]
    have u : pcN (ahB p A l k) (i + 1) = pcN (ahB p A l k) i + if ahB p A l k i = true then 1 else 0 := rfl
    have ab : ahB p A l k i = (decide (p * l k % A < p * l i % A) || (decide (p * l i % A = p * l k % A) && decide (i < k))) := rfl
    rw [u]
    generalize pcN (ahB p A l k) i = c
    have a1 : Int64.ofNat c + 1 = Int64.ofNat (c + 1) := (L_add (a := c) (b := 1))
    have a0 : Int64.ofNat c + 0 = Int64.ofNat (c + 0) := (L_add (a := c) (b := 0))
    by_cases z1 : p * l k % A < p * l i % A
    · rw [decide_eq_true z1, Bool.true_or] at ab
      rw [ab, if_pos rfl]
      simp (maxSteps := 2000000) (disch := first | rfl | exact Nat.le_of_ble_eq_true rfl | assumption | omega) only [n_211_132, ri_ret, tk_0, tk_1, tk_2, tk_3, tk_4, tk_5, tk_6, tk_7, tk_8, tk_9, tk_10, tk_11, tk_12, tk_13, n_211_134, ri_aload_0, ri_aloadN_0, n_211_135, gf_1221114_106, n_211_138, ri_icmp_ge, tn_197, n_211_141, ri_lload_7, n_211_143, n_211_144, gf_1121128_106, n_211_147, ri_iload_9, n_211_149, al_2, al_3, al_5, al_6, al_7, al_10, al_11, al_12, al_39, al_41, al_44, al_45, al_46, al_47, al_49, al_51, al_53, al_107, al_108, al_109, al_110, al_111, al_112, al_113, al_114, al_115, al_116, al_117, al_118, al_119, al_120, al_121, al_122, al_c, al_d, al_14, al_bk, al_52, al_x0, al_x1, al_x2, al_x3, n_211_150, n_211_151, n_211_154, ri_iload_2, n_211_155, n_211_156, ri_lcmp, n_211_157, ri_if_gt, tn_183, n_211_160, n_211_161, n_211_164, n_211_166, n_211_167, n_211_168, n_211_171, n_211_172, n_211_173, n_211_174, ri_if_ne, tn_187, n_211_177, n_211_179, n_211_180, n_211_183, rlc_1, n_211_184, ri_goto, tn_188, n_211_187, rlc_0, n_211_188, ri_ladd, n_211_189, ri_lstore, s1_i1, s2_in, s2_io, s2_it, s1_r1, s2_rn, s2_ro, s2_rt, s1_n1, s2_nn, s2_no, s2_nt, s1_j1, s2_jn, s2_jo, s2_jt, sto1_1l, sto1_z, sto2_z0, sto2_z1, sto2_z2, s1_2, s2_2, s1_3, s2_3, s1_4, s2_4, s1_5, s2_5, s1_6, s2_6, s1_7, s2_7, s1_8, s2_8, s1_9, s2_9, s1_10, s2_10, s1_11, s2_11, s1_12, s2_12, s1_13, s2_13, s1_14, s2_14, s1_15, s2_15, tl_c, tl_n, n_211_191, rin_9_1, n_211_194, tn_132, ite_not, cA0, cB0, cC0, cD0, cE0, cF0, cA1, cB1, cC1, cD1, cE1, cF1, cA2, cB2, cC2, cD2, cE2, cF2, cA3, cB3, cC3, cD3, cE3, cF3, vinT, vinN, li_clamp, iN_clamp, ↓reduceIte, if_true, if_false, iN_add1, iL_add, lI_add, iN_add, lI_mul, iL_mul, iN_mul, iN_sub, iL_sub, lI_sub, and_self, and_true, true_and, and_false, false_and, b01, b01L, z10, z10L, lc_eq, lc_lt, lc_le, lc_ge, lc_gt, ent_n, ent_i, ent_l, ent_r, ent_u, tL_n, tL_s, ap_n, ap_c, h14, mi, mk, c1.trans (eq_true z1), a1, a0]
    · rw [decide_eq_false z1, Bool.false_or] at ab
      by_cases z2 : p * l i % A = p * l k % A
      · rw [decide_eq_true z2, Bool.true_and] at ab
        by_cases z3 : i < k
        · rw [decide_eq_true z3] at ab
          rw [ab, if_pos rfl]
          simp (maxSteps := 2000000) (disch := first | rfl | exact Nat.le_of_ble_eq_true rfl | assumption | omega) only [n_211_132, ri_ret, tk_0, tk_1, tk_2, tk_3, tk_4, tk_5, tk_6, tk_7, tk_8, tk_9, tk_10, tk_11, tk_12, tk_13, n_211_134, ri_aload_0, ri_aloadN_0, n_211_135, gf_1221114_106, n_211_138, ri_icmp_ge, tn_197, n_211_141, ri_lload_7, n_211_143, n_211_144, gf_1121128_106, n_211_147, ri_iload_9, n_211_149, al_2, al_3, al_5, al_6, al_7, al_10, al_11, al_12, al_39, al_41, al_44, al_45, al_46, al_47, al_49, al_51, al_53, al_107, al_108, al_109, al_110, al_111, al_112, al_113, al_114, al_115, al_116, al_117, al_118, al_119, al_120, al_121, al_122, al_c, al_d, al_14, al_bk, al_52, al_x0, al_x1, al_x2, al_x3, n_211_150, n_211_151, n_211_154, ri_iload_2, n_211_155, n_211_156, ri_lcmp, n_211_157, ri_if_gt, tn_183, n_211_160, n_211_161, n_211_164, n_211_166, n_211_167, n_211_168, n_211_171, n_211_172, n_211_173, n_211_174, ri_if_ne, tn_187, n_211_177, n_211_179, n_211_180, n_211_183, rlc_1, n_211_184, ri_goto, tn_188, n_211_187, rlc_0, n_211_188, ri_ladd, n_211_189, ri_lstore, s1_i1, s2_in, s2_io, s2_it, s1_r1, s2_rn, s2_ro, s2_rt, s1_n1, s2_nn, s2_no, s2_nt, s1_j1, s2_jn, s2_jo, s2_jt, sto1_1l, sto1_z, sto2_z0, sto2_z1, sto2_z2, s1_2, s2_2, s1_3, s2_3, s1_4, s2_4, s1_5, s2_5, s1_6, s2_6, s1_7, s2_7, s1_8, s2_8, s1_9, s2_9, s1_10, s2_10, s1_11, s2_11, s1_12, s2_12, s1_13, s2_13, s1_14, s2_14, s1_15, s2_15, tl_c, tl_n, n_211_191, rin_9_1, n_211_194, tn_132, ite_not, cA0, cB0, cC0, cD0, cE0, cF0, cA1, cB1, cC1, cD1, cE1, cF1, cA2, cB2, cC2, cD2, cE2, cF2, cA3, cB3, cC3, cD3, cE3, cF3, vinT, vinN, li_clamp, iN_clamp, ↓reduceIte, if_true, if_false, iN_add1, iL_add, lI_add, iN_add, lI_mul, iL_mul, iN_mul, iN_sub, iL_sub, lI_sub, and_self, and_true, true_and, and_false, false_and, b01, b01L, z10, z10L, lc_eq, lc_lt, lc_le, lc_ge, lc_gt, ent_n, ent_i, ent_l, ent_r, ent_u, tL_n, tL_s, ap_n, ap_c, h14, mi, mk, c1.trans (eq_false z1), c2.trans (eq_true z2), a1, a0]
        · rw [decide_eq_false z3] at ab
          rw [ab, if_neg (by decide)]
          simp (maxSteps := 2000000) (disch := first | rfl | exact Nat.le_of_ble_eq_true rfl | assumption | omega) only [n_211_132, ri_ret, tk_0, tk_1, tk_2, tk_3, tk_4, tk_5, tk_6, tk_7, tk_8, tk_9, tk_10, tk_11, tk_12, tk_13, n_211_134, ri_aload_0, ri_aloadN_0, n_211_135, gf_1221114_106, n_211_138, ri_icmp_ge, tn_197, n_211_141, ri_lload_7, n_211_143, n_211_144, gf_1121128_106, n_211_147, ri_iload_9, n_211_149, al_2, al_3, al_5, al_6, al_7, al_10, al_11, al_12, al_39, al_41, al_44, al_45, al_46, al_47, al_49, al_51, al_53, al_107, al_108, al_109, al_110, al_111, al_112, al_113, al_114, al_115, al_116, al_117, al_118, al_119, al_120, al_121, al_122, al_c, al_d, al_14, al_bk, al_52, al_x0, al_x1, al_x2, al_x3, n_211_150, n_211_151, n_211_154, ri_iload_2, n_211_155, n_211_156, ri_lcmp, n_211_157, ri_if_gt, tn_183, n_211_160, n_211_161, n_211_164, n_211_166, n_211_167, n_211_168, n_211_171, n_211_172, n_211_173, n_211_174, ri_if_ne, tn_187, n_211_177, n_211_179, n_211_180, n_211_183, rlc_1, n_211_184, ri_goto, tn_188, n_211_187, rlc_0, n_211_188, ri_ladd, n_211_189, ri_lstore, s1_i1, s2_in, s2_io, s2_it, s1_r1, s2_rn, s2_ro, s2_rt, s1_n1, s2_nn, s2_no, s2_nt, s1_j1, s2_jn, s2_jo, s2_jt, sto1_1l, sto1_z, sto2_z0, sto2_z1, sto2_z2, s1_2, s2_2, s1_3, s2_3, s1_4, s2_4, s1_5, s2_5, s1_6, s2_6, s1_7, s2_7, s1_8, s2_8, s1_9, s2_9, s1_10, s2_10, s1_11, s2_11, s1_12, s2_12, s1_13, s2_13, s1_14, s2_14, s1_15, s2_15, tl_c, tl_n, n_211_191, rin_9_1, n_211_194, tn_132, ite_not, cA0, cB0, cC0, cD0, cE0, cF0, cA1, cB1, cC1, cD1, cE1, cF1, cA2, cB2, cC2, cD2, cE2, cF2, cA3, cB3, cC3, cD3, cE3, cF3, vinT, vinN, li_clamp, iN_clamp, ↓reduceIte, if_true, if_false, iN_add1, iL_add, lI_add, iN_add, lI_mul, iL_mul, iN_mul, iN_sub, iL_sub, lI_sub, and_self, and_true, true_and, and_false, false_and, b01, b01L, z10, z10L, lc_eq, lc_lt, lc_le, lc_ge, lc_gt, ent_n, ent_i, ent_l, ent_r, ent_u, tL_n, tL_s, ap_n, ap_c, h14, mi, mk, c1.trans (eq_false z1), c2.trans (eq_true z2), a1, a0]
      · rw [decide_eq_false z2, Bool.false_and] at ab
        rw [ab, if_neg (by decide)]
        simp (maxSteps := 2000000) (disch := first | rfl | exact Nat.le_of_ble_eq_true rfl | assumption | omega) only [n_211_132, ri_ret, tk_0, tk_1, tk_2, tk_3, tk_4, tk_5, tk_6, tk_7, tk_8, tk_9, tk_10, tk_11, tk_12, tk_13, n_211_134, ri_aload_0, ri_aloadN_0, n_211_135, gf_1221114_106, n_211_138, ri_icmp_ge, tn_197, n_211_141, ri_lload_7, n_211_143, n_211_144, gf_1121128_106, n_211_147, ri_iload_9, n_211_149, al_2, al_3, al_5, al_6, al_7, al_10, al_11, al_12, al_39, al_41, al_44, al_45, al_46, al_47, al_49, al_51, al_53, al_107, al_108, al_109, al_110, al_111, al_112, al_113, al_114, al_115, al_116, al_117, al_118, al_119, al_120, al_121, al_122, al_c, al_d, al_14, al_bk, al_52, al_x0, al_x1, al_x2, al_x3, n_211_150, n_211_151, n_211_154, ri_iload_2, n_211_155, n_211_156, ri_lcmp, n_211_157, ri_if_gt, tn_183, n_211_160, n_211_161, n_211_164, n_211_166, n_211_167, n_211_168, n_211_171, n_211_172, n_211_173, n_211_174, ri_if_ne, tn_187, n_211_177, n_211_179, n_211_180, n_211_183, rlc_1, n_211_184, ri_goto, tn_188, n_211_187, rlc_0, n_211_188, ri_ladd, n_211_189, ri_lstore, s1_i1, s2_in, s2_io, s2_it, s1_r1, s2_rn, s2_ro, s2_rt, s1_n1, s2_nn, s2_no, s2_nt, s1_j1, s2_jn, s2_jo, s2_jt, sto1_1l, sto1_z, sto2_z0, sto2_z1, sto2_z2, s1_2, s2_2, s1_3, s2_3, s1_4, s2_4, s1_5, s2_5, s1_6, s2_6, s1_7, s2_7, s1_8, s2_8, s1_9, s2_9, s1_10, s2_10, s1_11, s2_11, s1_12, s2_12, s1_13, s2_13, s1_14, s2_14, s1_15, s2_15, tl_c, tl_n, n_211_191, rin_9_1, n_211_194, tn_132, ite_not, cA0, cB0, cC0, cD0, cE0, cF0, cA1, cB1, cC1, cD1, cE1, cF1, cA2, cB2, cC2, cD2, cE2, cF2, cA3, cB3, cC3, cD3, cE3, cF3, vinT, vinN, li_clamp, iN_clamp, ↓reduceIte, if_true, if_false, iN_add1, iL_add, lI_add, iN_add, lI_mul, iL_mul, iN_mul, iN_sub, iL_sub, lI_sub, and_self, and_true, true_and, and_false, false_and, b01, b01L, z10, z10L, lc_eq, lc_lt, lc_le, lc_ge, lc_gt, ent_n, ent_i, ent_l, ent_r, ent_u, tL_n, tL_s, ap_n, ap_c, h14, mi, mk, c1.trans (eq_false z1), c2.trans (eq_false z2), a1, a0]
theorem op_131 (inv : Inv I L) {a b : Int32} : Op (EE N xs) 131 211 [.int a, .int b] I L := by
  obtain ⟨h, nc, l, h12, y0, b1, b2, y1, y2, hl, hz, lo⟩ := loss_nat inv
  by_cases z : (0 ≤ a ∧ a ≤ 99999) ∧ 0 ≤ b ∧ b < Int32.ofNat nc ∧ b < 8
  · obtain ⟨z1, z2⟩ := z
    obtain ⟨p, hp, rfl⟩ := nn_of z1.1 (n := 99999) (by decide) z1.2
    obtain ⟨k, hk, rfl⟩ := nn_lt z2.1 (by omega) z2.2.1
    have lk := lo k (by omega)
    have bk := hl k
    have s8 : slN l 8 = slN l nc := by
      have := slN_z (l := l) (n := nc) hz (8 - nc)
      rw [show nc + (8 - nc) = 8 by omega] at this
      exact this
    have sle := slN_le (l := l) hl 8
    have iJ := thr_ok inv
    have pl : (Int32.ofNat p).toInt64 = Int64.ofNat p := L_of (by omega)
    have c1 := L_le (a := slN l 8) (b := p) (by omega) (by omega)
    have c2 := L_le (a := slN l 8) (b := 0) (by omega) (by decide)
    have c3 := L_lt (a := p) (b := slN l 8) (by omega) (by omega)
    have c4 := L_lt (a := 0) (b := slN l 8) (by decide) (by omega)
    have d0 : (0 : Int64) = Int64.ofNat 0 := rfl
    rw [← d0] at c2 c4
    by_cases big : slN l 8 ≤ p
    · refine op_of (v := Int32.ofNat (l k)) (I1 := I) (L1 := L) (I2 := u2 I 106 0 0) (L2 := L) (fun Q => ?_) (fun Q => ?_) iJ
      · simp (maxSteps := 2000000) (disch := first | rfl | exact Nat.le_of_ble_eq_true rfl | assumption | omega) only [n_131_0, ri_iload_1, n_131_1, ric_0, n_131_2, rdw_5, n_131_5, ri_S, rc_14, n_131_8, ri_if_eq, tn_25, n_131_11, ri_aload_0, ri_aloadN_0, n_131_12, gf_21002_0, n_131_15, gf_30200_8, n_131_18, ri_iload_2, n_131_19, ri_V, rc_54_9, rc_54_4, n_131_22, ri_if_ne, tn_27, n_131_25, ric_m1, n_131_26, rt_131, n_131_27, n_131_28, n_131_31, n_131_32, n_131_33, in_132, n_131_36, n_132_0, rlc_0, n_132_1, ri_lstore, s1_i1, s2_in, s2_io, s2_it, s1_r1, s2_rn, s2_ro, s2_rt, s1_n1, s2_nn, s2_no, s2_nt, s1_j1, s2_jn, s2_jo, s2_jt, sto1_1l, sto1_z, sto2_z0, sto2_z1, sto2_z2, s1_2, s2_2, s1_3, s2_3, s1_4, s2_4, s1_5, s2_5, s1_6, s2_6, s1_7, s2_7, s1_8, s2_8, s1_9, s2_9, s1_10, s2_10, s1_11, s2_11, s1_12, s2_12, s1_13, s2_13, s1_14, s2_14, s1_15, s2_15, tl_c, tl_n, n_132_2, n_132_3, ri_istore, n_132_5, ri_ret, tk_0, tk_1, tk_2, tk_3, tk_4, tk_5, tk_6, tk_7, tk_8, tk_9, tk_10, tk_11, tk_12, tk_13, ri_iload_5, n_132_7, ric_8, n_132_9, ri_icmp_ge, tn_28, n_132_12, ri_lload_3, n_132_13, n_132_14, n_132_16, n_132_19, ri_i2l, n_132_20, ri_ladd, n_132_21, n_132_22, rin_5_1, n_132_25, ri_goto, tn_5, n_132_28, n_132_29, n_132_30, n_132_31, ri_lcmp, n_132_32, ri_if_ge, tn_41, n_132_35, n_132_36, n_132_37, n_132_38, ri_if_gt, tn_47, n_132_41, n_132_42, n_132_43, n_132_46, rt_132, n_132_47, n_132_48, n_132_49, n_132_50, n_132_51, n_132_54, n_132_55, ri_lmul, n_132_56, n_132_58, n_132_59, n_132_60, n_132_62, n_132_63, n_132_65, n_132_66, n_132_68, ri_iload_10, n_132_70, n_132_72, tn_143, n_132_75, n_132_76, n_132_77, n_132_78, n_132_80, n_132_83, n_132_84, n_132_85, n_132_87, ri_lload_7, n_132_89, ri_lload_11, n_132_91, n_132_92, ri_ldiv, n_132_93, ri_lsub, n_132_94, n_132_96, n_132_98, n_132_99, ri_lrem, n_132_100, ri_lload_5, n_132_102, n_132_103, n_132_104, n_132_105, n_132_107, ri_iload_9, n_132_109, ri_lload_13, n_132_111, n_132_112, n_132_113, tn_129, n_132_116, n_132_118, n_132_119, n_132_120, tn_133, n_132_123, n_132_125, n_132_126, n_132_129, ric_1, n_132_130, tn_134, n_132_133, n_132_134, ri_iadd, n_132_135, n_132_137, rin_10_1, n_132_140, tn_68, n_132_143, n_132_145, n_132_146, n_132_147, ri_l2i, n_132_148, n_132_150, n_132_151, n_132_153, n_132_154, tn_161, n_132_157, n_132_158, tn_162, n_132_161, n_132_162, n_132_163, ent_n, ent_i, ent_l, ent_r, ent_u, tL_n, tL_s, ap_n, ap_c, b01, b01L, ite_not, z10, cA0, cB0, cC0, cD0, cE0, cF0, cA1, cB1, cC1, cD1, cE1, cF1, cA2, cB2, cC2, cD2, cE2, cF2, cA3, cB3, cC3, cD3, cE3, cF3, vinT, vinN, li_clamp, iN_clamp, ↓reduceIte, if_true, if_false, iN_add1, iL_add, lI_add, iN_add, lI_mul, iL_mul, iN_mul, iN_sub, iL_sub, lI_sub, and_self, and_true, true_and, and_false, false_and, z10L, lc_eq, lc_lt, lc_le, lc_ge, lc_gt, y1]
        refine (lp_132a hl b1 h12 (fun k hk => (lo k hk).1) 8 0 rfl).trans ?_
        rw [n_132_10005]
        simp (maxSteps := 2000000) (disch := first | rfl | exact Nat.le_of_ble_eq_true rfl | assumption | omega) only [n_131_0, ri_iload_1, n_131_1, ric_0, n_131_2, rdw_5, n_131_5, ri_S, rc_14, n_131_8, ri_if_eq, tn_25, n_131_11, ri_aload_0, ri_aloadN_0, n_131_12, gf_21002_0, n_131_15, gf_30200_8, n_131_18, ri_iload_2, n_131_19, ri_V, rc_54_9, rc_54_4, n_131_22, ri_if_ne, tn_27, n_131_25, ric_m1, n_131_26, rt_131, n_131_27, n_131_28, n_131_31, n_131_32, n_131_33, in_132, n_131_36, n_132_0, rlc_0, n_132_1, ri_lstore, s1_i1, s2_in, s2_io, s2_it, s1_r1, s2_rn, s2_ro, s2_rt, s1_n1, s2_nn, s2_no, s2_nt, s1_j1, s2_jn, s2_jo, s2_jt, sto1_1l, sto1_z, sto2_z0, sto2_z1, sto2_z2, s1_2, s2_2, s1_3, s2_3, s1_4, s2_4, s1_5, s2_5, s1_6, s2_6, s1_7, s2_7, s1_8, s2_8, s1_9, s2_9, s1_10, s2_10, s1_11, s2_11, s1_12, s2_12, s1_13, s2_13, s1_14, s2_14, s1_15, s2_15, tl_c, tl_n, n_132_2, n_132_3, ri_istore, n_132_5, ri_ret, tk_0, tk_1, tk_2, tk_3, tk_4, tk_5, tk_6, tk_7, tk_8, tk_9, tk_10, tk_11, tk_12, tk_13, ri_iload_5, n_132_7, ric_8, n_132_9, ri_icmp_ge, tn_28, n_132_12, ri_lload_3, n_132_13, n_132_14, n_132_16, n_132_19, ri_i2l, n_132_20, ri_ladd, n_132_21, n_132_22, rin_5_1, n_132_25, ri_goto, tn_5, n_132_28, n_132_29, n_132_30, n_132_31, ri_lcmp, n_132_32, ri_if_ge, tn_41, n_132_35, n_132_36, n_132_37, n_132_38, ri_if_gt, tn_47, n_132_41, n_132_42, n_132_43, n_132_46, rt_132, n_132_47, n_132_48, n_132_49, n_132_50, n_132_51, n_132_54, n_132_55, ri_lmul, n_132_56, n_132_58, n_132_59, n_132_60, n_132_62, n_132_63, n_132_65, n_132_66, n_132_68, ri_iload_10, n_132_70, n_132_72, tn_143, n_132_75, n_132_76, n_132_77, n_132_78, n_132_80, n_132_83, n_132_84, n_132_85, n_132_87, ri_lload_7, n_132_89, ri_lload_11, n_132_91, n_132_92, ri_ldiv, n_132_93, ri_lsub, n_132_94, n_132_96, n_132_98, n_132_99, ri_lrem, n_132_100, ri_lload_5, n_132_102, n_132_103, n_132_104, n_132_105, n_132_107, ri_iload_9, n_132_109, ri_lload_13, n_132_111, n_132_112, n_132_113, tn_129, n_132_116, n_132_118, n_132_119, n_132_120, tn_133, n_132_123, n_132_125, n_132_126, n_132_129, ric_1, n_132_130, tn_134, n_132_133, n_132_134, ri_iadd, n_132_135, n_132_137, rin_10_1, n_132_140, tn_68, n_132_143, n_132_145, n_132_146, n_132_147, ri_l2i, n_132_148, n_132_150, n_132_151, n_132_153, n_132_154, tn_161, n_132_157, n_132_158, tn_162, n_132_161, n_132_162, n_132_163, ent_n, ent_i, ent_l, ent_r, ent_u, tL_n, tL_s, ap_n, ap_c, b01, b01L, ite_not, z10, cA0, cB0, cC0, cD0, cE0, cF0, cA1, cB1, cC1, cD1, cE1, cF1, cA2, cB2, cC2, cD2, cE2, cF2, cA3, cB3, cC3, cD3, cE3, cF3, vinT, vinN, li_clamp, iN_clamp, ↓reduceIte, if_true, if_false, iN_add1, iL_add, lI_add, iN_add, lI_mul, iL_mul, iN_mul, iN_sub, iL_sub, lI_sub, and_self, and_true, true_and, and_false, false_and, z10L, lc_eq, lc_lt, lc_le, lc_ge, lc_gt, pl, c1, big, rc_129 (I := I) (h := h) b1 h12, lk.1]
      · simp (maxSteps := 2000000) (disch := first | rfl | exact Nat.le_of_ble_eq_true rfl | assumption | omega) only [n_211_0, ri_aload_0, ri_aloadN_0, n_211_1, ric_0, n_211_2, pf_1141100_106, n_211_5, ri_iload_1, n_211_6, n_211_7, rdw_8, n_211_9, ri_S, rc_150, n_211_12, ri_if_eq, tn_23, n_211_15, n_211_16, ri_iload_2, n_211_17, ri_V, rc_168, n_211_20, ri_if_ne, tn_25, n_211_23, ric_m1, n_211_24, rt_211, n_211_25, rlc_0, n_211_26, ri_lstore, s1_i1, s2_in, s2_io, s2_it, s1_r1, s2_rn, s2_ro, s2_rt, s1_n1, s2_nn, s2_no, s2_nt, s1_j1, s2_jn, s2_jo, s2_jt, sto1_1l, sto1_z, sto2_z0, sto2_z1, sto2_z2, s1_2, s2_2, s1_3, s2_3, s1_4, s2_4, s1_5, s2_5, s1_6, s2_6, s1_7, s2_7, s1_8, s2_8, s1_9, s2_9, s1_10, s2_10, s1_11, s2_11, s1_12, s2_12, s1_13, s2_13, s1_14, s2_14, s1_15, s2_15, tl_c, tl_n, n_211_27, n_211_28, ri_istore, n_211_30, ri_ret, tk_0, tk_1, tk_2, tk_3, tk_4, tk_5, tk_6, tk_7, tk_8, tk_9, tk_10, tk_11, tk_12, tk_13, ri_iload_5, n_211_32, n_211_33, gf_1221114_106, n_211_36, ri_icmp_ge, tn_55, n_211_39, ri_lload_3, n_211_40, n_211_41, n_211_43, n_211_46, ri_i2l, n_211_47, ri_ladd, n_211_48, n_211_49, rin_5_1, n_211_52, ri_goto, tn_30, n_211_55, n_211_56, n_211_57, n_211_58, ri_lcmp, n_211_59, ri_if_lt, tn_68, n_211_62, n_211_63, n_211_64, n_211_67, n_211_68, n_211_69, n_211_70, n_211_72, n_211_73, n_211_75, ri_iload_7, n_211_77, n_211_78, n_211_81, tn_126, n_211_84, ri_lload_5, n_211_86, n_211_87, n_211_88, n_211_89, n_211_91, n_211_94, n_211_95, ri_lmul, n_211_96, n_211_97, ri_ldiv, n_211_98, ri_lsub, n_211_99, n_211_101, n_211_102, gf_1121128_106, n_211_105, n_211_107, n_211_108, n_211_109, n_211_110, n_211_112, n_211_115, n_211_116, n_211_117, n_211_118, ri_lrem, n_211_119, as_2, as_3, as_5, as_6, as_7, as_10, as_11, as_12, as_39, as_41, as_44, as_45, as_46, as_47, as_49, as_51, as_53, as_107, as_108, as_109, as_110, as_111, as_112, as_113, as_114, as_115, as_116, as_117, as_118, as_119, as_120, as_121, as_122, as_c, as_d, n_211_120, rin_7_1, n_211_123, tn_75, n_211_126, n_211_127, n_211_129, n_211_130, n_211_132, ri_iload_9, n_211_134, n_211_135, n_211_138, tn_197, n_211_141, ri_lload_7, n_211_143, n_211_144, n_211_147, n_211_149, al_2, al_3, al_5, al_6, al_7, al_10, al_11, al_12, al_39, al_41, al_44, al_45, al_46, al_47, al_49, al_51, al_53, al_107, al_108, al_109, al_110, al_111, al_112, al_113, al_114, al_115, al_116, al_117, al_118, al_119, al_120, al_121, al_122, al_c, al_d, al_14, al_bk, al_52, al_x0, al_x1, al_x2, al_x3, n_211_150, n_211_151, n_211_154, n_211_155, n_211_156, n_211_157, ri_if_gt, tn_183, n_211_160, n_211_161, n_211_164, n_211_166, n_211_167, n_211_168, n_211_171, n_211_172, n_211_173, n_211_174, tn_187, n_211_177, n_211_179, n_211_180, n_211_183, rlc_1, n_211_184, tn_188, n_211_187, n_211_188, n_211_189, n_211_191, rin_9_1, n_211_194, tn_132, n_211_197, n_211_198, n_211_199, n_211_200, n_211_201, n_211_204, n_211_205, n_211_206, n_211_207, n_211_208, ri_l2i, n_211_209, n_211_211, n_211_213, n_211_214, ri_if_ge, tn_221, n_211_217, ric_1, n_211_218, tn_222, n_211_221, n_211_222, ri_iadd, n_211_223, ent_n, ent_i, ent_l, ent_r, ent_u, tL_n, tL_s, ap_n, ap_c, b01, b01L, ite_not, z10, cA0, cB0, cC0, cD0, cE0, cF0, cA1, cB1, cC1, cD1, cE1, cF1, cA2, cB2, cC2, cD2, cE2, cF2, cA3, cB3, cC3, cD3, cE3, cF3, vinT, vinN, li_clamp, iN_clamp, ↓reduceIte, if_true, if_false, iN_add1, iL_add, lI_add, iN_add, lI_mul, iL_mul, iN_mul, iN_sub, iL_sub, lI_sub, and_self, and_true, true_and, and_false, false_and, z10L, lc_eq, lc_lt, lc_le, lc_ge, lc_gt, u2_s, u2_k, u2_a, u2_T1, u2_T2, u2_T3, u2_T4, u2_T5, u2_T6, u2_T7, u2_T8, y2]
        refine (lp_211a (I := u2 I 106 0 0) (h := h) (nc := nc) hl y0 y2 b2 h12 (fun k hk => (lo k hk).2) nc 0 (by omega)).trans ?_
        rw [← s8, n_211_10030]
        have nb : ¬ p < slN l 8 := by omega
        simp (maxSteps := 2000000) (disch := first | rfl | exact Nat.le_of_ble_eq_true rfl | assumption | omega) only [n_211_0, ri_aload_0, ri_aloadN_0, n_211_1, ric_0, n_211_2, pf_1141100_106, n_211_5, ri_iload_1, n_211_6, n_211_7, rdw_8, n_211_9, ri_S, rc_150, n_211_12, ri_if_eq, tn_23, n_211_15, n_211_16, ri_iload_2, n_211_17, ri_V, rc_168, n_211_20, ri_if_ne, tn_25, n_211_23, ric_m1, n_211_24, rt_211, n_211_25, rlc_0, n_211_26, ri_lstore, s1_i1, s2_in, s2_io, s2_it, s1_r1, s2_rn, s2_ro, s2_rt, s1_n1, s2_nn, s2_no, s2_nt, s1_j1, s2_jn, s2_jo, s2_jt, sto1_1l, sto1_z, sto2_z0, sto2_z1, sto2_z2, s1_2, s2_2, s1_3, s2_3, s1_4, s2_4, s1_5, s2_5, s1_6, s2_6, s1_7, s2_7, s1_8, s2_8, s1_9, s2_9, s1_10, s2_10, s1_11, s2_11, s1_12, s2_12, s1_13, s2_13, s1_14, s2_14, s1_15, s2_15, tl_c, tl_n, n_211_27, n_211_28, ri_istore, n_211_30, ri_ret, tk_0, tk_1, tk_2, tk_3, tk_4, tk_5, tk_6, tk_7, tk_8, tk_9, tk_10, tk_11, tk_12, tk_13, ri_iload_5, n_211_32, n_211_33, gf_1221114_106, n_211_36, ri_icmp_ge, tn_55, n_211_39, ri_lload_3, n_211_40, n_211_41, n_211_43, n_211_46, ri_i2l, n_211_47, ri_ladd, n_211_48, n_211_49, rin_5_1, n_211_52, ri_goto, tn_30, n_211_55, n_211_56, n_211_57, n_211_58, ri_lcmp, n_211_59, ri_if_lt, tn_68, n_211_62, n_211_63, n_211_64, n_211_67, n_211_68, n_211_69, n_211_70, n_211_72, n_211_73, n_211_75, ri_iload_7, n_211_77, n_211_78, n_211_81, tn_126, n_211_84, ri_lload_5, n_211_86, n_211_87, n_211_88, n_211_89, n_211_91, n_211_94, n_211_95, ri_lmul, n_211_96, n_211_97, ri_ldiv, n_211_98, ri_lsub, n_211_99, n_211_101, n_211_102, gf_1121128_106, n_211_105, n_211_107, n_211_108, n_211_109, n_211_110, n_211_112, n_211_115, n_211_116, n_211_117, n_211_118, ri_lrem, n_211_119, as_2, as_3, as_5, as_6, as_7, as_10, as_11, as_12, as_39, as_41, as_44, as_45, as_46, as_47, as_49, as_51, as_53, as_107, as_108, as_109, as_110, as_111, as_112, as_113, as_114, as_115, as_116, as_117, as_118, as_119, as_120, as_121, as_122, as_c, as_d, n_211_120, rin_7_1, n_211_123, tn_75, n_211_126, n_211_127, n_211_129, n_211_130, n_211_132, ri_iload_9, n_211_134, n_211_135, n_211_138, tn_197, n_211_141, ri_lload_7, n_211_143, n_211_144, n_211_147, n_211_149, al_2, al_3, al_5, al_6, al_7, al_10, al_11, al_12, al_39, al_41, al_44, al_45, al_46, al_47, al_49, al_51, al_53, al_107, al_108, al_109, al_110, al_111, al_112, al_113, al_114, al_115, al_116, al_117, al_118, al_119, al_120, al_121, al_122, al_c, al_d, al_14, al_bk, al_52, al_x0, al_x1, al_x2, al_x3, n_211_150, n_211_151, n_211_154, n_211_155, n_211_156, n_211_157, ri_if_gt, tn_183, n_211_160, n_211_161, n_211_164, n_211_166, n_211_167, n_211_168, n_211_171, n_211_172, n_211_173, n_211_174, tn_187, n_211_177, n_211_179, n_211_180, n_211_183, rlc_1, n_211_184, tn_188, n_211_187, n_211_188, n_211_189, n_211_191, rin_9_1, n_211_194, tn_132, n_211_197, n_211_198, n_211_199, n_211_200, n_211_201, n_211_204, n_211_205, n_211_206, n_211_207, n_211_208, ri_l2i, n_211_209, n_211_211, n_211_213, n_211_214, ri_if_ge, tn_221, n_211_217, ric_1, n_211_218, tn_222, n_211_221, n_211_222, ri_iadd, n_211_223, ent_n, ent_i, ent_l, ent_r, ent_u, tL_n, tL_s, ap_n, ap_c, b01, b01L, ite_not, z10, cA0, cB0, cC0, cD0, cE0, cF0, cA1, cB1, cC1, cD1, cE1, cF1, cA2, cB2, cC2, cD2, cE2, cF2, cA3, cB3, cC3, cD3, cE3, cF3, vinT, vinN, li_clamp, iN_clamp, ↓reduceIte, if_true, if_false, iN_add1, iL_add, lI_add, iN_add, lI_mul, iL_mul, iN_mul, iN_sub, iL_sub, lI_sub, and_self, and_true, true_and, and_false, false_and, z10L, lc_eq, lc_lt, lc_le, lc_ge, lc_gt, u2_s, u2_k, u2_a, u2_T1, u2_T2, u2_T3, u2_T4, u2_T5, u2_T6, u2_T7, u2_T8, y2, pl, c3, nb, rc_210 (I := u2 I 106 0 0) (h := h) b2 h12]
        rw [show smN (lcM (u2 I 106 0 0) (Int32.ofNat k)) h = Int32.ofNat (l k) from lk.2]
    · have pos : 0 < slN l 8 := by omega
      have hA2 : slN l 8 < 1000000 := by omega
      have o8 : ovF p (slN l 8) l 8 = ovF p (slN l 8) l nc := by
        have := ovF_z (p := p) (A := slN l 8) (l := l) (n := nc) hz (8 - nc)
        rw [show nc + (8 - nc) = 8 by omega] at this
        exact this
      have q8 : pcN (ahB p (slN l 8) l k) 8 = pcN (ahB p (slN l 8) l k) nc := by
        have := pcN_z (q := ahB p (slN l 8) l k) (n := nc) (fun o ho => ahB_z hk hz ho) (8 - nc)
        rw [show nc + (8 - nc) = 8 by omega] at this
        exact this
      have cl := pcN_le (ahB p (slN l 8) l k) 8
      have e1 : (Int32.ofNat p).toInt64 * (Int32.ofNat (l k)).toInt64 = Int64.ofNat (p * l k) := by
        rw [L_of (by omega), L_of (by omega), L_mul]
      have nz : ¬ Int64.ofNat (slN l 8) = 0 := by
        rw [d0, L_eq (by omega) (by decide)]
        omega
      have cL : (Int32.ofNat (pcN (ahB p (slN l 8) l k) 8)).toInt64 = Int64.ofNat (pcN (ahB p (slN l 8) l k) 8) := L_of (by omega)
      refine op_im (v := (Int64.ofNat (p * l k) / Int64.ofNat (slN l 8)).toInt32 + if Int64.ofNat (pcN (ahB p (slN l 8) l k) 8) < ovF p (slN l 8) l 8 then 1 else 0) (P := fun J M => J = I ∧ M = L) (fun Q K => ?_) (fun J M w Q K => ?_)
      · simp (maxSteps := 2000000) (disch := first | rfl | exact Nat.le_of_ble_eq_true rfl | assumption | omega) only [n_131_0, ri_iload_1, n_131_1, ric_0, n_131_2, rdw_5, n_131_5, ri_S, rc_14, n_131_8, ri_if_eq, tn_25, n_131_11, ri_aload_0, ri_aloadN_0, n_131_12, gf_21002_0, n_131_15, gf_30200_8, n_131_18, ri_iload_2, n_131_19, ri_V, rc_54_9, rc_54_4, n_131_22, ri_if_ne, tn_27, n_131_25, ric_m1, n_131_26, rt_131, n_131_27, n_131_28, n_131_31, n_131_32, n_131_33, in_132, n_131_36, n_132_0, rlc_0, n_132_1, ri_lstore, s1_i1, s2_in, s2_io, s2_it, s1_r1, s2_rn, s2_ro, s2_rt, s1_n1, s2_nn, s2_no, s2_nt, s1_j1, s2_jn, s2_jo, s2_jt, sto1_1l, sto1_z, sto2_z0, sto2_z1, sto2_z2, s1_2, s2_2, s1_3, s2_3, s1_4, s2_4, s1_5, s2_5, s1_6, s2_6, s1_7, s2_7, s1_8, s2_8, s1_9, s2_9, s1_10, s2_10, s1_11, s2_11, s1_12, s2_12, s1_13, s2_13, s1_14, s2_14, s1_15, s2_15, tl_c, tl_n, n_132_2, n_132_3, ri_istore, n_132_5, ri_ret, tk_0, tk_1, tk_2, tk_3, tk_4, tk_5, tk_6, tk_7, tk_8, tk_9, tk_10, tk_11, tk_12, tk_13, ri_iload_5, n_132_7, ric_8, n_132_9, ri_icmp_ge, tn_28, n_132_12, ri_lload_3, n_132_13, n_132_14, n_132_16, n_132_19, ri_i2l, n_132_20, ri_ladd, n_132_21, n_132_22, rin_5_1, n_132_25, ri_goto, tn_5, n_132_28, n_132_29, n_132_30, n_132_31, ri_lcmp, n_132_32, ri_if_ge, tn_41, n_132_35, n_132_36, n_132_37, n_132_38, ri_if_gt, tn_47, n_132_41, n_132_42, n_132_43, n_132_46, rt_132, n_132_47, n_132_48, n_132_49, n_132_50, n_132_51, n_132_54, n_132_55, ri_lmul, n_132_56, n_132_58, n_132_59, n_132_60, n_132_62, n_132_63, n_132_65, n_132_66, n_132_68, ri_iload_10, n_132_70, n_132_72, tn_143, n_132_75, n_132_76, n_132_77, n_132_78, n_132_80, n_132_83, n_132_84, n_132_85, n_132_87, ri_lload_7, n_132_89, ri_lload_11, n_132_91, n_132_92, ri_ldiv, n_132_93, ri_lsub, n_132_94, n_132_96, n_132_98, n_132_99, ri_lrem, n_132_100, ri_lload_5, n_132_102, n_132_103, n_132_104, n_132_105, n_132_107, ri_iload_9, n_132_109, ri_lload_13, n_132_111, n_132_112, n_132_113, tn_129, n_132_116, n_132_118, n_132_119, n_132_120, tn_133, n_132_123, n_132_125, n_132_126, n_132_129, ric_1, n_132_130, tn_134, n_132_133, n_132_134, ri_iadd, n_132_135, n_132_137, rin_10_1, n_132_140, tn_68, n_132_143, n_132_145, n_132_146, n_132_147, ri_l2i, n_132_148, n_132_150, n_132_151, n_132_153, n_132_154, tn_161, n_132_157, n_132_158, tn_162, n_132_161, n_132_162, n_132_163, ent_n, ent_i, ent_l, ent_r, ent_u, tL_n, tL_s, ap_n, ap_c, b01, b01L, ite_not, z10, cA0, cB0, cC0, cD0, cE0, cF0, cA1, cB1, cC1, cD1, cE1, cF1, cA2, cB2, cC2, cD2, cE2, cF2, cA3, cB3, cC3, cD3, cE3, cF3, vinT, vinN, li_clamp, iN_clamp, ↓reduceIte, if_true, if_false, iN_add1, iL_add, lI_add, iN_add, lI_mul, iL_mul, iN_mul, iN_sub, iL_sub, lI_sub, and_self, and_true, true_and, and_false, false_and, z10L, lc_eq, lc_lt, lc_le, lc_ge, lc_gt, y1]
        refine Eq.mpr (lp_132a hl b1 h12 (fun k hk => (lo k hk).1) 8 0 rfl) ?_
        rw [n_132_10005]
        simp (maxSteps := 2000000) (disch := first | rfl | exact Nat.le_of_ble_eq_true rfl | assumption | omega) only [n_132_0, rlc_0, n_132_1, ri_lstore, s1_i1, s2_in, s2_io, s2_it, s1_r1, s2_rn, s2_ro, s2_rt, s1_n1, s2_nn, s2_no, s2_nt, s1_j1, s2_jn, s2_jo, s2_jt, sto1_1l, sto1_z, sto2_z0, sto2_z1, sto2_z2, s1_2, s2_2, s1_3, s2_3, s1_4, s2_4, s1_5, s2_5, s1_6, s2_6, s1_7, s2_7, s1_8, s2_8, s1_9, s2_9, s1_10, s2_10, s1_11, s2_11, s1_12, s2_12, s1_13, s2_13, s1_14, s2_14, s1_15, s2_15, tl_c, tl_n, n_132_2, ric_0, n_132_3, ri_istore, n_132_5, ri_ret, tk_0, tk_1, tk_2, tk_3, tk_4, tk_5, tk_6, tk_7, tk_8, tk_9, tk_10, tk_11, tk_12, tk_13, n_132_7, ric_8, n_132_9, ri_icmp_ge, tn_28, n_132_12, ri_lload_3, n_132_13, ri_aload_0, ri_aloadN_0, n_132_14, ri_iload_5, n_132_16, ri_V, n_132_19, ri_i2l, n_132_20, ri_ladd, n_132_21, n_132_22, rin_5_1, n_132_25, ri_goto, tn_5, n_132_28, ri_iload_1, n_132_29, n_132_30, n_132_31, ri_lcmp, n_132_32, ri_if_ge, tn_41, n_132_35, n_132_36, n_132_37, n_132_38, ri_if_gt, tn_47, n_132_41, n_132_42, ri_iload_2, n_132_43, n_132_46, rt_132, n_132_47, n_132_48, n_132_49, n_132_50, n_132_51, n_132_54, n_132_55, ri_lmul, n_132_56, n_132_58, n_132_59, n_132_60, n_132_62, n_132_63, n_132_65, n_132_66, n_132_68, ent_n, ent_i, ent_l, ent_r, ent_u, tL_n, tL_s, ap_n, ap_c, b01, b01L, ite_not, z10, cA0, cB0, cC0, cD0, cE0, cF0, cA1, cB1, cC1, cD1, cE1, cF1, cA2, cB2, cC2, cD2, cE2, cF2, cA3, cB3, cC3, cD3, cE3, cF3, vinT, vinN, li_clamp, iN_clamp, ↓reduceIte, if_true, if_false, iN_add1, iL_add, lI_add, iN_add, lI_mul, iL_mul, iN_mul, iN_sub, iL_sub, lI_sub, and_self, and_true, true_and, and_false, false_and, z10L, lc_eq, lc_lt, lc_le, lc_ge, lc_gt, pl, c1, big, c4, pos, rc_129 (I := I) (h := h) b1 h12, lk.1]
        rw [← pl, e1, pl]
        refine Eq.mpr (lp_132b (N := N) (xs := xs) (L := L) (h := h) (p := p) (k := k) (A := slN l 8) hp hl b1 h12 (by omega) pos hA2 (fun k hk => (lo k hk).1) 8 0 rfl) ?_
        rw [n_132_10068]
        simp (maxSteps := 2000000) (disch := first | rfl | exact Nat.le_of_ble_eq_true rfl | assumption | omega) only [n_132_68, ri_ret, tk_0, tk_1, tk_2, tk_3, tk_4, tk_5, tk_6, tk_7, tk_8, tk_9, tk_10, tk_11, tk_12, tk_13, n_132_70, ric_8, n_132_72, ri_icmp_ge, tn_143, n_132_75, ri_iload_1, n_132_76, ri_i2l, n_132_77, ri_aload_0, ri_aloadN_0, n_132_78, ri_iload_10, n_132_80, ri_V, n_132_83, n_132_84, ri_lmul, n_132_85, ri_lstore, s1_i1, s2_in, s2_io, s2_it, s1_r1, s2_rn, s2_ro, s2_rt, s1_n1, s2_nn, s2_no, s2_nt, s1_j1, s2_jn, s2_jo, s2_jt, sto1_1l, sto1_z, sto2_z0, sto2_z1, sto2_z2, s1_2, s2_2, s1_3, s2_3, s1_4, s2_4, s1_5, s2_5, s1_6, s2_6, s1_7, s2_7, s1_8, s2_8, s1_9, s2_9, s1_10, s2_10, s1_11, s2_11, s1_12, s2_12, s1_13, s2_13, s1_14, s2_14, s1_15, s2_15, tl_c, tl_n, n_132_87, ri_lload_7, n_132_89, ri_lload_11, n_132_91, ri_lload_3, n_132_92, ri_ldiv, n_132_93, ri_lsub, n_132_94, n_132_96, n_132_98, n_132_99, ri_lrem, n_132_100, ri_lload_5, n_132_102, n_132_103, n_132_104, n_132_105, n_132_107, ri_iload_9, n_132_109, ri_lload_13, n_132_111, rlc_0, n_132_112, ri_lcmp, n_132_113, ri_if_gt, tn_129, n_132_116, n_132_118, n_132_119, n_132_120, ri_if_ne, tn_133, n_132_123, n_132_125, ri_iload_2, n_132_126, n_132_129, ric_1, n_132_130, ri_goto, tn_134, n_132_133, ric_0, n_132_134, ri_iadd, n_132_135, ri_istore, n_132_137, rin_10_1, n_132_140, tn_68, n_132_143, n_132_145, n_132_146, n_132_147, ri_l2i, n_132_148, n_132_150, n_132_151, n_132_153, n_132_154, ri_if_ge, tn_161, n_132_157, n_132_158, tn_162, n_132_161, n_132_162, n_132_163, rt_132, ent_n, ent_i, ent_l, ent_r, ent_u, tL_n, tL_s, ap_n, ap_c, b01, b01L, ite_not, z10, cA0, cB0, cC0, cD0, cE0, cF0, cA1, cB1, cC1, cD1, cE1, cF1, cA2, cB2, cC2, cD2, cE2, cF2, cA3, cB3, cC3, cD3, cE3, cF3, vinT, vinN, li_clamp, iN_clamp, ↓reduceIte, if_true, if_false, iN_add1, iL_add, lI_add, iN_add, lI_mul, iL_mul, iN_mul, iN_sub, iL_sub, lI_sub, and_self, and_true, true_and, and_false, false_and, z10L, lc_eq, lc_lt, lc_le, lc_ge, lc_gt, cL]
        have K2 := K I L ⟨rfl, rfl⟩
        by_cases y : Int64.ofNat (pcN (ahB p (slN l 8) l k) 8) < ovF p (slN l 8) l 8
        · rw [if_pos y] at K2
          rw [if_neg (Int64.not_le.mpr y)]
          simp (maxSteps := 2000000) (disch := first | rfl | exact Nat.le_of_ble_eq_true rfl | assumption | omega) only [n_131_0, ri_iload_1, n_131_1, ric_0, n_131_2, rdw_5, n_131_5, ri_S, rc_14, n_131_8, ri_if_eq, tn_25, n_131_11, ri_aload_0, ri_aloadN_0, n_131_12, gf_21002_0, n_131_15, gf_30200_8, n_131_18, ri_iload_2, n_131_19, ri_V, rc_54_9, rc_54_4, n_131_22, ri_if_ne, tn_27, n_131_25, ric_m1, n_131_26, rt_131, n_131_27, n_131_28, n_131_31, n_131_32, n_131_33, n_131_36, ent_n, ent_i, ent_l, ent_r, ent_u, tL_n, tL_s, ap_n, ap_c, b01, b01L, ite_not, z10, cA0, cB0, cC0, cD0, cE0, cF0, cA1, cB1, cC1, cD1, cE1, cF1, cA2, cB2, cC2, cD2, cE2, cF2, cA3, cB3, cC3, cD3, cE3, cF3, vinT, vinN, li_clamp, iN_clamp, ↓reduceIte, if_true, if_false, iN_add1, iL_add, lI_add, iN_add, lI_mul, iL_mul, iN_mul, iN_sub, iL_sub, lI_sub, and_self, and_true, true_and, and_false, false_and, z10L, lc_eq, lc_lt, lc_le, lc_ge, lc_gt]
          exact K2
        · rw [if_neg y] at K2
          rw [if_pos (Int64.not_lt.mp y)]
          simp (maxSteps := 2000000) (disch := first | rfl | exact Nat.le_of_ble_eq_true rfl | assumption | omega) only [n_131_0, ri_iload_1, n_131_1, ric_0, n_131_2, rdw_5, n_131_5, ri_S, rc_14, n_131_8, ri_if_eq, tn_25, n_131_11, ri_aload_0, ri_aloadN_0, n_131_12, gf_21002_0, n_131_15, gf_30200_8, n_131_18, ri_iload_2, n_131_19, ri_V, rc_54_9, rc_54_4, n_131_22, ri_if_ne, tn_27, n_131_25, ric_m1, n_131_26, rt_131, n_131_27, n_131_28, n_131_31, n_131_32, n_131_33, n_131_36, ent_n, ent_i, ent_l, ent_r, ent_u, tL_n, tL_s, ap_n, ap_c, b01, b01L, ite_not, z10, cA0, cB0, cC0, cD0, cE0, cF0, cA1, cB1, cC1, cD1, cE1, cF1, cA2, cB2, cC2, cD2, cE2, cF2, cA3, cB3, cC3, cD3, cE3, cF3, vinT, vinN, li_clamp, iN_clamp, ↓reduceIte, if_true, if_false, iN_add1, iL_add, lI_add, iN_add, lI_mul, iL_mul, iN_mul, iN_sub, iL_sub, lI_sub, and_self, and_true, true_and, and_false, false_and, z10L, lc_eq, lc_lt, lc_le, lc_ge, lc_gt]
          exact K2
      · obtain ⟨rfl, rfl⟩ := w
        simp (maxSteps := 2000000) (disch := first | rfl | exact Nat.le_of_ble_eq_true rfl | assumption | omega) only [n_211_0, ri_aload_0, ri_aloadN_0, n_211_1, ric_0, n_211_2, pf_1141100_106, n_211_5, ri_iload_1, n_211_6, n_211_7, rdw_8, n_211_9, ri_S, rc_150, n_211_12, ri_if_eq, tn_23, n_211_15, n_211_16, ri_iload_2, n_211_17, ri_V, rc_168, n_211_20, ri_if_ne, tn_25, n_211_23, ric_m1, n_211_24, rt_211, n_211_25, rlc_0, n_211_26, ri_lstore, s1_i1, s2_in, s2_io, s2_it, s1_r1, s2_rn, s2_ro, s2_rt, s1_n1, s2_nn, s2_no, s2_nt, s1_j1, s2_jn, s2_jo, s2_jt, sto1_1l, sto1_z, sto2_z0, sto2_z1, sto2_z2, s1_2, s2_2, s1_3, s2_3, s1_4, s2_4, s1_5, s2_5, s1_6, s2_6, s1_7, s2_7, s1_8, s2_8, s1_9, s2_9, s1_10, s2_10, s1_11, s2_11, s1_12, s2_12, s1_13, s2_13, s1_14, s2_14, s1_15, s2_15, tl_c, tl_n, n_211_27, n_211_28, ri_istore, n_211_30, ri_ret, tk_0, tk_1, tk_2, tk_3, tk_4, tk_5, tk_6, tk_7, tk_8, tk_9, tk_10, tk_11, tk_12, tk_13, ri_iload_5, n_211_32, n_211_33, gf_1221114_106, n_211_36, ri_icmp_ge, tn_55, n_211_39, ri_lload_3, n_211_40, n_211_41, n_211_43, n_211_46, ri_i2l, n_211_47, ri_ladd, n_211_48, n_211_49, rin_5_1, n_211_52, ri_goto, tn_30, n_211_55, n_211_56, n_211_57, n_211_58, ri_lcmp, n_211_59, ri_if_lt, tn_68, n_211_62, n_211_63, n_211_64, n_211_67, n_211_68, n_211_69, n_211_70, n_211_72, n_211_73, n_211_75, ri_iload_7, n_211_77, n_211_78, n_211_81, tn_126, n_211_84, ri_lload_5, n_211_86, n_211_87, n_211_88, n_211_89, n_211_91, n_211_94, n_211_95, ri_lmul, n_211_96, n_211_97, ri_ldiv, n_211_98, ri_lsub, n_211_99, n_211_101, n_211_102, gf_1121128_106, n_211_105, n_211_107, n_211_108, n_211_109, n_211_110, n_211_112, n_211_115, n_211_116, n_211_117, n_211_118, ri_lrem, n_211_119, as_2, as_3, as_5, as_6, as_7, as_10, as_11, as_12, as_39, as_41, as_44, as_45, as_46, as_47, as_49, as_51, as_53, as_107, as_108, as_109, as_110, as_111, as_112, as_113, as_114, as_115, as_116, as_117, as_118, as_119, as_120, as_121, as_122, as_c, as_d, n_211_120, rin_7_1, n_211_123, tn_75, n_211_126, n_211_127, n_211_129, n_211_130, n_211_132, ri_iload_9, n_211_134, n_211_135, n_211_138, tn_197, n_211_141, ri_lload_7, n_211_143, n_211_144, n_211_147, n_211_149, al_2, al_3, al_5, al_6, al_7, al_10, al_11, al_12, al_39, al_41, al_44, al_45, al_46, al_47, al_49, al_51, al_53, al_107, al_108, al_109, al_110, al_111, al_112, al_113, al_114, al_115, al_116, al_117, al_118, al_119, al_120, al_121, al_122, al_c, al_d, al_14, al_bk, al_52, al_x0, al_x1, al_x2, al_x3, n_211_150, n_211_151, n_211_154, n_211_155, n_211_156, n_211_157, ri_if_gt, tn_183, n_211_160, n_211_161, n_211_164, n_211_166, n_211_167, n_211_168, n_211_171, n_211_172, n_211_173, n_211_174, tn_187, n_211_177, n_211_179, n_211_180, n_211_183, rlc_1, n_211_184, tn_188, n_211_187, n_211_188, n_211_189, n_211_191, rin_9_1, n_211_194, tn_132, n_211_197, n_211_198, n_211_199, n_211_200, n_211_201, n_211_204, n_211_205, n_211_206, n_211_207, n_211_208, ri_l2i, n_211_209, n_211_211, n_211_213, n_211_214, ri_if_ge, tn_221, n_211_217, ric_1, n_211_218, tn_222, n_211_221, n_211_222, ri_iadd, n_211_223, ent_n, ent_i, ent_l, ent_r, ent_u, tL_n, tL_s, ap_n, ap_c, b01, b01L, ite_not, z10, cA0, cB0, cC0, cD0, cE0, cF0, cA1, cB1, cC1, cD1, cE1, cF1, cA2, cB2, cC2, cD2, cE2, cF2, cA3, cB3, cC3, cD3, cE3, cF3, vinT, vinN, li_clamp, iN_clamp, ↓reduceIte, if_true, if_false, iN_add1, iL_add, lI_add, iN_add, lI_mul, iL_mul, iN_mul, iN_sub, iL_sub, lI_sub, and_self, and_true, true_and, and_false, false_and, z10L, lc_eq, lc_lt, lc_le, lc_ge, lc_gt, u2_s, u2_k, u2_a, u2_T1, u2_T2, u2_T3, u2_T4, u2_T5, u2_T6, u2_T7, u2_T8, y2]
        refine Eq.mpr (lp_211a (I := u2 J 106 0 0) (h := h) (nc := nc) hl y0 y2 b2 h12 (fun k hk => (lo k hk).2) nc 0 (by omega)) ?_
        rw [← s8, n_211_10030]
        have lt : p < slN l 8 := by omega
        have y2b : u2 J 106 0 0 106 14 = Int32.ofNat nc := y2
        simp (maxSteps := 2000000) (disch := first | rfl | exact Nat.le_of_ble_eq_true rfl | assumption | omega) only [n_211_30, ri_ret, tk_0, tk_1, tk_2, tk_3, tk_4, tk_5, tk_6, tk_7, tk_8, tk_9, tk_10, tk_11, tk_12, tk_13, n_211_32, ri_aload_0, ri_aloadN_0, n_211_33, gf_1221114_106, n_211_36, ri_icmp_ge, tn_55, n_211_39, ri_lload_3, n_211_40, n_211_41, ri_iload_5, n_211_43, ri_V, n_211_46, ri_i2l, n_211_47, ri_ladd, n_211_48, ri_lstore, s1_i1, s2_in, s2_io, s2_it, s1_r1, s2_rn, s2_ro, s2_rt, s1_n1, s2_nn, s2_no, s2_nt, s1_j1, s2_jn, s2_jo, s2_jt, sto1_1l, sto1_z, sto2_z0, sto2_z1, sto2_z2, s1_2, s2_2, s1_3, s2_3, s1_4, s2_4, s1_5, s2_5, s1_6, s2_6, s1_7, s2_7, s1_8, s2_8, s1_9, s2_9, s1_10, s2_10, s1_11, s2_11, s1_12, s2_12, s1_13, s2_13, s1_14, s2_14, s1_15, s2_15, tl_c, tl_n, n_211_49, rin_5_1, n_211_52, ri_goto, tn_30, n_211_55, ri_iload_1, n_211_56, n_211_57, n_211_58, ri_lcmp, n_211_59, ri_if_lt, tn_68, n_211_62, n_211_63, ri_iload_2, n_211_64, n_211_67, rt_211, n_211_68, n_211_69, n_211_70, n_211_72, ric_0, n_211_73, ri_istore, n_211_75, ent_n, ent_i, ent_l, ent_r, ent_u, tL_n, tL_s, ap_n, ap_c, b01, b01L, ite_not, z10, cA0, cB0, cC0, cD0, cE0, cF0, cA1, cB1, cC1, cD1, cE1, cF1, cA2, cB2, cC2, cD2, cE2, cF2, cA3, cB3, cC3, cD3, cE3, cF3, vinT, vinN, li_clamp, iN_clamp, ↓reduceIte, if_true, if_false, iN_add1, iL_add, lI_add, iN_add, lI_mul, iL_mul, iN_mul, iN_sub, iL_sub, lI_sub, and_self, and_true, true_and, and_false, false_and, z10L, lc_eq, lc_lt, lc_le, lc_ge, lc_gt, y2b, pl, c3, lt]
        refine lp_211b (I := u2 J 106 0 0) (h := h) hp hl y0 y2 b2 h12 pos hA2 (fun k hk => (lo k hk).2) (fun M2 m => ?_) nc 0 M (by omega) ⟨fun o ho => by omega, fun _ _ _ => rfl⟩
        rw [n_211_10075]
        simp (maxSteps := 2000000) (disch := first | rfl | exact Nat.le_of_ble_eq_true rfl | assumption | omega) only [n_211_75, ri_ret, tk_0, tk_1, tk_2, tk_3, tk_4, tk_5, tk_6, tk_7, tk_8, tk_9, tk_10, tk_11, tk_12, tk_13, n_211_77, ri_aload_0, ri_aloadN_0, n_211_78, gf_1221114_106, n_211_81, ri_icmp_ge, tn_126, n_211_84, ri_lload_5, n_211_86, ri_iload_1, n_211_87, ri_i2l, n_211_88, n_211_89, ri_iload_7, n_211_91, ri_V, n_211_94, n_211_95, ri_lmul, n_211_96, ri_lload_3, n_211_97, ri_ldiv, n_211_98, ri_lsub, n_211_99, ri_lstore, s1_i1, s2_in, s2_io, s2_it, s1_r1, s2_rn, s2_ro, s2_rt, s1_n1, s2_nn, s2_no, s2_nt, s1_j1, s2_jn, s2_jo, s2_jt, sto1_1l, sto1_z, sto2_z0, sto2_z1, sto2_z2, s1_2, s2_2, s1_3, s2_3, s1_4, s2_4, s1_5, s2_5, s1_6, s2_6, s1_7, s2_7, s1_8, s2_8, s1_9, s2_9, s1_10, s2_10, s1_11, s2_11, s1_12, s2_12, s1_13, s2_13, s1_14, s2_14, s1_15, s2_15, tl_c, tl_n, n_211_101, n_211_102, gf_1121128_106, n_211_105, n_211_107, n_211_108, n_211_109, n_211_110, n_211_112, n_211_115, n_211_116, n_211_117, n_211_118, ri_lrem, n_211_119, as_2, as_3, as_5, as_6, as_7, as_10, as_11, as_12, as_39, as_41, as_44, as_45, as_46, as_47, as_49, as_51, as_53, as_107, as_108, as_109, as_110, as_111, as_112, as_113, as_114, as_115, as_116, as_117, as_118, as_119, as_120, as_121, as_122, as_c, as_d, n_211_120, rin_7_1, n_211_123, ri_goto, tn_75, n_211_126, rlc_0, n_211_127, n_211_129, ric_0, n_211_130, ri_istore, n_211_132, ent_n, ent_i, ent_l, ent_r, ent_u, tL_n, tL_s, ap_n, ap_c, b01, b01L, ite_not, z10, cA0, cB0, cC0, cD0, cE0, cF0, cA1, cB1, cC1, cD1, cE1, cF1, cA2, cB2, cC2, cD2, cE2, cF2, cA3, cB3, cC3, cD3, cE3, cF3, vinT, vinN, li_clamp, iN_clamp, ↓reduceIte, if_true, if_false, iN_add1, iL_add, lI_add, iN_add, lI_mul, iL_mul, iN_mul, iN_sub, iL_sub, lI_sub, and_self, and_true, true_and, and_false, false_and, z10L, lc_eq, lc_lt, lc_le, lc_ge, lc_gt, u2_s, u2_k, u2_a, u2_T1, u2_T2, u2_T3, u2_T4, u2_T5, u2_T6, u2_T7, u2_T8, y2b, y2]
        refine Eq.mpr (lp_211c (I := u2 J 106 0 0) (L := M2) (P := Int32.ofNat p) (lf := ovF p (slN l 8) l nc) hp hl y0 hk y2 pos hA2 m.1 nc 0 (by omega)) ?_
        rw [n_211_10132]
        simp (maxSteps := 2000000) (disch := first | rfl | exact Nat.le_of_ble_eq_true rfl | assumption | omega) only [n_211_132, ri_ret, tk_0, tk_1, tk_2, tk_3, tk_4, tk_5, tk_6, tk_7, tk_8, tk_9, tk_10, tk_11, tk_12, tk_13, n_211_134, ri_aload_0, ri_aloadN_0, n_211_135, gf_1221114_106, n_211_138, ri_icmp_ge, tn_197, n_211_141, ri_lload_7, n_211_143, n_211_144, gf_1121128_106, n_211_147, ri_iload_9, n_211_149, al_2, al_3, al_5, al_6, al_7, al_10, al_11, al_12, al_39, al_41, al_44, al_45, al_46, al_47, al_49, al_51, al_53, al_107, al_108, al_109, al_110, al_111, al_112, al_113, al_114, al_115, al_116, al_117, al_118, al_119, al_120, al_121, al_122, al_c, al_d, al_14, al_bk, al_52, al_x0, al_x1, al_x2, al_x3, n_211_150, n_211_151, n_211_154, ri_iload_2, n_211_155, n_211_156, ri_lcmp, n_211_157, ri_if_gt, tn_183, n_211_160, n_211_161, n_211_164, n_211_166, n_211_167, n_211_168, n_211_171, n_211_172, n_211_173, n_211_174, ri_if_ne, tn_187, n_211_177, n_211_179, n_211_180, n_211_183, rlc_1, n_211_184, ri_goto, tn_188, n_211_187, rlc_0, n_211_188, ri_ladd, n_211_189, ri_lstore, s1_i1, s2_in, s2_io, s2_it, s1_r1, s2_rn, s2_ro, s2_rt, s1_n1, s2_nn, s2_no, s2_nt, s1_j1, s2_jn, s2_jo, s2_jt, sto1_1l, sto1_z, sto2_z0, sto2_z1, sto2_z2, s1_2, s2_2, s1_3, s2_3, s1_4, s2_4, s1_5, s2_5, s1_6, s2_6, s1_7, s2_7, s1_8, s2_8, s1_9, s2_9, s1_10, s2_10, s1_11, s2_11, s1_12, s2_12, s1_13, s2_13, s1_14, s2_14, s1_15, s2_15, tl_c, tl_n, n_211_191, rin_9_1, n_211_194, tn_132, n_211_197, ri_iload_1, n_211_198, ri_i2l, n_211_199, n_211_200, n_211_201, ri_V, n_211_204, n_211_205, ri_lmul, n_211_206, ri_lload_3, n_211_207, ri_ldiv, n_211_208, ri_l2i, n_211_209, n_211_211, ri_lload_5, n_211_213, n_211_214, ri_if_ge, tn_221, n_211_217, ric_1, n_211_218, tn_222, n_211_221, ric_0, n_211_222, ri_iadd, n_211_223, rt_211, ent_n, ent_i, ent_l, ent_r, ent_u, tL_n, tL_s, ap_n, ap_c, b01, b01L, ite_not, z10, cA0, cB0, cC0, cD0, cE0, cF0, cA1, cB1, cC1, cD1, cE1, cF1, cA2, cB2, cC2, cD2, cE2, cF2, cA3, cB3, cC3, cD3, cE3, cF3, vinT, vinN, li_clamp, iN_clamp, ↓reduceIte, if_true, if_false, iN_add1, iL_add, lI_add, iN_add, lI_mul, iL_mul, iN_mul, iN_sub, iL_sub, lI_sub, and_self, and_true, true_and, and_false, false_and, z10L, lc_eq, lc_lt, lc_le, lc_ge, lc_gt, y2b, y2, rc_210 (I := u2 J 106 0 0) (h := h) b2 h12, nz]
        rw [show smN (lcM (u2 J 106 0 0) (Int32.ofNat k)) h = Int32.ofNat (l k) from lk.2]
        have iM : Inv (u2 J 106 0 0) M2 := Inv_ag AgI.rf (fun x y q => m.2 x y (fun e => by
          subst e
          rw [show relL 122 y = false from rfl] at q
          cases q)) iJ
        have K2 := K _ _ iM
        rw [o8, q8] at K2
        simp (maxSteps := 2000000) (disch := first | rfl | exact Nat.le_of_ble_eq_true rfl | assumption | omega) only [n_211_150, ri_aload_0, ri_aloadN_0, n_211_151, gf_1121128_106, n_211_154, ri_iload_2, n_211_155, al_2, al_3, al_5, al_6, al_7, al_10, al_11, al_12, al_39, al_41, al_44, al_45, al_46, al_47, al_49, al_51, al_53, al_107, al_108, al_109, al_110, al_111, al_112, al_113, al_114, al_115, al_116, al_117, al_118, al_119, al_120, al_121, al_122, al_c, al_d, al_14, al_bk, al_52, al_x0, al_x1, al_x2, al_x3, n_211_156, ri_lcmp, n_211_157, ri_if_gt, tn_183, n_211_160, n_211_161, n_211_164, ri_iload_9, n_211_166, n_211_167, n_211_168, n_211_171, n_211_172, n_211_173, n_211_174, ri_if_ne, tn_187, n_211_177, n_211_179, n_211_180, ri_icmp_ge, n_211_183, rlc_1, n_211_184, ri_goto, tn_188, n_211_187, rlc_0, n_211_188, ri_ladd, n_211_189, ri_lstore, s1_i1, s2_in, s2_io, s2_it, s1_r1, s2_rn, s2_ro, s2_rt, s1_n1, s2_nn, s2_no, s2_nt, s1_j1, s2_jn, s2_jo, s2_jt, sto1_1l, sto1_z, sto2_z0, sto2_z1, sto2_z2, s1_2, s2_2, s1_3, s2_3, s1_4, s2_4, s1_5, s2_5, s1_6, s2_6, s1_7, s2_7, s1_8, s2_8, s1_9, s2_9, s1_10, s2_10, s1_11, s2_11, s1_12, s2_12, s1_13, s2_13, s1_14, s2_14, s1_15, s2_15, tl_c, tl_n, n_211_191, rin_9_1, n_211_194, tn_132, n_211_197, ri_iload_1, n_211_198, ri_i2l, n_211_199, n_211_200, n_211_201, ri_V, n_211_204, n_211_205, ri_lmul, n_211_206, ri_lload_3, n_211_207, ri_ldiv, n_211_208, ri_l2i, n_211_209, ri_lload_7, n_211_211, ri_lload_5, n_211_213, n_211_214, ri_if_ge, tn_221, n_211_217, ric_1, n_211_218, tn_222, n_211_221, ric_0, n_211_222, ri_iadd, n_211_223, rt_211, ent_n, ent_i, ent_l, ent_r, ent_u, tL_n, tL_s, ap_n, ap_c, b01, b01L, ite_not, z10, cA0, cB0, cC0, cD0, cE0, cF0, cA1, cB1, cC1, cD1, cE1, cF1, cA2, cB2, cC2, cD2, cE2, cF2, cA3, cB3, cC3, cD3, cE3, cF3, vinT, vinN, li_clamp, iN_clamp, ↓reduceIte, if_true, if_false, iN_add1, iL_add, lI_add, iN_add, lI_mul, iL_mul, iN_mul, iN_sub, iL_sub, lI_sub, and_self, and_true, true_and, and_false, false_and, z10L, lc_eq, lc_lt, lc_le, lc_ge, lc_gt, e1]
        by_cases y : Int64.ofNat (pcN (ahB p (slN l 8) l k) nc) < ovF p (slN l 8) l nc
        · rw [if_pos y] at K2
          rw [if_neg (Int64.not_le.mpr y)]
          exact K2
        · rw [if_neg y] at K2
          rw [if_pos (Int64.not_lt.mp y)]
          exact K2
  · refine op_of (v := -1) (I1 := I) (L1 := L) (I2 := u2 I 106 0 0) (L2 := L) (fun Q => ?_) (fun Q => ?_) (thr_ok inv)
    · simp (maxSteps := 2000000) (disch := first | rfl | exact Nat.le_of_ble_eq_true rfl | assumption | omega) only [n_131_0, ri_iload_1, n_131_1, ric_0, n_131_2, rdw_5, n_131_5, ri_S, rc_14, n_131_8, ri_if_eq, tn_25, n_131_11, ri_aload_0, ri_aloadN_0, n_131_12, gf_21002_0, n_131_15, gf_30200_8, n_131_18, ri_iload_2, n_131_19, ri_V, rc_54_9, rc_54_4, n_131_22, ri_if_ne, tn_27, n_131_25, ric_m1, n_131_26, rt_131, n_131_27, n_131_28, ent_n, ent_i, ent_l, ent_r, ent_u, tL_n, tL_s, ap_n, ap_c, b01, b01L, ite_not, z10, cA0, cB0, cC0, cD0, cE0, cF0, cA1, cB1, cC1, cD1, cE1, cF1, cA2, cB2, cC2, cD2, cE2, cF2, cA3, cB3, cC3, cD3, cE3, cF3, vinT, vinN, li_clamp, iN_clamp, ↓reduceIte, if_true, if_false, iN_add1, iL_add, lI_add, iN_add, lI_mul, iL_mul, iN_mul, iN_sub, iL_sub, lI_sub, and_self, and_true, true_and, and_false, false_and, z10L, lc_eq, lc_lt, lc_le, lc_ge, lc_gt, y1]
      grind
    · simp (maxSteps := 2000000) (disch := first | rfl | exact Nat.le_of_ble_eq_true rfl | assumption | omega) only [n_211_0, ri_aload_0, ri_aloadN_0, n_211_1, ric_0, n_211_2, pf_1141100_106, n_211_5, ri_iload_1, n_211_6, n_211_7, rdw_8, n_211_9, ri_S, rc_150, n_211_12, ri_if_eq, tn_23, n_211_15, n_211_16, ri_iload_2, n_211_17, ri_V, rc_168, n_211_20, ri_if_ne, tn_25, n_211_23, ric_m1, n_211_24, rt_211, n_211_25, rlc_0, n_211_26, ri_lstore, s1_i1, s2_in, s2_io, s2_it, s1_r1, s2_rn, s2_ro, s2_rt, s1_n1, s2_nn, s2_no, s2_nt, s1_j1, s2_jn, s2_jo, s2_jt, sto1_1l, sto1_z, sto2_z0, sto2_z1, sto2_z2, s1_2, s2_2, s1_3, s2_3, s1_4, s2_4, s1_5, s2_5, s1_6, s2_6, s1_7, s2_7, s1_8, s2_8, s1_9, s2_9, s1_10, s2_10, s1_11, s2_11, s1_12, s2_12, s1_13, s2_13, s1_14, s2_14, s1_15, s2_15, tl_c, tl_n, n_211_27, ent_n, ent_i, ent_l, ent_r, ent_u, tL_n, tL_s, ap_n, ap_c, b01, b01L, ite_not, z10, cA0, cB0, cC0, cD0, cE0, cF0, cA1, cB1, cC1, cD1, cE1, cF1, cA2, cB2, cC2, cD2, cE2, cF2, cA3, cB3, cC3, cD3, cE3, cF3, vinT, vinN, li_clamp, iN_clamp, ↓reduceIte, if_true, if_false, iN_add1, iL_add, lI_add, iN_add, lI_mul, iL_mul, iN_mul, iN_sub, iL_sub, lI_sub, and_self, and_true, true_and, and_false, false_and, z10L, lc_eq, lc_lt, lc_le, lc_ge, lc_gt, u2_s, u2_k, u2_a, u2_T1, u2_T2, u2_T3, u2_T4, u2_T5, u2_T6, u2_T7, u2_T8, y2, rng8 y0]
      grind
end S53
