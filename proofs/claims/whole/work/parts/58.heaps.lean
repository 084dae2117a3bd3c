/-! HEAPS of camps: what hangs together -/
/-- reached from c within k steps, inside A -/
def CR (A : Nat → Bool) (c : Nat) : Nat → Nat → Bool
  | 0, x => decide (x = c) && A c
  | k + 1, x => CR A c k x || (A x && anyN (fun d => nbr x d && CR A c k d) 48)
theorem CR_s {A : Nat → Bool} {c k x : Nat} : CR A c (k + 1) x = true ↔ CR A c k x = true ∨ (A x = true ∧ ∃ d, nbr x d = true ∧ CR A c k d = true) := by
  show (CR A c k x || (A x && anyN (fun d => nbr x d && CR A c k d) 48)) = true ↔ _
  rw [Bool.or_eq_true, Bool.and_eq_true, anyN_iff]
  constructor
  · rintro (h | ⟨h1, d, h2, h3⟩)
    · exact Or.inl h
    · rw [Bool.and_eq_true] at h3
      exact Or.inr ⟨h1, d, h3⟩
  · rintro (h | ⟨h1, d, h2, h3⟩)
    · exact Or.inl h
    · exact Or.inr ⟨h1, d, nbr_lt h2, by rw [Bool.and_eq_true]; exact ⟨h2, h3⟩⟩
theorem CR_mono {A : Nat → Bool} {c x : Nat} : ∀ {q r : Nat}, q ≤ r → CR A c q x = true → CR A c r x = true := by
  intro q r h
  obtain ⟨d, rfl⟩ := Nat.le.dest h
  clear h
  induction d with
  | zero => exact id
  | succ d ih => exact fun h => CR_s.mpr (Or.inl (ih h))
theorem CR_in {A : Nat → Bool} {c : Nat} : ∀ {k x : Nat}, CR A c k x = true → A x = true
  | 0, x, h => by
    have h2 : (decide (x = c) && A c) = true := h
    rw [Bool.and_eq_true, decide_eq_true_eq] at h2
    rw [h2.1]
    exact h2.2
  | k + 1, x, h => by
    rcases CR_s.mp h with h | h
    · exact CR_in h
    · exact h.1
theorem CR_self {A : Nat → Bool} {c : Nat} (h : A c = true) (k : Nat) : CR A c k c = true := CR_mono (Nat.zero_le k) (by
  show (decide (c = c) && A c) = true
  rw [h]
  simp)
theorem CR_const {A : Nat → Bool} {c k : Nat} (h : ∀ x, x < 48 → CR A c (k + 1) x = true → CR A c k x = true) : ∀ r x, x < 48 → CR A c (k + r) x = true → CR A c k x = true
  | 0, x, _, q => q
  | r + 1, x, hx, q => by
    rcases CR_s.mp q with q | ⟨q1, d, q2, q3⟩
    · exact CR_const h r x hx q
    · exact h x hx (CR_s.mpr (Or.inr ⟨q1, d, q2, CR_const h r d (nbr_lt q2) q3⟩))
theorem CR_pig {A : Nat → Bool} {c : Nat} (hc : c < 48) (hA : A c = true) : ∀ k, k + 1 ≤ pcN (CR A c k) 48 ∨ ∀ r x, x < 48 → CR A c (k + r) x = true → CR A c k x = true
  | 0 => Or.inl (pcN_pos (CR_self hA 0) 48 hc)
  | k + 1 => by
    rcases CR_pig hc hA k with h | h
    · by_cases z : ∀ x, x < 48 → CR A c (k + 1) x = true → CR A c k x = true
      · refine Or.inr fun r x hx q => ?_
        exact CR_mono (Nat.le_succ k) (CR_const z (r + 1) x hx (by rw [show k + (r + 1) = k + 1 + r by omega]; exact q))
      · have : ∃ x, x < 48 ∧ CR A c (k + 1) x = true ∧ CR A c k x = false := by
          apply Classical.byContradiction
          intro q
          apply z
          intro x hx h1
          cases e : CR A c k x with
          | true => rfl
          | false => exact absurd ⟨x, hx, h1, e⟩ q
        obtain ⟨x, hx, h1, h2⟩ := this
        refine Or.inl ?_
        have := pcN_strict h2 h1 48 hx (fun i _ hi => CR_mono (Nat.le_succ k) hi)
        omega
    · refine Or.inr fun r x hx q => ?_
      exact CR_mono (Nat.le_succ k) (h (r + 1) x hx (by rw [show k + (r + 1) = k + 1 + r by omega]; exact q))
/-- the heap of c is closed -/
theorem CR_cl {A : Nat → Bool} {c x d : Nat} (hc : c < 48) (hA : A c = true) (hx : x < 48) (h1 : A x = true) (h2 : nbr x d = true) (h3 : CR A c 48 d = true) : CR A c 48 x = true := by
  have h4 : CR A c (48 + 1) x = true := CR_s.mpr (Or.inr ⟨h1, d, h2, h3⟩)
  rcases CR_pig hc hA 48 with z | z
  · have := pcN_le (CR A c 48) 48
    omega
  · exact z 1 x hx h4
/-- a set that has c, is closed, and has only what is reached: the heap -/
theorem CR_uni {A D : Nat → Bool} {c : Nat} (hc : c < 48) (hA : A c = true) (h0 : D c = true) (h1 : ∀ x, x < 48 → D x = true → CR A c 48 x = true) (h2 : ∀ x d, x < 48 → d < 48 → A x = true → nbr x d = true → D d = true → D x = true) : ∀ x, x < 48 → D x = CR A c 48 x := by
  have key : ∀ k x, x < 48 → CR A c k x = true → D x = true := by
    intro k
    induction k with
    | zero =>
      intro x hx h
      have h3 : (decide (x = c) && A c) = true := h
      rw [Bool.and_eq_true, decide_eq_true_eq] at h3
      rw [h3.1]
      exact h0
    | succ k ih =>
      intro x hx h
      rcases CR_s.mp h with q | ⟨q1, d, q2, q3⟩
      · exact ih x hx q
      · exact h2 x d hx (nbr_lt q2) q1 q2 (ih d (nbr_lt q2) q3)
  intro x hx
  exact bool_iff ⟨h1 x hx, key 48 x hx⟩
/-- the lowest bit alone -/
theorem low_one {x : Int64} (h : ¬ x = 0) : ∃ l, l < 64 ∧ tb x l = true ∧ (∀ i, i < l → tb x i = false) ∧ ∀ i, i < 64 → tb (x &&& (-x)) i = decide (i = l) := by
  obtain ⟨l, hl, h1, h2, h3⟩ := low_bit h
  refine ⟨l, hl, h1, h2, fun i hi => ?_⟩
  have e : (-x) = (x - 1) ^^^ (-1) := by
    have : ∀ y : Int64, y ^^^ (-1) = -y - 1 := by
      intro y
      apply Int64.toBitVec_inj.mp
      rw [Int64.toBitVec_xor, Int64.toBitVec_sub, Int64.toBitVec_neg]
      show y.toBitVec ^^^ (-1#64) = -y.toBitVec - 1#64
      have a : (-1#64) = BitVec.allOnes 64 := by decide
      rw [a, BitVec.xor_allOnes, BitVec.not_eq_neg_add]
    rw [this]
    grind
  have h4 := h3 i hi
  rw [tb_and] at h4 ⊢
  rw [e, tb_inv hi]
  by_cases z : i = l
  · subst z
    rw [if_pos rfl, h1, Bool.true_and] at h4
    rw [h1, h4, decide_eq_true rfl]
    try rfl
  · rw [if_neg z] at h4
    rw [decide_eq_false z]
    cases a : tb x i with
    | false => rfl
    | true =>
      rw [a, Bool.true_and] at h4
      rw [h4]
      rfl
section S58
variable {N : Nat} {xs : Nat → Int32} {I : Nat → Nat → Int32} {L : Nat → Nat → Int64} {Q : Option Value → AH → Prop}
theorem lp_93 {am h0 : Int64} {A : Nat → Bool} {c : Nat} (hA : ∀ i, i < 48 → tb am i = A i) (hA2 : ∀ i, 48 ≤ i → tb am i = false) (K : ∀ hp : Int64, (∀ i, i < 48 → tb hp i = CR A c 48 i) → (∀ i, 48 ≤ i → tb hp i = false) → Q (some (.long hp)) (K0, I, L)) : ∀ d k (hp : Int64), k + d = 48 → (∀ i, i < 48 → tb hp i = CR A c k i) → (∀ i, 48 ≤ i → tb hp i = false) → Rn (EE N xs) 93 10008 [.ref 42, .long am, jk, .long hp, jk, .int (Int32.ofNat k)] [] (K0, I, L) Q
  | 0, k, hp, e, h1, h2 => by
    have e : k = 48 := e
    subst e
    rw [n_93_10008]
    simp (maxSteps := 2000000) (disch := first | rfl | exact Nat.le_of_ble_eq_true rfl | assumption | omega) only [n_93_0, ri_lload_1, n_93_1, n_93_2, ri_lneg, n_93_3, ri_land, n_93_4, ri_lstore, s1_i1, s2_in, s2_io, s2_it, s1_r1, s2_rn, s2_ro, s2_rt, s1_n1, s2_nn, s2_no, s2_nt, s1_j1, s2_jn, s2_jo, s2_jt, sto1_1l, sto1_z, sto2_z0, sto2_z1, sto2_z2, s1_2, s2_2, s1_3, s2_3, s1_4, s2_4, s1_5, s2_5, s1_6, s2_6, s1_7, s2_7, s1_8, s2_8, s1_9, s2_9, s1_10, s2_10, s1_11, s2_11, s1_12, s2_12, s1_13, s2_13, s1_14, s2_14, s1_15, s2_15, tl_c, tl_n, n_93_5, ric_0, n_93_6, ri_istore, n_93_8, ri_ret, tk_0, tk_1, tk_2, tk_3, tk_4, tk_5, tk_6, tk_7, tk_8, tk_9, tk_10, tk_11, tk_12, tk_13, ri_iload_5, n_93_10, ric_48, n_93_12, ri_icmp_ge, tn_30, n_93_15, ri_lload_3, n_93_16, n_93_17, ri_S, rc_83, n_93_20, n_93_21, n_93_22, ri_lor, n_93_23, n_93_24, rin_5_1, n_93_27, ri_goto, tn_8, n_93_30, n_93_31, rt_93, ent_n, ent_i, ent_l, ent_r, ent_u, tL_n, tL_s, ap_n, ap_c, b01, b01L, ite_not, z10, cA0, cB0, cC0, cD0, cE0, cF0, cA1, cB1, cC1, cD1, cE1, cF1, cA2, cB2, cC2, cD2, cE2, cF2, cA3, cB3, cC3, cD3, cE3, cF3, vinT, vinN, li_clamp, iN_clamp, ↓reduceIte, if_true, if_false, iN_add1, iL_add, lI_add, iN_add, lI_mul, iL_mul, iN_mul, iN_sub, iL_sub, lI_sub, and_self, and_true, true_and, and_false, false_and, z10L, lc_eq, lc_lt, lc_le, lc_ge, lc_gt]
    exact K hp h1 h2
  | d + 1, k, hp, e, h1, h2 => by
    rw [n_93_10008]
    simp (maxSteps := 2000000) (disch := first | rfl | exact Nat.le_of_ble_eq_true rfl | assumption | omega) only [n_93_0, ri_lload_1, n_93_1, n_93_2, ri_lneg, n_93_3, ri_land, n_93_4, ri_lstore, s1_i1, s2_in, s2_io, s2_it, s1_r1, s2_rn, s2_ro, s2_rt, s1_n1, s2_nn, s2_no, s2_nt, s1_j1, s2_jn, s2_jo, s2_jt, sto1_1l, sto1_z, sto2_z0, sto2_z1, sto2_z2, s1_2, s2_2, s1_3, s2_3, s1_4, s2_4, s1_5, s2_5, s1_6, s2_6, s1_7, s2_7, s1_8, s2_8, s1_9, s2_9, s1_10, s2_10, s1_11, s2_11, s1_12, s2_12, s1_13, s2_13, s1_14, s2_14, s1_15, s2_15, tl_c, tl_n, n_93_5, ric_0, n_93_6, ri_istore, n_93_8, ri_ret, tk_0, tk_1, tk_2, tk_3, tk_4, tk_5, tk_6, tk_7, tk_8, tk_9, tk_10, tk_11, tk_12, tk_13, ri_iload_5, n_93_10, ric_48, n_93_12, ri_icmp_ge, tn_30, n_93_15, ri_lload_3, n_93_16, n_93_17, ri_S, rc_83, n_93_20, n_93_21, n_93_22, ri_lor, n_93_23, n_93_24, rin_5_1, n_93_27, ri_goto, tn_8, n_93_30, n_93_31, rt_93, ent_n, ent_i, ent_l, ent_r, ent_u, tL_n, tL_s, ap_n, ap_c, b01, b01L, ite_not, z10, cA0, cB0, cC0, cD0, cE0, cF0, cA1, cB1, cC1, cD1, cE1, cF1, cA2, cB2, cC2, cD2, cE2, cF2, cA3, cB3, cC3, cD3, cE3, cF3, vinT, vinN, li_clamp, iN_clamp, ↓reduceIte, if_true, if_false, iN_add1, iL_add, lI_add, iN_add, lI_mul, iL_mul, iN_mul, iN_sub, iL_sub, lI_sub, and_self, and_true, true_and, and_false, false_and, z10L, lc_eq, lc_lt, lc_le, lc_ge, lc_gt]
    refine lp_93 (h0 := h0) hA hA2 K d (k + 1) _ (by omega) (fun i hi => ?_) (fun i hi => ?_)
    · apply bool_iff
      rw [tb_or, Bool.or_eq_true, tb_and, Bool.and_eq_true, asF_tb h2 (by omega), CR_s, h1 i hi, hA i hi]
      constructor
      · rintro (q | ⟨⟨-, d, q1, q2⟩, q3⟩)
        · exact Or.inl q
        · rw [h1 d (nbr_lt q1)] at q2
          exact Or.inr ⟨q3, d, q1, q2⟩
      · rintro (q | ⟨q3, d, q1, q2⟩)
        · exact Or.inl q
        · rw [← h1 d (nbr_lt q1)] at q2
          exact Or.inr ⟨⟨hi, d, q1, q2⟩, q3⟩
    · rw [tb_or, tb_and, h2 i hi, hA2 i hi, Bool.and_false]
      try rfl
/-- the least cell of a set -/
def lo48 (A : Nat → Bool) : Nat → Option Nat
  | 0 => none
  | n + 1 => match lo48 A n with
    | some c => some c
    | none => if A n = true then some n else none
theorem lo48_some {A : Nat → Bool} {c : Nat} : ∀ n, c < n → A c = true → (∀ i, i < c → A i = false) → lo48 A n = some c
  | 0, h, _, _ => by omega
  | n + 1, h, h1, h2 => by
    by_cases z : c = n
    · subst z
      have e : ∀ m, m ≤ c → lo48 A m = none := by
        intro m
        induction m with
        | zero => exact fun _ => rfl
        | succ m ih =>
          intro hm
          simp only [lo48, ih (by omega), h2 m (by omega), Bool.false_eq_true, if_false]
      simp only [lo48, e c (Nat.le_refl _), h1, if_true]
    · simp only [lo48, lo48_some n (by omega) h1 h2]
theorem lo48_none {A : Nat → Bool} : ∀ n, (∀ i, i < n → A i = false) → lo48 A n = none
  | 0, _ => rfl
  | n + 1, h => by simp only [lo48, lo48_none n (fun i hi => h i (by omega)), h n (by omega), Bool.false_eq_true, if_false]
/-- how many heaps -/
def hpN : Nat → (Nat → Bool) → Nat
  | 0, _ => 0
  | k + 1, A => (lo48 A 48).elim 0 (fun c => 1 + hpN k (fun x => A x && !CR A c 48 x))
theorem hpN_n {k : Nat} {A : Nat → Bool} (h : lo48 A 48 = none) : hpN (k + 1) A = 0 := by
  unfold hpN
  rw [h]
  rfl
theorem hpN_s {k c : Nat} {A : Nat → Bool} (h : lo48 A 48 = some c) : hpN (k + 1) A = 1 + hpN k (fun x => A x && !CR A c 48 x) := by
  conv => lhs; unfold hpN
  rw [h]
  rfl
theorem sp_93 {am : Int64} {A : Nat → Bool} (hA : ∀ i, i < 48 → tb am i = A i) (hA2 : ∀ i, 48 ≤ i → tb am i = false) {c : Nat} (hc : c < 48) (h1 : A c = true) (hl : ∀ i, i < 64 → tb (am &&& (-am)) i = decide (i = c)) (K : ∀ hp : Int64, (∀ i, i < 48 → tb hp i = CR A c 48 i) → (∀ i, 48 ≤ i → tb hp i = false) → Q (some (.long hp)) (K0, I, L)) : Rn (EE N xs) 93 0 [.ref 42, .long am, jk] [] (K0, I, L) Q := by
  simp (maxSteps := 2000000) (disch := first | rfl | exact Nat.le_of_ble_eq_true rfl | assumption | omega) only [n_93_0, ri_lload_1, n_93_1, n_93_2, ri_lneg, n_93_3, ri_land, n_93_4, ri_lstore, s1_i1, s2_in, s2_io, s2_it, s1_r1, s2_rn, s2_ro, s2_rt, s1_n1, s2_nn, s2_no, s2_nt, s1_j1, s2_jn, s2_jo, s2_jt, sto1_1l, sto1_z, sto2_z0, sto2_z1, sto2_z2, s1_2, s2_2, s1_3, s2_3, s1_4, s2_4, s1_5, s2_5, s1_6, s2_6, s1_7, s2_7, s1_8, s2_8, s1_9, s2_9, s1_10, s2_10, s1_11, s2_11, s1_12, s2_12, s1_13, s2_13, s1_14, s2_14, s1_15, s2_15, tl_c, tl_n, n_93_5, ric_0, n_93_6, ri_istore, n_93_8, ri_ret, tk_0, tk_1, tk_2, tk_3, tk_4, tk_5, tk_6, tk_7, tk_8, tk_9, tk_10, tk_11, tk_12, tk_13, ri_iload_5, n_93_10, ric_48, n_93_12, ri_icmp_ge, tn_30, n_93_15, ri_lload_3, n_93_16, n_93_17, ri_S, rc_83, n_93_20, n_93_21, n_93_22, ri_lor, n_93_23, n_93_24, rin_5_1, n_93_27, ri_goto, tn_8, n_93_30, n_93_31, rt_93, ent_n, ent_i, ent_l, ent_r, ent_u, tL_n, tL_s, ap_n, ap_c, b01, b01L, ite_not, z10, cA0, cB0, cC0, cD0, cE0, cF0, cA1, cB1, cC1, cD1, cE1, cF1, cA2, cB2, cC2, cD2, cE2, cF2, cA3, cB3, cC3, cD3, cE3, cF3, vinT, vinN, li_clamp, iN_clamp, ↓reduceIte, if_true, if_false, iN_add1, iL_add, lI_add, iN_add, lI_mul, iL_mul, iN_mul, iN_sub, iL_sub, lI_sub, and_self, and_true, true_and, and_false, false_and, z10L, lc_eq, lc_lt, lc_le, lc_ge, lc_gt]
  refine lp_93 (h0 := am) hA hA2 K 48 0 _ rfl (fun i hi => ?_) (fun i hi => ?_)
  · rw [hl i (by omega)]
    show decide (i = c) = (decide (i = c) && A c)
    rw [h1, Bool.and_true]
  · by_cases z : i < 64
    · rw [hl i z, decide_eq_false (by omega)]
    · exact tb_ge (by omega)
theorem lp_92 : ∀ (k n : Nat) (rest : Int64) (A : Nat → Bool), n + k = 48 → (∀ i, i < 48 → tb rest i = A i) → (∀ i, 48 ≤ i → tb rest i = false) → Q (some (.int (Int32.ofNat (n + hpN k A)))) (K0, I, L) → Rn (EE N xs) 92 10007 [.ref 42, .int (Int32.ofNat n), .long rest, jk] [] (K0, I, L) Q
  | 0, n, rest, A, e, h1, h2, K => by
    have e : n = 48 := e
    subst e
    rw [n_92_10007]
    by_cases z : rest = 0
    · simp (maxSteps := 2000000) (disch := first | rfl | exact Nat.le_of_ble_eq_true rfl | assumption | omega) only [n_92_0, ric_0, n_92_1, ri_istore, s1_i1, s2_in, s2_io, s2_it, s1_r1, s2_rn, s2_ro, s2_rt, s1_n1, s2_nn, s2_no, s2_nt, s1_j1, s2_jn, s2_jo, s2_jt, sto1_1l, sto1_z, sto2_z0, sto2_z1, sto2_z2, s1_2, s2_2, s1_3, s2_3, s1_4, s2_4, s1_5, s2_5, s1_6, s2_6, s1_7, s2_7, s1_8, s2_8, s1_9, s2_9, s1_10, s2_10, s1_11, s2_11, s1_12, s2_12, s1_13, s2_13, s1_14, s2_14, s1_15, s2_15, tl_c, tl_n, n_92_2, ri_aload_0, ri_aloadN_0, n_92_3, gf_720102_42, n_92_6, ri_lstore, n_92_7, ri_ret, tk_0, tk_1, tk_2, tk_3, tk_4, tk_5, tk_6, tk_7, tk_8, tk_9, tk_10, tk_11, tk_12, tk_13, ri_lload_2, n_92_8, rlc_0, n_92_9, ri_lcmp, n_92_10, ri_if_eq, tn_37, n_92_13, ri_iload_1, n_92_14, ric_48, n_92_16, ri_icmp_ge, n_92_19, n_92_20, n_92_21, n_92_22, ri_V, n_92_25, rd2_10, n_92_28, ri_lxor, n_92_29, ri_land, n_92_30, n_92_31, rin_1_1, n_92_34, ri_goto, tn_7, n_92_37, n_92_38, rt_92, ent_n, ent_i, ent_l, ent_r, ent_u, tL_n, tL_s, ap_n, ap_c, b01, b01L, ite_not, z10, cA0, cB0, cC0, cD0, cE0, cF0, cA1, cB1, cC1, cD1, cE1, cF1, cA2, cB2, cC2, cD2, cE2, cF2, cA3, cB3, cC3, cD3, cE3, cF3, vinT, vinN, li_clamp, iN_clamp, ↓reduceIte, if_true, if_false, iN_add1, iL_add, lI_add, iN_add, lI_mul, iL_mul, iN_mul, iN_sub, iL_sub, lI_sub, and_self, and_true, true_and, and_false, false_and, z10L, lc_eq, lc_lt, lc_le, lc_ge, lc_gt, z]
      exact K
    · simp (maxSteps := 2000000) (disch := first | rfl | exact Nat.le_of_ble_eq_true rfl | assumption | omega) only [n_92_0, ric_0, n_92_1, ri_istore, s1_i1, s2_in, s2_io, s2_it, s1_r1, s2_rn, s2_ro, s2_rt, s1_n1, s2_nn, s2_no, s2_nt, s1_j1, s2_jn, s2_jo, s2_jt, sto1_1l, sto1_z, sto2_z0, sto2_z1, sto2_z2, s1_2, s2_2, s1_3, s2_3, s1_4, s2_4, s1_5, s2_5, s1_6, s2_6, s1_7, s2_7, s1_8, s2_8, s1_9, s2_9, s1_10, s2_10, s1_11, s2_11, s1_12, s2_12, s1_13, s2_13, s1_14, s2_14, s1_15, s2_15, tl_c, tl_n, n_92_2, ri_aload_0, ri_aloadN_0, n_92_3, gf_720102_42, n_92_6, ri_lstore, n_92_7, ri_ret, tk_0, tk_1, tk_2, tk_3, tk_4, tk_5, tk_6, tk_7, tk_8, tk_9, tk_10, tk_11, tk_12, tk_13, ri_lload_2, n_92_8, rlc_0, n_92_9, ri_lcmp, n_92_10, ri_if_eq, tn_37, n_92_13, ri_iload_1, n_92_14, ric_48, n_92_16, ri_icmp_ge, n_92_19, n_92_20, n_92_21, n_92_22, ri_V, n_92_25, rd2_10, n_92_28, ri_lxor, n_92_29, ri_land, n_92_30, n_92_31, rin_1_1, n_92_34, ri_goto, tn_7, n_92_37, n_92_38, rt_92, ent_n, ent_i, ent_l, ent_r, ent_u, tL_n, tL_s, ap_n, ap_c, b01, b01L, ite_not, z10, cA0, cB0, cC0, cD0, cE0, cF0, cA1, cB1, cC1, cD1, cE1, cF1, cA2, cB2, cC2, cD2, cE2, cF2, cA3, cB3, cC3, cD3, cE3, cF3, vinT, vinN, li_clamp, iN_clamp, ↓reduceIte, if_true, if_false, iN_add1, iL_add, lI_add, iN_add, lI_mul, iL_mul, iN_mul, iN_sub, iL_sub, lI_sub, and_self, and_true, true_and, and_false, false_and, z10L, lc_eq, lc_lt, lc_le, lc_ge, lc_gt, z]
      exact K
  | k + 1, n, rest, A, e, h1, h2, K => by
    rw [n_92_10007]
    by_cases z : rest = 0
    · have ln : lo48 A 48 = none := lo48_none 48 (fun i hi => by rw [← h1 i hi, z]; exact tb_zero)
      have u : hpN (k + 1) A = 0 := hpN_n ln
      rw [u, Nat.add_zero] at K
      simp (maxSteps := 2000000) (disch := first | rfl | exact Nat.le_of_ble_eq_true rfl | assumption | omega) only [n_92_0, ric_0, n_92_1, ri_istore, s1_i1, s2_in, s2_io, s2_it, s1_r1, s2_rn, s2_ro, s2_rt, s1_n1, s2_nn, s2_no, s2_nt, s1_j1, s2_jn, s2_jo, s2_jt, sto1_1l, sto1_z, sto2_z0, sto2_z1, sto2_z2, s1_2, s2_2, s1_3, s2_3, s1_4, s2_4, s1_5, s2_5, s1_6, s2_6, s1_7, s2_7, s1_8, s2_8, s1_9, s2_9, s1_10, s2_10, s1_11, s2_11, s1_12, s2_12, s1_13, s2_13, s1_14, s2_14, s1_15, s2_15, tl_c, tl_n, n_92_2, ri_aload_0, ri_aloadN_0, n_92_3, gf_720102_42, n_92_6, ri_lstore, n_92_7, ri_ret, tk_0, tk_1, tk_2, tk_3, tk_4, tk_5, tk_6, tk_7, tk_8, tk_9, tk_10, tk_11, tk_12, tk_13, ri_lload_2, n_92_8, rlc_0, n_92_9, ri_lcmp, n_92_10, ri_if_eq, tn_37, n_92_13, ri_iload_1, n_92_14, ric_48, n_92_16, ri_icmp_ge, n_92_19, n_92_20, n_92_21, n_92_22, ri_V, n_92_25, rd2_10, n_92_28, ri_lxor, n_92_29, ri_land, n_92_30, n_92_31, rin_1_1, n_92_34, ri_goto, tn_7, n_92_37, n_92_38, rt_92, ent_n, ent_i, ent_l, ent_r, ent_u, tL_n, tL_s, ap_n, ap_c, b01, b01L, ite_not, z10, cA0, cB0, cC0, cD0, cE0, cF0, cA1, cB1, cC1, cD1, cE1, cF1, cA2, cB2, cC2, cD2, cE2, cF2, cA3, cB3, cC3, cD3, cE3, cF3, vinT, vinN, li_clamp, iN_clamp, ↓reduceIte, if_true, if_false, iN_add1, iL_add, lI_add, iN_add, lI_mul, iL_mul, iN_mul, iN_sub, iL_sub, lI_sub, and_self, and_true, true_and, and_false, false_and, z10L, lc_eq, lc_lt, lc_le, lc_ge, lc_gt, z]
      exact K
    · obtain ⟨l, l1, l2, l3, l4⟩ := low_one z
      have l48 : l < 48 := by
        apply Classical.byContradiction
        intro q
        rw [h2 l (by omega)] at l2
        cases l2
      have al : A l = true := by rw [← h1 l l48]; exact l2
      have ls : lo48 A 48 = some l := lo48_some 48 l48 al (fun i hi => by rw [← h1 i (by omega)]; exact l3 i hi)
      have u : hpN (k + 1) A = 1 + hpN k (fun x => A x && !CR A l 48 x) := hpN_s ls
      rw [u] at K
      have e93 := RnC_V (E := EE N xs) (M := 92) (n := 93093) (nx := 25) (a := 42) (ls := [.ref 42, .int (Int32.ofNat n), .long rest, jk]) (as := [.long rest]) (r := [.long rest]) (h := (K0, I, L)) (Q := Q) (y := 93) rfl rfl (show K0[42]? = some (.inl (ciM 93, _)) from rfl) (show (3 : Nat) ≤ mlM 93 by decide) (show (2 : Nat) ≤ 8 by decide)
      simp (maxSteps := 2000000) (disch := first | rfl | exact Nat.le_of_ble_eq_true rfl | assumption | omega) only [n_92_0, ric_0, n_92_1, ri_istore, s1_i1, s2_in, s2_io, s2_it, s1_r1, s2_rn, s2_ro, s2_rt, s1_n1, s2_nn, s2_no, s2_nt, s1_j1, s2_jn, s2_jo, s2_jt, sto1_1l, sto1_z, sto2_z0, sto2_z1, sto2_z2, s1_2, s2_2, s1_3, s2_3, s1_4, s2_4, s1_5, s2_5, s1_6, s2_6, s1_7, s2_7, s1_8, s2_8, s1_9, s2_9, s1_10, s2_10, s1_11, s2_11, s1_12, s2_12, s1_13, s2_13, s1_14, s2_14, s1_15, s2_15, tl_c, tl_n, n_92_2, ri_aload_0, ri_aloadN_0, n_92_3, gf_720102_42, n_92_6, ri_lstore, n_92_7, ri_ret, tk_0, tk_1, tk_2, tk_3, tk_4, tk_5, tk_6, tk_7, tk_8, tk_9, tk_10, tk_11, tk_12, tk_13, ri_lload_2, n_92_8, rlc_0, n_92_9, ri_lcmp, n_92_10, ri_if_eq, tn_37, n_92_13, ri_iload_1, n_92_14, ric_48, n_92_16, ri_icmp_ge, n_92_19, n_92_20, n_92_21, n_92_22, ri_V, n_92_25, rd2_10, n_92_28, ri_lxor, n_92_29, ri_land, n_92_30, n_92_31, rin_1_1, n_92_34, ri_goto, tn_7, n_92_37, n_92_38, rt_92, ent_n, ent_i, ent_l, ent_r, ent_u, tL_n, tL_s, ap_n, ap_c, b01, b01L, ite_not, z10, cA0, cB0, cC0, cD0, cE0, cF0, cA1, cB1, cC1, cD1, cE1, cF1, cA2, cB2, cC2, cD2, cE2, cF2, cA3, cB3, cC3, cD3, cE3, cF3, vinT, vinN, li_clamp, iN_clamp, ↓reduceIte, if_true, if_false, iN_add1, iL_add, lI_add, iN_add, lI_mul, iL_mul, iN_mul, iN_sub, iL_sub, lI_sub, and_self, and_true, true_and, and_false, false_and, z10L, lc_eq, lc_lt, lc_le, lc_ge, lc_gt, z]
      refine e93.mpr (sp_93 h1 h2 l48 al l4 (fun hp p1 p2 => ?_))
      simp only [tL_s, ap_n, ap_c]
      simp (maxSteps := 2000000) (disch := first | rfl | exact Nat.le_of_ble_eq_true rfl | assumption | omega) only [n_92_0, ric_0, n_92_1, ri_istore, s1_i1, s2_in, s2_io, s2_it, s1_r1, s2_rn, s2_ro, s2_rt, s1_n1, s2_nn, s2_no, s2_nt, s1_j1, s2_jn, s2_jo, s2_jt, sto1_1l, sto1_z, sto2_z0, sto2_z1, sto2_z2, s1_2, s2_2, s1_3, s2_3, s1_4, s2_4, s1_5, s2_5, s1_6, s2_6, s1_7, s2_7, s1_8, s2_8, s1_9, s2_9, s1_10, s2_10, s1_11, s2_11, s1_12, s2_12, s1_13, s2_13, s1_14, s2_14, s1_15, s2_15, tl_c, tl_n, n_92_2, ri_aload_0, ri_aloadN_0, n_92_3, gf_720102_42, n_92_6, ri_lstore, n_92_7, ri_ret, tk_0, tk_1, tk_2, tk_3, tk_4, tk_5, tk_6, tk_7, tk_8, tk_9, tk_10, tk_11, tk_12, tk_13, ri_lload_2, n_92_8, rlc_0, n_92_9, ri_lcmp, n_92_10, ri_if_eq, tn_37, n_92_13, ri_iload_1, n_92_14, ric_48, n_92_16, ri_icmp_ge, n_92_19, n_92_20, n_92_21, n_92_22, ri_V, n_92_25, rd2_10, n_92_28, ri_lxor, n_92_29, ri_land, n_92_30, n_92_31, rin_1_1, n_92_34, ri_goto, tn_7, n_92_37, n_92_38, rt_92, ent_n, ent_i, ent_l, ent_r, ent_u, tL_n, tL_s, ap_n, ap_c, b01, b01L, ite_not, z10, cA0, cB0, cC0, cD0, cE0, cF0, cA1, cB1, cC1, cD1, cE1, cF1, cA2, cB2, cC2, cD2, cE2, cF2, cA3, cB3, cC3, cD3, cE3, cF3, vinT, vinN, li_clamp, iN_clamp, ↓reduceIte, if_true, if_false, iN_add1, iL_add, lI_add, iN_add, lI_mul, iL_mul, iN_mul, iN_sub, iL_sub, lI_sub, and_self, and_true, true_and, and_false, false_and, z10L, lc_eq, lc_lt, lc_le, lc_ge, lc_gt]
      refine lp_92 k (n + 1) _ (fun x => A x && !CR A l 48 x) (by omega) (fun i hi => ?_) (fun i hi => ?_) ?_
      · rw [tb_and, tb_inv (by omega), h1 i hi, p1 i hi]
      · rw [tb_and, h2 i hi, Bool.false_and]
      · rw [show n + 1 + hpN k (fun x => A x && !CR A l 48 x) = n + (1 + hpN k (fun x => A x && !CR A l 48 x)) by omega]
        exact K
end S58
