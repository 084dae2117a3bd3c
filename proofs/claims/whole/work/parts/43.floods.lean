/-! WALKS of the class: it floods -/
theorem m_last : ∀ i : Nat, i < 64 → tb (-141289400074369) i = !(decide (i < 48) && decide (i % 8 = 7)) := by decide +kernel
theorem m_first : ∀ i : Nat, i < 64 → tb (-1103823438082) i = !(decide (i < 48) && decide (i % 8 = 0)) := by decide +kernel
theorem m_all : ∀ i : Nat, i < 64 → tb 281474976710655 i = decide (i < 48) := by decide +kernel
theorem m_neg : ∀ i : Nat, i < 64 → tb (-1) i = true := by decide +kernel
theorem tb_xor {x y : Int64} {i : Nat} : tb (x ^^^ y) i = (tb x i ^^ tb y i) := by
  unfold tb
  rw [Int64.toBitVec_xor, BitVec.getLsbD_xor]
theorem tb_inv {x : Int64} {i : Nat} (h : i < 64) : tb (x ^^^ (-1)) i = !tb x i := by
  rw [tb_xor, m_neg i h, Bool.xor_true]
theorem asF_tb {x : Int64} (hx : ∀ c, 48 ≤ c → tb x c = false) {c : Nat} (hc : c < 64) : tb (asF x) c = true ↔ c < 48 ∧ ∃ d, nbr c d = true ∧ tb x d = true := by
  have x48 : ∀ d, tb x d = true → d < 48 := by
    intro d h
    apply Classical.byContradiction
    intro z
    rw [hx d (by omega)] at h
    cases h
  have e1 : tb ((x &&& (-141289400074369)) <<< (Int32.toInt64 1 &&& 63)) c = (!decide (c < 1) && tb (x &&& (-141289400074369)) (c - 1)) := tb_shl (n := 1) (by decide) hc
  have e2 : tb ((x &&& (-1103823438082)).toUInt64 >>> ((Int32.toInt64 1).toUInt64 &&& Int64.toUInt64 63)).toInt64 c = tb (x &&& (-1103823438082)) (1 + c) := tb_ushr (n := 1) (by decide)
  have e3 : tb (x <<< (Int32.toInt64 8 &&& 63)) c = (!decide (c < 8) && tb x (c - 8)) := tb_shl (n := 8) (by decide) hc
  have e4 : tb (x.toUInt64 >>> ((Int32.toInt64 8).toUInt64 &&& Int64.toUInt64 63)).toInt64 c = tb x (8 + c) := tb_ushr (n := 8) (by decide)
  unfold asF
  rw [tb_and, m_all c hc, tb_or, tb_or, tb_or, e1, e2, e3, e4, tb_and, tb_and]
  simp only [Bool.and_eq_true, Bool.or_eq_true, Bool.not_eq_true', decide_eq_true_eq, decide_eq_false_iff_not]
  constructor
  · rintro ⟨((⟨h1, h2, h3⟩ | ⟨h2, h3⟩) | ⟨h1, h2⟩) | h2, h48⟩
    · refine ⟨h48, c - 1, ?_, h2⟩
      rw [m_last _ (by omega)] at h3
      unfold nbr
      simp only [Bool.and_eq_true, Bool.or_eq_true, Bool.not_eq_true', Bool.and_eq_false_iff, decide_eq_true_eq, decide_eq_false_iff_not] at h3 ⊢
      omega
    · have := x48 _ h2
      refine ⟨h48, 1 + c, ?_, h2⟩
      rw [m_first _ (by omega)] at h3
      unfold nbr
      simp only [Bool.and_eq_true, Bool.or_eq_true, Bool.not_eq_true', Bool.and_eq_false_iff, decide_eq_true_eq, decide_eq_false_iff_not] at h3 ⊢
      omega
    · refine ⟨h48, c - 8, ?_, h2⟩
      unfold nbr
      simp only [Bool.and_eq_true, Bool.or_eq_true, decide_eq_true_eq]
      omega
    · have := x48 _ h2
      refine ⟨h48, 8 + c, ?_, h2⟩
      unfold nbr
      simp only [Bool.and_eq_true, Bool.or_eq_true, decide_eq_true_eq]
      omega
  · rintro ⟨h48, d, h1, h2⟩
    refine ⟨?_, h48⟩
    unfold nbr at h1
    simp only [Bool.and_eq_true, Bool.or_eq_true, decide_eq_true_eq] at h1
    rcases h1 with ⟨hd, ((h | h) | ⟨h, h3⟩) | ⟨h, h3⟩⟩
    · refine Or.inl (Or.inr ⟨by omega, ?_⟩)
      rw [show c - 8 = d by omega]
      exact h2
    · refine Or.inr ?_
      rw [show 8 + c = d by omega]
      exact h2
    · refine Or.inl (Or.inl (Or.inl ⟨by omega, ?_, ?_⟩))
      · rw [show c - 1 = d by omega]
        exact h2
      · rw [m_last _ (by omega)]
        simp only [Bool.not_eq_true', Bool.and_eq_false_iff, decide_eq_false_iff_not]
        omega
    · refine Or.inl (Or.inl (Or.inr ⟨?_, ?_⟩))
      · rw [show 1 + c = d by omega]
        exact h2
      · rw [m_first _ (by omega)]
        simp only [Bool.not_eq_true', Bool.and_eq_false_iff, decide_eq_false_iff_not]
        omega
/-- the cells that are reached in q quarters and no sooner -/
def lev (g : Nat → Nat) (f q c : Nat) : Prop := RR g f q c = true ∧ ∀ j, j < q → RR g f j c = false
/-- two places on: nothing before 0 -/
def LV (g : Nat → Nat) (f : Nat) : Nat → Nat → Prop
  | 0, _ => False
  | 1, _ => False
  | q + 2, c => lev g f q c
theorem lev_s {g : Nat → Nat} {f n c : Nat} : lev g f (n + 1) c ↔ RR g f n c = false ∧ ∃ d, nbr c d = true ∧ ((g c = 1 ∧ LV g f (n + 2) d) ∨ (g c = 0 ∧ LV g f (n + 1) d) ∨ (g c = 2 ∧ LV g f n d)) := by
  have up : ∀ {j c}, (∀ k, k < j + 1 → RR g f k c = false) ↔ RR g f j c = false := by
    intro j c
    constructor
    · intro h
      exact h j (by omega)
    · intro h k hk
      cases e : RR g f k c with
      | false => rfl
      | true =>
        rw [RR_mono (show k ≤ j by omega) e] at h
        cases h
  constructor
  · rintro ⟨h1, h2⟩
    have h3 := h2 n (by omega)
    refine ⟨h3, ?_⟩
    rcases RR_s.mp h1 with h | ⟨d, hd, h⟩
    · rw [h3] at h
      cases h
    · refine ⟨d, hd, ?_⟩
      rcases h with ⟨e, h⟩ | ⟨e, h⟩ | ⟨e, h⟩
      · refine Or.inl ⟨e, h, ?_⟩
        cases n with
        | zero => intro j hj; omega
        | succ n =>
          apply up.mpr
          cases q : RR g f n d with
          | false => rfl
          | true =>
            have := RR_go (show g c < 3 by omega) hd q
            rw [e, show n + cst 1 = n + 1 from rfl, h3] at this
            cases this
      · refine Or.inr (Or.inl ⟨e, ?_⟩)
        rw [Rs_2] at h
        match n, h, h3 with
        | n + 1, h, h3 =>
          refine ⟨h, ?_⟩
          cases n with
          | zero => intro j hj; omega
          | succ n =>
            apply up.mpr
            cases q : RR g f n d with
            | false => rfl
            | true =>
              have := RR_go (show g c < 3 by omega) hd q
              rw [e, show n + cst 0 = n + 2 from rfl, h3] at this
              cases this
      · refine Or.inr (Or.inr ⟨e, ?_⟩)
        rw [Rs_3] at h
        match n, h, h3 with
        | n + 2, h, h3 =>
          refine ⟨h, ?_⟩
          cases n with
          | zero => intro j hj; omega
          | succ n =>
            apply up.mpr
            cases q : RR g f n d with
            | false => rfl
            | true =>
              have := RR_go (show g c < 3 by omega) hd q
              rw [e, show n + cst 2 = n + 3 from rfl, h3] at this
              cases this
  · rintro ⟨h3, d, hd, h⟩
    refine ⟨?_, up.mpr h3⟩
    refine RR_s.mpr (Or.inr ⟨d, hd, ?_⟩)
    rcases h with ⟨e, h⟩ | ⟨e, h⟩ | ⟨e, h⟩
    · exact Or.inl ⟨e, h.1⟩
    · refine Or.inr (Or.inl ⟨e, ?_⟩)
      rw [Rs_2]
      match n, h with
      | n + 1, h => exact h.1
    · refine Or.inr (Or.inr ⟨e, ?_⟩)
      rw [Rs_3]
      match n, h with
      | n + 2, h => exact h.1
theorem LV_end {g : Nat → Nat} {f m : Nat} (h1 : ∀ c, c < 48 → ¬ LV g f (m + 2) c) (h2 : ∀ c, c < 48 → ¬ LV g f (m + 1) c) (h3 : ∀ c, c < 48 → ¬ LV g f m c) : ∀ n c, c < 48 → ¬ LV g f (m + n) c := by
  intro n
  induction n using Nat.strongRecOn with
  | ind n ih =>
    intro c hc
    match n, ih with
    | 0, _ => exact h3 c hc
    | 1, _ => exact h2 c hc
    | 2, _ => exact h1 c hc
    | n + 3, ih =>
      intro h
      have h4 : lev g f (m + n + 1) c := h
      obtain ⟨-, d, hd, q⟩ := lev_s.mp h4
      have hd2 := nbr_lt hd
      rcases q with ⟨-, q⟩ | ⟨-, q⟩ | ⟨-, q⟩
      · exact ih (n + 2) (by omega) d hd2 q
      · exact ih (n + 1) (by omega) d hd2 q
      · exact ih n (by omega) d hd2 q
theorem fsA_snoc1 {p : Nat → Bool} {d : Nat} (h : ∃ k, k < d ∧ p k = true) : fsA p (d + 1) 0 = fsA p d 0 := by
  obtain ⟨k, h1, h2, h3⟩ := least_of d h
  rw [fsA_some (d + 1) 0 k (by omega) (by omega) h2 (fun j _ hj => h3 j hj), fsA_some d 0 k (by omega) (by omega) h2 (fun j _ hj => h3 j hj)]
theorem fsA_snoc0 {p : Nat → Bool} {d : Nat} (h : ∀ k, k < d → p k = false) : fsA p (d + 1) 0 = if p d = true then Int32.ofNat d else -9 := by
  by_cases z : p d = true
  · rw [if_pos z, fsA_some (d + 1) 0 d (by omega) (by omega) z (fun j _ hj => h j hj)]
  · rw [if_neg z]
    refine fsA_none _ _ (fun j _ hj => ?_)
    by_cases y : j = d
    · subst y
      cases e : p j with
      | false => rfl
      | true => exact absurd e z
    · exact h j (by omega)
theorem fsA_ext {p : Nat → Bool} {m : Nat} (h : ∀ j, m ≤ j → p j = true → ∃ k, k < m ∧ p k = true) : ∀ d, fsA p (m + d) 0 = fsA p m 0
  | 0 => rfl
  | d + 1 => by
    have ih := fsA_ext h d
    rw [show m + (d + 1) = m + d + 1 by omega]
    by_cases z : ∃ k, k < m + d ∧ p k = true
    · rw [fsA_snoc1 z, ih]
    · have n : ∀ k, k < m + d → p k = false := by
        intro k hk
        cases e : p k with
        | false => rfl
        | true => exact absurd ⟨k, hk, e⟩ z
      have y : ¬ p (m + d) = true := by
        intro q
        obtain ⟨k, h1, h2⟩ := h (m + d) (by omega) q
        exact z ⟨k, by omega, h2⟩
      rw [fsA_snoc0 n, if_neg y, fsA_none]
      exact fun j _ hj => n j (by omega)
/-- what note() writes, up to the n-th cell -/
def ntI (I : Nat → Nat → Int32) (f : Nat) (cells : Int64) (q : Int32) (n : Nat) : Nat → Nat → Int32 := fun a k => if a = 41 ∧ f * 48 ≤ k ∧ k < f * 48 + n ∧ tb cells (k - f * 48) = true then q else I a k
theorem ntI_0 {I : Nat → Nat → Int32} {f : Nat} {cells : Int64} {q : Int32} : ntI I f cells q 0 = I := by
  funext a k
  exact if_neg (by omega)
theorem ntI_s {I : Nat → Nat → Int32} {f n : Nat} {cells : Int64} {q : Int32} (h : tb cells n = true) : u2 (ntI I f cells q n) 41 (f * 48 + n) q = ntI I f cells q (n + 1) := by
  funext a k
  show (if a = 41 ∧ k = f * 48 + n then q else if a = 41 ∧ f * 48 ≤ k ∧ k < f * 48 + n ∧ tb cells (k - f * 48) = true then q else I a k) = if a = 41 ∧ f * 48 ≤ k ∧ k < f * 48 + (n + 1) ∧ tb cells (k - f * 48) = true then q else I a k
  by_cases z : a = 41 ∧ k = f * 48 + n
  · rw [if_pos z, if_pos]
    obtain ⟨z1, z2⟩ := z
    subst z2
    rw [show f * 48 + n - f * 48 = n by omega]
    exact ⟨z1, by omega, by omega, h⟩
  · rw [if_neg z]
    by_cases y : a = 41 ∧ f * 48 ≤ k ∧ k < f * 48 + n ∧ tb cells (k - f * 48) = true
    · rw [if_pos y, if_pos ⟨y.1, y.2.1, by omega, y.2.2.2⟩]
    · rw [if_neg y, if_neg]
      rintro ⟨h1, h2, h3, h4⟩
      by_cases w : k = f * 48 + n
      · exact z ⟨h1, w⟩
      · exact y ⟨h1, h2, by omega, h4⟩
theorem ntI_k {I : Nat → Nat → Int32} {f n m : Nat} {cells : Int64} {q : Int32} (hm : n ≤ m) (h : ∀ i, n ≤ i → i < m → tb cells i = false) : ntI I f cells q n = ntI I f cells q m := by
  funext a k
  show (if a = 41 ∧ f * 48 ≤ k ∧ k < f * 48 + n ∧ tb cells (k - f * 48) = true then q else I a k) = if a = 41 ∧ f * 48 ≤ k ∧ k < f * 48 + m ∧ tb cells (k - f * 48) = true then q else I a k
  by_cases y : a = 41 ∧ f * 48 ≤ k ∧ k < f * 48 + n ∧ tb cells (k - f * 48) = true
  · rw [if_pos y, if_pos ⟨y.1, y.2.1, by omega, y.2.2.2⟩]
  · rw [if_neg y, if_neg]
    rintro ⟨h1, h2, h3, h4⟩
    by_cases w : k < f * 48 + n
    · exact y ⟨h1, h2, w, h4⟩
    · rw [h (k - f * 48) (by omega) (by omega)] at h4
      cases h4
section S43
variable {N : Nat} {xs : Nat → Int32} {I : Nat → Nat → Int32} {L : Nat → Nat → Int64} {Q : Option Value → AH → Prop}
theorem lp_81 {f : Nat} (hf : f < 48) {cells : Int64} {q : Int32} : ∀ d i, i + d = 48 → Rn (EE N xs) 81 10003 [.ref 40, .int (Int32.ofNat f), .long cells, jk, .int q, .int (Int32.ofNat i)] [] (K0, ntI I f cells q i, L) Q = Q none (K0, ntI I f cells q 48, L)
  | 0, i, e => by
    have e : i = 48 := e
    subst e
    rw [n_81_10003]
    simp (maxSteps := 2000000) (disch := first | rfl | exact Nat.le_of_ble_eq_true rfl | assumption | omega) only [n_81_0, ric_0, n_81_1, ri_istore, s1_i1, s2_in, s2_io, s2_it, s1_r1, s2_rn, s2_ro, s2_rt, s1_n1, s2_nn, s2_no, s2_nt, s1_j1, s2_jn, s2_jo, s2_jt, sto1_1l, sto1_z, sto2_z0, sto2_z1, sto2_z2, s1_2, s2_2, s1_3, s2_3, s1_4, s2_4, s1_5, s2_5, s1_6, s2_6, s1_7, s2_7, s1_8, s2_8, s1_9, s2_9, s1_10, s2_10, s1_11, s2_11, s1_12, s2_12, s1_13, s2_13, s1_14, s2_14, s1_15, s2_15, tl_c, tl_n, n_81_3, ri_ret, tk_0, tk_1, tk_2, tk_3, tk_4, tk_5, tk_6, tk_7, tk_8, tk_9, tk_10, tk_11, tk_12, tk_13, ri_iload_5, n_81_5, ric_48, n_81_7, ri_icmp_ge, tn_69, n_81_10, ri_lload_2, n_81_11, n_81_13, ri_lushr, n_81_14, rlc_0, n_81_15, ri_lcmp, n_81_16, ri_if_eq, n_81_19, ri_iload_1, n_81_20, n_81_22, ri_imul, n_81_23, n_81_25, ri_iadd, n_81_26, n_81_28, n_81_29, n_81_31, n_81_32, rlc_1, n_81_33, ri_land, n_81_34, n_81_35, n_81_36, tn_63, n_81_39, ri_iload_6, n_81_41, ri_if_lt, n_81_44, n_81_46, ri_aload_0, ri_aloadN_0, n_81_47, gf_210701_40, n_81_50, ln_x0, ln_3, ln_5, ln_7, ln_41, ln_45, n_81_51, n_81_54, n_81_55, n_81_58, n_81_60, ri_iload_4, n_81_62, as_2, as_3, as_5, as_6, as_7, as_10, as_11, as_12, as_39, as_41, as_44, as_45, as_46, as_47, as_49, as_51, as_53, as_107, as_108, as_109, as_110, as_111, as_112, as_113, as_114, as_115, as_116, as_117, as_118, as_119, as_120, as_121, as_122, as_c, as_d, n_81_63, rin_5_1, n_81_66, ri_goto, tn_3, n_81_69, rt_81, ite_not, cA0, cB0, cC0, cD0, cE0, cF0, cA1, cB1, cC1, cD1, cE1, cF1, cA2, cB2, cC2, cD2, cE2, cF2, cA3, cB3, cC3, cD3, cE3, cF3, vinT, vinN, li_clamp, iN_clamp, ↓reduceIte, if_true, if_false, iN_add1, iL_add, lI_add, iN_add, lI_mul, iL_mul, iN_mul, iN_sub, iL_sub, lI_sub, and_self, and_true, true_and, and_false, false_and, b01, b01L, z10, z10L, lc_eq, lc_lt, lc_le, lc_ge, lc_gt, ent_n, ent_i, ent_l, ent_r, ent_u, tL_n, tL_s, ap_n, ap_c, u2_s, u2_k, u2_a, u2_T1, u2_T2, u2_T3, u2_T4, u2_T5, u2_T6, u2_T7, u2_T8]
  | d + 1, i, e => by
    have ih := lp_81 hf (cells := cells) (q := q) d (i + 1) (by omega)
    rw [n_81_10003]
    by_cases z : (cells.toUInt64 >>> ((Int32.ofNat i).toInt64.toUInt64 &&& Int64.toUInt64 63)).toInt64 = 0
    · simp (maxSteps := 2000000) (disch := first | rfl | exact Nat.le_of_ble_eq_true rfl | assumption | omega) only [n_81_0, ric_0, n_81_1, ri_istore, s1_i1, s2_in, s2_io, s2_it, s1_r1, s2_rn, s2_ro, s2_rt, s1_n1, s2_nn, s2_no, s2_nt, s1_j1, s2_jn, s2_jo, s2_jt, sto1_1l, sto1_z, sto2_z0, sto2_z1, sto2_z2, s1_2, s2_2, s1_3, s2_3, s1_4, s2_4, s1_5, s2_5, s1_6, s2_6, s1_7, s2_7, s1_8, s2_8, s1_9, s2_9, s1_10, s2_10, s1_11, s2_11, s1_12, s2_12, s1_13, s2_13, s1_14, s2_14, s1_15, s2_15, tl_c, tl_n, n_81_3, ri_ret, tk_0, tk_1, tk_2, tk_3, tk_4, tk_5, tk_6, tk_7, tk_8, tk_9, tk_10, tk_11, tk_12, tk_13, ri_iload_5, n_81_5, ric_48, n_81_7, ri_icmp_ge, tn_69, n_81_10, ri_lload_2, n_81_11, n_81_13, ri_lushr, n_81_14, rlc_0, n_81_15, ri_lcmp, n_81_16, ri_if_eq, n_81_19, ri_iload_1, n_81_20, n_81_22, ri_imul, n_81_23, n_81_25, ri_iadd, n_81_26, n_81_28, n_81_29, n_81_31, n_81_32, rlc_1, n_81_33, ri_land, n_81_34, n_81_35, n_81_36, tn_63, n_81_39, ri_iload_6, n_81_41, ri_if_lt, n_81_44, n_81_46, ri_aload_0, ri_aloadN_0, n_81_47, gf_210701_40, n_81_50, ln_x0, ln_3, ln_5, ln_7, ln_41, ln_45, n_81_51, n_81_54, n_81_55, n_81_58, n_81_60, ri_iload_4, n_81_62, as_2, as_3, as_5, as_6, as_7, as_10, as_11, as_12, as_39, as_41, as_44, as_45, as_46, as_47, as_49, as_51, as_53, as_107, as_108, as_109, as_110, as_111, as_112, as_113, as_114, as_115, as_116, as_117, as_118, as_119, as_120, as_121, as_122, as_c, as_d, n_81_63, rin_5_1, n_81_66, ri_goto, tn_3, n_81_69, rt_81, ite_not, cA0, cB0, cC0, cD0, cE0, cF0, cA1, cB1, cC1, cD1, cE1, cF1, cA2, cB2, cC2, cD2, cE2, cF2, cA3, cB3, cC3, cD3, cE3, cF3, vinT, vinN, li_clamp, iN_clamp, ↓reduceIte, if_true, if_false, iN_add1, iL_add, lI_add, iN_add, lI_mul, iL_mul, iN_mul, iN_sub, iL_sub, lI_sub, and_self, and_true, true_and, and_false, false_and, b01, b01L, z10, z10L, lc_eq, lc_lt, lc_le, lc_ge, lc_gt, ent_n, ent_i, ent_l, ent_r, ent_u, tL_n, tL_s, ap_n, ap_c, u2_s, u2_k, u2_a, u2_T1, u2_T2, u2_T3, u2_T4, u2_T5, u2_T6, u2_T7, u2_T8, z]
      rw [ntI_k (m := 48) (by omega)]
      intro j h1 h2
      have := tb_ushr (x := cells) (n := i) (i := j - i) (by omega)
      rw [z, tb_zero, show i + (j - i) = j by omega] at this
      exact this.symm
    · cases b : tb cells i with
      | true =>
        simp (maxSteps := 2000000) (disch := first | rfl | exact Nat.le_of_ble_eq_true rfl | assumption | omega) only [n_81_0, ric_0, n_81_1, ri_istore, s1_i1, s2_in, s2_io, s2_it, s1_r1, s2_rn, s2_ro, s2_rt, s1_n1, s2_nn, s2_no, s2_nt, s1_j1, s2_jn, s2_jo, s2_jt, sto1_1l, sto1_z, sto2_z0, sto2_z1, sto2_z2, s1_2, s2_2, s1_3, s2_3, s1_4, s2_4, s1_5, s2_5, s1_6, s2_6, s1_7, s2_7, s1_8, s2_8, s1_9, s2_9, s1_10, s2_10, s1_11, s2_11, s1_12, s2_12, s1_13, s2_13, s1_14, s2_14, s1_15, s2_15, tl_c, tl_n, n_81_3, ri_ret, tk_0, tk_1, tk_2, tk_3, tk_4, tk_5, tk_6, tk_7, tk_8, tk_9, tk_10, tk_11, tk_12, tk_13, ri_iload_5, n_81_5, ric_48, n_81_7, ri_icmp_ge, tn_69, n_81_10, ri_lload_2, n_81_11, n_81_13, ri_lushr, n_81_14, rlc_0, n_81_15, ri_lcmp, n_81_16, ri_if_eq, n_81_19, ri_iload_1, n_81_20, n_81_22, ri_imul, n_81_23, n_81_25, ri_iadd, n_81_26, n_81_28, n_81_29, n_81_31, n_81_32, rlc_1, n_81_33, ri_land, n_81_34, n_81_35, n_81_36, tn_63, n_81_39, ri_iload_6, n_81_41, ri_if_lt, n_81_44, n_81_46, ri_aload_0, ri_aloadN_0, n_81_47, gf_210701_40, n_81_50, ln_x0, ln_3, ln_5, ln_7, ln_41, ln_45, n_81_51, n_81_54, n_81_55, n_81_58, n_81_60, ri_iload_4, n_81_62, as_2, as_3, as_5, as_6, as_7, as_10, as_11, as_12, as_39, as_41, as_44, as_45, as_46, as_47, as_49, as_51, as_53, as_107, as_108, as_109, as_110, as_111, as_112, as_113, as_114, as_115, as_116, as_117, as_118, as_119, as_120, as_121, as_122, as_c, as_d, n_81_63, rin_5_1, n_81_66, ri_goto, tn_3, n_81_69, rt_81, ite_not, cA0, cB0, cC0, cD0, cE0, cF0, cA1, cB1, cC1, cD1, cE1, cF1, cA2, cB2, cC2, cD2, cE2, cF2, cA3, cB3, cC3, cD3, cE3, cF3, vinT, vinN, li_clamp, iN_clamp, ↓reduceIte, if_true, if_false, iN_add1, iL_add, lI_add, iN_add, lI_mul, iL_mul, iN_mul, iN_sub, iL_sub, lI_sub, and_self, and_true, true_and, and_false, false_and, b01, b01L, z10, z10L, lc_eq, lc_lt, lc_le, lc_ge, lc_gt, ent_n, ent_i, ent_l, ent_r, ent_u, tL_n, tL_s, ap_n, ap_c, u2_s, u2_k, u2_a, u2_T1, u2_T2, u2_T3, u2_T4, u2_T5, u2_T6, u2_T7, u2_T8, z, ushr1, b]
        rw [ntI_s b]
        exact ih
      | false =>
        simp (maxSteps := 2000000) (disch := first | rfl | exact Nat.le_of_ble_eq_true rfl | assumption | omega) only [n_81_0, ric_0, n_81_1, ri_istore, s1_i1, s2_in, s2_io, s2_it, s1_r1, s2_rn, s2_ro, s2_rt, s1_n1, s2_nn, s2_no, s2_nt, s1_j1, s2_jn, s2_jo, s2_jt, sto1_1l, sto1_z, sto2_z0, sto2_z1, sto2_z2, s1_2, s2_2, s1_3, s2_3, s1_4, s2_4, s1_5, s2_5, s1_6, s2_6, s1_7, s2_7, s1_8, s2_8, s1_9, s2_9, s1_10, s2_10, s1_11, s2_11, s1_12, s2_12, s1_13, s2_13, s1_14, s2_14, s1_15, s2_15, tl_c, tl_n, n_81_3, ri_ret, tk_0, tk_1, tk_2, tk_3, tk_4, tk_5, tk_6, tk_7, tk_8, tk_9, tk_10, tk_11, tk_12, tk_13, ri_iload_5, n_81_5, ric_48, n_81_7, ri_icmp_ge, tn_69, n_81_10, ri_lload_2, n_81_11, n_81_13, ri_lushr, n_81_14, rlc_0, n_81_15, ri_lcmp, n_81_16, ri_if_eq, n_81_19, ri_iload_1, n_81_20, n_81_22, ri_imul, n_81_23, n_81_25, ri_iadd, n_81_26, n_81_28, n_81_29, n_81_31, n_81_32, rlc_1, n_81_33, ri_land, n_81_34, n_81_35, n_81_36, tn_63, n_81_39, ri_iload_6, n_81_41, ri_if_lt, n_81_44, n_81_46, ri_aload_0, ri_aloadN_0, n_81_47, gf_210701_40, n_81_50, ln_x0, ln_3, ln_5, ln_7, ln_41, ln_45, n_81_51, n_81_54, n_81_55, n_81_58, n_81_60, ri_iload_4, n_81_62, as_2, as_3, as_5, as_6, as_7, as_10, as_11, as_12, as_39, as_41, as_44, as_45, as_46, as_47, as_49, as_51, as_53, as_107, as_108, as_109, as_110, as_111, as_112, as_113, as_114, as_115, as_116, as_117, as_118, as_119, as_120, as_121, as_122, as_c, as_d, n_81_63, rin_5_1, n_81_66, ri_goto, tn_3, n_81_69, rt_81, ite_not, cA0, cB0, cC0, cD0, cE0, cF0, cA1, cB1, cC1, cD1, cE1, cF1, cA2, cB2, cC2, cD2, cE2, cF2, cA3, cB3, cC3, cD3, cE3, cF3, vinT, vinN, li_clamp, iN_clamp, ↓reduceIte, if_true, if_false, iN_add1, iL_add, lI_add, iN_add, lI_mul, iL_mul, iN_mul, iN_sub, iL_sub, lI_sub, and_self, and_true, true_and, and_false, false_and, b01, b01L, z10, z10L, lc_eq, lc_lt, lc_le, lc_ge, lc_gt, ent_n, ent_i, ent_l, ent_r, ent_u, tL_n, tL_s, ap_n, ap_c, u2_s, u2_k, u2_a, u2_T1, u2_T2, u2_T3, u2_T4, u2_T5, u2_T6, u2_T7, u2_T8, z, ushr1, b, Bool.false_eq_true]
        rw [ntI_k (m := i + 1) (by omega) (fun j h1 h2 => by rw [show j = i by omega]; exact b)]
        exact ih
theorem sp_81 {f : Nat} (hf : f < 48) {cells : Int64} {q : Int32} : Rn (EE N xs) 81 0 [.ref 40, .int (Int32.ofNat f), .long cells, jk, .int q] [] (K0, I, L) Q = Q none (K0, ntI I f cells q 48, L) := by
  simp (maxSteps := 2000000) (disch := first | rfl | exact Nat.le_of_ble_eq_true rfl | assumption | omega) only [n_81_0, ric_0, n_81_1, ri_istore, s1_i1, s2_in, s2_io, s2_it, s1_r1, s2_rn, s2_ro, s2_rt, s1_n1, s2_nn, s2_no, s2_nt, s1_j1, s2_jn, s2_jo, s2_jt, sto1_1l, sto1_z, sto2_z0, sto2_z1, sto2_z2, s1_2, s2_2, s1_3, s2_3, s1_4, s2_4, s1_5, s2_5, s1_6, s2_6, s1_7, s2_7, s1_8, s2_8, s1_9, s2_9, s1_10, s2_10, s1_11, s2_11, s1_12, s2_12, s1_13, s2_13, s1_14, s2_14, s1_15, s2_15, tl_c, tl_n, n_81_3, ri_ret, tk_0, tk_1, tk_2, tk_3, tk_4, tk_5, tk_6, tk_7, tk_8, tk_9, tk_10, tk_11, tk_12, tk_13, ri_iload_5, n_81_5, ric_48, n_81_7, ri_icmp_ge, tn_69, n_81_10, ri_lload_2, n_81_11, n_81_13, ri_lushr, n_81_14, rlc_0, n_81_15, ri_lcmp, n_81_16, ri_if_eq, n_81_19, ri_iload_1, n_81_20, n_81_22, ri_imul, n_81_23, n_81_25, ri_iadd, n_81_26, n_81_28, n_81_29, n_81_31, n_81_32, rlc_1, n_81_33, ri_land, n_81_34, n_81_35, n_81_36, tn_63, n_81_39, ri_iload_6, n_81_41, ri_if_lt, n_81_44, n_81_46, ri_aload_0, ri_aloadN_0, n_81_47, gf_210701_40, n_81_50, ln_x0, ln_3, ln_5, ln_7, ln_41, ln_45, n_81_51, n_81_54, n_81_55, n_81_58, n_81_60, ri_iload_4, n_81_62, as_2, as_3, as_5, as_6, as_7, as_10, as_11, as_12, as_39, as_41, as_44, as_45, as_46, as_47, as_49, as_51, as_53, as_107, as_108, as_109, as_110, as_111, as_112, as_113, as_114, as_115, as_116, as_117, as_118, as_119, as_120, as_121, as_122, as_c, as_d, n_81_63, rin_5_1, n_81_66, ri_goto, tn_3, n_81_69, rt_81, ite_not, cA0, cB0, cC0, cD0, cE0, cF0, cA1, cB1, cC1, cD1, cE1, cF1, cA2, cB2, cC2, cD2, cE2, cF2, cA3, cB3, cC3, cD3, cE3, cF3, vinT, vinN, li_clamp, iN_clamp, ↓reduceIte, if_true, if_false, iN_add1, iL_add, lI_add, iN_add, lI_mul, iL_mul, iN_mul, iN_sub, iL_sub, lI_sub, and_self, and_true, true_and, and_false, false_and, b01, b01L, z10, z10L, lc_eq, lc_lt, lc_le, lc_ge, lc_gt, ent_n, ent_i, ent_l, ent_r, ent_u, tL_n, tL_s, ap_n, ap_c, u2_s, u2_k, u2_a, u2_T1, u2_T2, u2_T3, u2_T4, u2_T5, u2_T6, u2_T7, u2_T8]
  have h := lp_81 (N := N) (xs := xs) (I := I) (L := L) (Q := Q) hf (cells := cells) (q := q) 48 0 rfl
  rw [ntI_0] at h
  exact h
theorem rc_81 {M n nx : Nat} {ls r : List Value} {f : Nat} (hf : f < 48) {cells : Int64} {q : Int32} (hn : n % 1000 = 81) (hc : cs r ≤ 8) : RnC (EE N xs) 0 M n nx ls (.int q :: .long cells :: .int (Int32.ofNat f) :: .ref 40 :: r) (K0, I, L) Q = Rn (EE N xs) M nx ls (r) (K0, ntI I f cells q 48, L) Q := by
  have e := RnC_V (E := EE N xs) (M := M) (nx := nx) (a := 40) (ls := ls) (as := [.int (Int32.ofNat f), .long cells, .int q]) (r := r) (h := (K0, I, L)) (Q := Q) hn rfl (show K0[40]? = some (.inl (ciM 81, _)) from rfl) (show (5 : Nat) ≤ mlM 81 by decide) hc
  exact e.trans (sp_81 hf)
end S43
