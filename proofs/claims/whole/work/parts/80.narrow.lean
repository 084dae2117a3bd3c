/-! ALONE: theft by theft, in the class -/
def bitL (n : Nat) : Int64 := (1 : Int64) <<< ((Int32.ofNat n).toInt64 &&& 63)
theorem bitL_tb {n m : Nat} (hn : n < 64) (hm : m < 64) : tb (bitL n) m = decide (m = n) := tb_bit hn hm
theorem bitL_ne {n : Nat} (hn : n < 64) : ¬ bitL n = 0 := by
  intro e
  have := bitL_tb hn hn
  rw [e, tb_zero, decide_eq_true rfl] at this
  cases this
/-- the choices are those of the thefts, but one alone for those before k -/
def CK (V : Nat → Bool) (c0 : Nat → Int64) (f : Nat → Nat) (k : Nat) (M : Nat → Nat → Int64) : Prop := (∀ s, s < k → V s = true → M 44 s = bitL (f s)) ∧ (∀ s, s < 12 → (k ≤ s ∨ V s = false) → M 44 s = c0 s)
/-- the choices with the night n alone for k -/
def CN (V : Nat → Bool) (c0 : Nat → Int64) (f : Nat → Nat) (k n : Nat) (M : Nat → Nat → Int64) : Prop := M 44 k = bitL n ∧ ∀ s, s < 12 → s ≠ k → (s < k → V s = true → M 44 s = bitL (f s)) ∧ ((k < s ∨ V s = false) → M 44 s = c0 s)
def tbC (c0 : Nat → Int64) (t n : Nat) : Bool := tb (c0 t) n
theorem MT_mk {m : Nat} {V : Nat → Bool} {ch : Nat → Nat → Bool} {f : Nat → Nat} (h1 : ∀ t, t < 12 → V t = true → f t < 60 ∧ ch t (f t) = true) (h2 : ∀ n, n < 60 → cnt f n ≤ m) : MT m V ch := by
  refine ⟨fun t => if V t = true then f t else 60, ⟨fun t ht q => ?_, fun n hn => ?_⟩, fun t ht q => ?_⟩
  · by_cases z : V t = true
    · simp only [if_pos z]
      exact (h1 t ht z).2
    · simp only [if_neg z] at q
      exact absurd q (Nat.lt_irrefl 60)
  · refine Nat.le_trans ?_ (h2 n hn)
    refine pcN_mono 12 (fun t ht q => ?_)
    have q := of_decide_eq_true q
    by_cases z : V t = true
    · simp only [if_pos z] at q
      exact decide_eq_true q
    · simp only [if_neg z] at q
      omega
  · simp only [if_pos q]
    exact (h1 t ht q).1
section S80a
variable {V : Nat → Bool} {c0 : Nat → Int64} {f : Nat → Nat} {k n : Nat} {M : Nat → Nat → Int64}
theorem CN_V (h : CN V c0 f k n M) (hk : k < 12) (hn : n < 60) (hf : ∀ s, s < k → V s = true → f s < 60) (hV : ∀ t, t < 12 → V t = decide (¬ c0 t = 0)) (Vk : V k = true) : ∀ t, t < 12 → vL M t = V t := by
  intro t ht
  unfold vL
  by_cases z : t = k
  · rw [z, h.1, Vk]
    exact decide_eq_true (bitL_ne (by omega))
  · obtain ⟨a, b⟩ := h.2 t ht z
    by_cases y : t < k ∧ V t = true
    · rw [a y.1 y.2, y.2]
      exact decide_eq_true (bitL_ne (by have := hf t y.1 y.2; omega))
    · rw [b (by
        by_cases w : k < t
        · exact Or.inl w
        · exact Or.inr (Bool.eq_false_iff.mpr (fun q => y ⟨by omega, q⟩))), hV t ht]
theorem CN_c (h : CN V c0 f k n M) (hn : n < 60) (hf : ∀ s, s < k → V s = true → f s < 60) : ∀ t, t < 12 → V t = true → ∀ m, m < 60 → chL M t m = C2 (tbC c0) f k n t m := by
  intro t ht Vt m hm
  unfold chL
  by_cases z : t = k
  · rw [z, h.1, C2_eq, bitL_tb (by omega) (by omega)]
  · obtain ⟨a, b⟩ := h.2 t ht z
    by_cases y : t < k
    · rw [a y Vt, C2_lt y, bitL_tb (by have := hf t y Vt; omega) (by omega)]
    · rw [b (Or.inl (by omega)), C2_gt (by omega)]
      rfl
theorem CN_z (h : CN V c0 f k n M) (hn : n < 60) (hf : ∀ s, s < k → V s = true → f s < 60) (hz : ∀ t, t < 12 → ∀ n, 60 ≤ n → tb (c0 t) n = false) : Z60 M := by
  intro t ht m hm
  by_cases w : m < 64
  · by_cases z : t = k
    · rw [z, h.1, bitL_tb (by omega) w]
      exact decide_eq_false (by omega)
    · obtain ⟨a, b⟩ := h.2 t ht z
      by_cases y : t < k ∧ V t = true
      · have := hf t y.1 y.2
        rw [a y.1 y.2, bitL_tb (by omega) w]
        exact decide_eq_false (by omega)
      · rw [b (by
          by_cases w : k < t
          · exact Or.inl w
          · exact Or.inr (Bool.eq_false_iff.mpr (fun q => y ⟨by omega, q⟩)))]
        exact hz t ht m hm
  · exact tb_ge (by omega)
theorem CK_V (h : CK V c0 f k M) (hf : ∀ s, s < k → V s = true → f s < 60) (hV : ∀ t, t < 12 → V t = decide (¬ c0 t = 0)) : ∀ t, t < 12 → vL M t = V t := by
  intro t ht
  unfold vL
  by_cases y : t < k ∧ V t = true
  · rw [h.1 t y.1 y.2, y.2]
    exact decide_eq_true (bitL_ne (by have := hf t y.1 y.2; omega))
  · rw [h.2 t ht (by
      by_cases w : k ≤ t
      · exact Or.inl w
      · exact Or.inr (Bool.eq_false_iff.mpr (fun q => y ⟨by omega, q⟩))), hV t ht]
end S80a
section S80
variable {N : Nat} {xs : Nat → Int32} {I : Nat → Nat → Int32} {L : Nat → Nat → Int64} {Q : Option Value → AH → Prop}
theorem lq_104 {t : Nat} (ht : t < 12) : ∀ d n, n + d = 60 → Rn (EE N xs) 104 10021 [.ref 43, .int (Int32.ofNat t), .long 0, jk, .int (Int32.ofNat n)] [] (K0, I, L) Q = Q none (K0, I, L)
  | 0, n, e => by
    have e : n = 60 := e
    subst e
    rw [n_104_10021]
    simp (maxSteps := 2000000) (disch := first | rfl | exact Nat.le_of_ble_eq_true rfl | assumption | omega) only [n_104_0, ri_iload_1, n_104_1, ric_0, n_104_2, ric_11, n_104_4, ri_S, rc_14, n_104_7, ri_if_ne, tn_11, n_104_10, rt_104, n_104_11, ri_aload_0, ri_aloadN_0, n_104_12, gf_250401_43, n_104_15, n_104_16, al_2, al_3, al_5, al_6, al_7, al_10, al_11, al_12, al_39, al_41, al_44, al_45, al_46, al_47, al_49, al_51, al_53, al_107, al_108, al_109, al_110, al_111, al_112, al_113, al_114, al_115, al_116, al_117, al_118, al_119, al_120, al_121, al_122, al_c, al_d, al_14, al_bk, al_52, al_x0, al_x1, al_x2, al_x3, n_104_17, ri_lstore, s1_i1, s2_in, s2_io, s2_it, s1_r1, s2_rn, s2_ro, s2_rt, s1_n1, s2_nn, s2_no, s2_nt, s1_j1, s2_jn, s2_jo, s2_jt, sto1_1l, sto1_z, sto2_z0, sto2_z1, sto2_z2, s1_2, s2_2, s1_3, s2_3, s1_4, s2_4, s1_5, s2_5, s1_6, s2_6, s1_7, s2_7, s1_8, s2_8, s1_9, s2_9, s1_10, s2_10, s1_11, s2_11, s1_12, s2_12, s1_13, s2_13, s1_14, s2_14, s1_15, s2_15, tl_c, tl_n, n_104_18, n_104_19, ri_istore, n_104_21, ri_ret, tk_0, tk_1, tk_2, tk_3, tk_4, tk_5, tk_6, tk_7, tk_8, tk_9, tk_10, tk_11, tk_12, tk_13, ri_iload_4, n_104_23, ric_60, n_104_25, ri_icmp_ge, tn_65, n_104_28, ri_lload_2, n_104_29, n_104_31, rc_47, n_104_34, tn_40, n_104_37, ri_goto, tn_59, n_104_40, n_104_41, n_104_44, n_104_45, rlc_1, n_104_46, n_104_48, ri_lshl, n_104_49, as_2, as_3, as_5, as_6, as_7, as_10, as_11, as_12, as_39, as_41, as_44, as_45, as_46, as_47, as_49, as_51, as_53, as_107, as_108, as_109, as_110, as_111, as_112, as_113, as_114, as_115, as_116, as_117, as_118, as_119, as_120, as_121, as_122, as_c, as_d, n_104_50, n_104_51, ric_1, n_104_52, ri_V, n_104_55, ri_if_eq, n_104_58, n_104_59, rin_4_1, n_104_62, tn_21, n_104_65, ent_n, ent_i, ent_l, ent_r, ent_u, tL_n, tL_s, ap_n, ap_c, b01, b01L, ite_not, z10, cA0, cB0, cC0, cD0, cE0, cF0, cA1, cB1, cC1, cD1, cE1, cF1, cA2, cB2, cC2, cD2, cE2, cF2, cA3, cB3, cC3, cD3, cE3, cF3, vinT, vinN, li_clamp, iN_clamp, ↓reduceIte, if_true, if_false, iN_add1, iL_add, lI_add, iN_add, lI_mul, iL_mul, iN_mul, iN_sub, iL_sub, lI_sub, and_self, and_true, true_and, and_false, false_and, z10L, lc_eq, lc_lt, lc_le, lc_ge, lc_gt, u2_s, u2_k, u2_a, u2_T1, u2_T2, u2_T3, u2_T4, u2_T5, u2_T6, u2_T7, u2_T8]
  | d + 1, n, e => by
    rw [n_104_10021]
    simp (maxSteps := 2000000) (disch := first | rfl | exact Nat.le_of_ble_eq_true rfl | assumption | omega) only [n_104_0, ri_iload_1, n_104_1, ric_0, n_104_2, ric_11, n_104_4, ri_S, rc_14, n_104_7, ri_if_ne, tn_11, n_104_10, rt_104, n_104_11, ri_aload_0, ri_aloadN_0, n_104_12, gf_250401_43, n_104_15, n_104_16, al_2, al_3, al_5, al_6, al_7, al_10, al_11, al_12, al_39, al_41, al_44, al_45, al_46, al_47, al_49, al_51, al_53, al_107, al_108, al_109, al_110, al_111, al_112, al_113, al_114, al_115, al_116, al_117, al_118, al_119, al_120, al_121, al_122, al_c, al_d, al_14, al_bk, al_52, al_x0, al_x1, al_x2, al_x3, n_104_17, ri_lstore, s1_i1, s2_in, s2_io, s2_it, s1_r1, s2_rn, s2_ro, s2_rt, s1_n1, s2_nn, s2_no, s2_nt, s1_j1, s2_jn, s2_jo, s2_jt, sto1_1l, sto1_z, sto2_z0, sto2_z1, sto2_z2, s1_2, s2_2, s1_3, s2_3, s1_4, s2_4, s1_5, s2_5, s1_6, s2_6, s1_7, s2_7, s1_8, s2_8, s1_9, s2_9, s1_10, s2_10, s1_11, s2_11, s1_12, s2_12, s1_13, s2_13, s1_14, s2_14, s1_15, s2_15, tl_c, tl_n, n_104_18, n_104_19, ri_istore, n_104_21, ri_ret, tk_0, tk_1, tk_2, tk_3, tk_4, tk_5, tk_6, tk_7, tk_8, tk_9, tk_10, tk_11, tk_12, tk_13, ri_iload_4, n_104_23, ric_60, n_104_25, ri_icmp_ge, tn_65, n_104_28, ri_lload_2, n_104_29, n_104_31, rc_47, n_104_34, tn_40, n_104_37, ri_goto, tn_59, n_104_40, n_104_41, n_104_44, n_104_45, rlc_1, n_104_46, n_104_48, ri_lshl, n_104_49, as_2, as_3, as_5, as_6, as_7, as_10, as_11, as_12, as_39, as_41, as_44, as_45, as_46, as_47, as_49, as_51, as_53, as_107, as_108, as_109, as_110, as_111, as_112, as_113, as_114, as_115, as_116, as_117, as_118, as_119, as_120, as_121, as_122, as_c, as_d, n_104_50, n_104_51, ric_1, n_104_52, ri_V, n_104_55, ri_if_eq, n_104_58, n_104_59, rin_4_1, n_104_62, tn_21, n_104_65, ent_n, ent_i, ent_l, ent_r, ent_u, tL_n, tL_s, ap_n, ap_c, b01, b01L, ite_not, z10, cA0, cB0, cC0, cD0, cE0, cF0, cA1, cB1, cC1, cD1, cE1, cF1, cA2, cB2, cC2, cD2, cE2, cF2, cA3, cB3, cC3, cD3, cE3, cF3, vinT, vinN, li_clamp, iN_clamp, ↓reduceIte, if_true, if_false, iN_add1, iL_add, lI_add, iN_add, lI_mul, iL_mul, iN_mul, iN_sub, iL_sub, lI_sub, and_self, and_true, true_and, and_false, false_and, z10L, lc_eq, lc_lt, lc_le, lc_ge, lc_gt, u2_s, u2_k, u2_a, u2_T1, u2_T2, u2_T3, u2_T4, u2_T5, u2_T6, u2_T7, u2_T8, hb_tb, tb_zero, Bool.false_eq_true]
    exact lq_104 ht d (n + 1) (by omega)
theorem lp_104 {V : Nat → Bool} {c0 : Nat → Int64} {f : Nat → Nat} {k g : Nat} (hk : k < 12) (Vk : V k = true) (hV : ∀ t, t < 12 → V t = decide (¬ c0 t = 0)) (hz : ∀ t, t < 12 → ∀ n, 60 ≤ n → tb (c0 t) n = false) (hf : ∀ s, s < k → V s = true → f s < 60) (hg : g < 60) (cg : tb (c0 k) g = true) (gg : HL 1 V (C2 (tbC c0) f k g)) (K : ∀ J M n, FT I J → F44 L M → CN V c0 f k n M → n < 60 → tb (c0 k) n = true → MT 1 V (C2 (tbC c0) f k n) → (∀ m, m < n → tb (c0 k) m = true → ¬ HL 1 V (C2 (tbC c0) f k m)) → Q none (K0, J, M)) : ∀ d n J M, n + d = 60 → FT I J → F44 L M → (∀ s, s < 12 → s ≠ k → (s < k → V s = true → M 44 s = bitL (f s)) ∧ ((k < s ∨ V s = false) → M 44 s = c0 s)) → (∀ m, m < n → tb (c0 k) m = true → ¬ HL 1 V (C2 (tbC c0) f k m)) → Rn (EE N xs) 104 10021 [.ref 43, .int (Int32.ofNat k), .long (c0 k), jk, .int (Int32.ofNat n)] [] (K0, J, M) Q
  | 0, n, J, M, e, ft, fr, h1, h2 => by
    have e : n = 60 := e
    subst e
    exact absurd gg (h2 g hg cg)
  | d + 1, n, J, M, e, ft, fr, h1, h2 => by
    rw [n_104_10021]
    cases w : tb (c0 k) n with
    | false =>
      have r := lp_104 hk Vk hV hz hf hg cg gg K d (n + 1) J M (by omega) ft fr h1 (fun m hm cm => h2 m (by
        by_cases z : m = n
        · rw [z, w] at cm
          cases cm
        · omega) cm)
      simp (maxSteps := 2000000) (disch := first | rfl | exact Nat.le_of_ble_eq_true rfl | assumption | omega) only [n_104_0, ri_iload_1, n_104_1, ric_0, n_104_2, ric_11, n_104_4, ri_S, rc_14, n_104_7, ri_if_ne, tn_11, n_104_10, rt_104, n_104_11, ri_aload_0, ri_aloadN_0, n_104_12, gf_250401_43, n_104_15, n_104_16, al_2, al_3, al_5, al_6, al_7, al_10, al_11, al_12, al_39, al_41, al_44, al_45, al_46, al_47, al_49, al_51, al_53, al_107, al_108, al_109, al_110, al_111, al_112, al_113, al_114, al_115, al_116, al_117, al_118, al_119, al_120, al_121, al_122, al_c, al_d, al_14, al_bk, al_52, al_x0, al_x1, al_x2, al_x3, n_104_17, ri_lstore, s1_i1, s2_in, s2_io, s2_it, s1_r1, s2_rn, s2_ro, s2_rt, s1_n1, s2_nn, s2_no, s2_nt, s1_j1, s2_jn, s2_jo, s2_jt, sto1_1l, sto1_z, sto2_z0, sto2_z1, sto2_z2, s1_2, s2_2, s1_3, s2_3, s1_4, s2_4, s1_5, s2_5, s1_6, s2_6, s1_7, s2_7, s1_8, s2_8, s1_9, s2_9, s1_10, s2_10, s1_11, s2_11, s1_12, s2_12, s1_13, s2_13, s1_14, s2_14, s1_15, s2_15, tl_c, tl_n, n_104_18, n_104_19, ri_istore, n_104_21, ri_ret, tk_0, tk_1, tk_2, tk_3, tk_4, tk_5, tk_6, tk_7, tk_8, tk_9, tk_10, tk_11, tk_12, tk_13, ri_iload_4, n_104_23, ric_60, n_104_25, ri_icmp_ge, tn_65, n_104_28, ri_lload_2, n_104_29, n_104_31, rc_47, n_104_34, tn_40, n_104_37, ri_goto, tn_59, n_104_40, n_104_41, n_104_44, n_104_45, rlc_1, n_104_46, n_104_48, ri_lshl, n_104_49, as_2, as_3, as_5, as_6, as_7, as_10, as_11, as_12, as_39, as_41, as_44, as_45, as_46, as_47, as_49, as_51, as_53, as_107, as_108, as_109, as_110, as_111, as_112, as_113, as_114, as_115, as_116, as_117, as_118, as_119, as_120, as_121, as_122, as_c, as_d, n_104_50, n_104_51, ric_1, n_104_52, ri_V, n_104_55, ri_if_eq, n_104_58, n_104_59, rin_4_1, n_104_62, tn_21, n_104_65, ent_n, ent_i, ent_l, ent_r, ent_u, tL_n, tL_s, ap_n, ap_c, b01, b01L, ite_not, z10, cA0, cB0, cC0, cD0, cE0, cF0, cA1, cB1, cC1, cD1, cE1, cF1, cA2, cB2, cC2, cD2, cE2, cF2, cA3, cB3, cC3, cD3, cE3, cF3, vinT, vinN, li_clamp, iN_clamp, ↓reduceIte, if_true, if_false, iN_add1, iL_add, lI_add, iN_add, lI_mul, iL_mul, iN_mul, iN_sub, iL_sub, lI_sub, and_self, and_true, true_and, and_false, false_and, z10L, lc_eq, lc_lt, lc_le, lc_ge, lc_gt, u2_s, u2_k, u2_a, u2_T1, u2_T2, u2_T3, u2_T4, u2_T5, u2_T6, u2_T7, u2_T8, hb_tb, w, Bool.false_eq_true]
      exact r
    | true =>
      have fr2 : F44 L (u2 M 44 k (bitL n)) := fun a b z => (congrFun (u2_a z) b).trans (fr a b z)
      have h3 : ∀ s, s < 12 → s ≠ k → (s < k → V s = true → u2 M 44 k (bitL n) 44 s = bitL (f s)) ∧ ((k < s ∨ V s = false) → u2 M 44 k (bitL n) 44 s = c0 s) := fun s hs ne => by
        rw [u2_k ne]
        exact h1 s hs ne
      have cn : CN V c0 f k n (u2 M 44 k (bitL n)) := ⟨u2_s, h3⟩
      have ev := CN_V cn hk (by omega) hf hV Vk
      have ec := CN_c cn (by omega) hf
      have z60 := CN_z cn (by omega) hf hz
      have one : (1 : Int64) <<< ((Int32.ofNat n).toInt64 &&& 63) = bitL n := rfl
      simp (maxSteps := 2000000) (disch := first | rfl | exact Nat.le_of_ble_eq_true rfl | assumption | omega) only [n_104_0, ri_iload_1, n_104_1, ric_0, n_104_2, ric_11, n_104_4, ri_S, rc_14, n_104_7, ri_if_ne, tn_11, n_104_10, rt_104, n_104_11, ri_aload_0, ri_aloadN_0, n_104_12, gf_250401_43, n_104_15, n_104_16, al_2, al_3, al_5, al_6, al_7, al_10, al_11, al_12, al_39, al_41, al_44, al_45, al_46, al_47, al_49, al_51, al_53, al_107, al_108, al_109, al_110, al_111, al_112, al_113, al_114, al_115, al_116, al_117, al_118, al_119, al_120, al_121, al_122, al_c, al_d, al_14, al_bk, al_52, al_x0, al_x1, al_x2, al_x3, n_104_17, ri_lstore, s1_i1, s2_in, s2_io, s2_it, s1_r1, s2_rn, s2_ro, s2_rt, s1_n1, s2_nn, s2_no, s2_nt, s1_j1, s2_jn, s2_jo, s2_jt, sto1_1l, sto1_z, sto2_z0, sto2_z1, sto2_z2, s1_2, s2_2, s1_3, s2_3, s1_4, s2_4, s1_5, s2_5, s1_6, s2_6, s1_7, s2_7, s1_8, s2_8, s1_9, s2_9, s1_10, s2_10, s1_11, s2_11, s1_12, s2_12, s1_13, s2_13, s1_14, s2_14, s1_15, s2_15, tl_c, tl_n, n_104_18, n_104_19, ri_istore, n_104_21, ri_ret, tk_0, tk_1, tk_2, tk_3, tk_4, tk_5, tk_6, tk_7, tk_8, tk_9, tk_10, tk_11, tk_12, tk_13, ri_iload_4, n_104_23, ric_60, n_104_25, ri_icmp_ge, tn_65, n_104_28, ri_lload_2, n_104_29, n_104_31, rc_47, n_104_34, tn_40, n_104_37, ri_goto, tn_59, n_104_40, n_104_41, n_104_44, n_104_45, rlc_1, n_104_46, n_104_48, ri_lshl, n_104_49, as_2, as_3, as_5, as_6, as_7, as_10, as_11, as_12, as_39, as_41, as_44, as_45, as_46, as_47, as_49, as_51, as_53, as_107, as_108, as_109, as_110, as_111, as_112, as_113, as_114, as_115, as_116, as_117, as_118, as_119, as_120, as_121, as_122, as_c, as_d, n_104_50, n_104_51, ric_1, n_104_52, ri_V, n_104_55, ri_if_eq, n_104_58, n_104_59, rin_4_1, n_104_62, tn_21, n_104_65, ent_n, ent_i, ent_l, ent_r, ent_u, tL_n, tL_s, ap_n, ap_c, b01, b01L, ite_not, z10, cA0, cB0, cC0, cD0, cE0, cF0, cA1, cB1, cC1, cD1, cE1, cF1, cA2, cB2, cC2, cD2, cE2, cF2, cA3, cB3, cC3, cD3, cE3, cF3, vinT, vinN, li_clamp, iN_clamp, ↓reduceIte, if_true, if_false, iN_add1, iL_add, lI_add, iN_add, lI_mul, iL_mul, iN_mul, iN_sub, iL_sub, lI_sub, and_self, and_true, true_and, and_false, false_and, z10L, lc_eq, lc_lt, lc_le, lc_ge, lc_gt, u2_s, u2_k, u2_a, u2_T1, u2_T2, u2_T3, u2_T4, u2_T5, u2_T6, u2_T7, u2_T8, hb_tb, w, one]
      refine ic_97 (men := 1) (by decide) z60 rfl (Nat.le_of_ble_eq_true rfl) (fun J2 v fr3 eo => ?_)
      have ft2 : FT I J2 := fun a b z1 z2 z3 => (fr3 a b z1 z2 z3).trans (ft a b z1 z2 z3)
      rcases eo with ⟨rfl, mt⟩ | ⟨rfl, nh⟩
      · have r := K J2 _ n ft2 fr2 cn (by omega) w (MT_cV (fun t ht q => by rw [ev t ht]; exact q) (fun t ht q m hm cm => by rw [← ec t ht q m hm]; exact cm) mt) h2
        simp (maxSteps := 2000000) (disch := first | rfl | exact Nat.le_of_ble_eq_true rfl | assumption | omega) only [n_104_0, ri_iload_1, n_104_1, ric_0, n_104_2, ric_11, n_104_4, ri_S, rc_14, n_104_7, ri_if_ne, tn_11, n_104_10, rt_104, n_104_11, ri_aload_0, ri_aloadN_0, n_104_12, gf_250401_43, n_104_15, n_104_16, al_2, al_3, al_5, al_6, al_7, al_10, al_11, al_12, al_39, al_41, al_44, al_45, al_46, al_47, al_49, al_51, al_53, al_107, al_108, al_109, al_110, al_111, al_112, al_113, al_114, al_115, al_116, al_117, al_118, al_119, al_120, al_121, al_122, al_c, al_d, al_14, al_bk, al_52, al_x0, al_x1, al_x2, al_x3, n_104_17, ri_lstore, s1_i1, s2_in, s2_io, s2_it, s1_r1, s2_rn, s2_ro, s2_rt, s1_n1, s2_nn, s2_no, s2_nt, s1_j1, s2_jn, s2_jo, s2_jt, sto1_1l, sto1_z, sto2_z0, sto2_z1, sto2_z2, s1_2, s2_2, s1_3, s2_3, s1_4, s2_4, s1_5, s2_5, s1_6, s2_6, s1_7, s2_7, s1_8, s2_8, s1_9, s2_9, s1_10, s2_10, s1_11, s2_11, s1_12, s2_12, s1_13, s2_13, s1_14, s2_14, s1_15, s2_15, tl_c, tl_n, n_104_18, n_104_19, ri_istore, n_104_21, ri_ret, tk_0, tk_1, tk_2, tk_3, tk_4, tk_5, tk_6, tk_7, tk_8, tk_9, tk_10, tk_11, tk_12, tk_13, ri_iload_4, n_104_23, ric_60, n_104_25, ri_icmp_ge, tn_65, n_104_28, ri_lload_2, n_104_29, n_104_31, rc_47, n_104_34, tn_40, n_104_37, ri_goto, tn_59, n_104_40, n_104_41, n_104_44, n_104_45, rlc_1, n_104_46, n_104_48, ri_lshl, n_104_49, as_2, as_3, as_5, as_6, as_7, as_10, as_11, as_12, as_39, as_41, as_44, as_45, as_46, as_47, as_49, as_51, as_53, as_107, as_108, as_109, as_110, as_111, as_112, as_113, as_114, as_115, as_116, as_117, as_118, as_119, as_120, as_121, as_122, as_c, as_d, n_104_50, n_104_51, ric_1, n_104_52, ri_V, n_104_55, ri_if_eq, n_104_58, n_104_59, rin_4_1, n_104_62, tn_21, n_104_65, ent_n, ent_i, ent_l, ent_r, ent_u, tL_n, tL_s, ap_n, ap_c, b01, b01L, ite_not, z10, cA0, cB0, cC0, cD0, cE0, cF0, cA1, cB1, cC1, cD1, cE1, cF1, cA2, cB2, cC2, cD2, cE2, cF2, cA3, cB3, cC3, cD3, cE3, cF3, vinT, vinN, li_clamp, iN_clamp, ↓reduceIte, if_true, if_false, iN_add1, iL_add, lI_add, iN_add, lI_mul, iL_mul, iN_mul, iN_sub, iL_sub, lI_sub, and_self, and_true, true_and, and_false, false_and, z10L, lc_eq, lc_lt, lc_le, lc_ge, lc_gt, u2_s, u2_k, u2_a, u2_T1, u2_T2, u2_T3, u2_T4, u2_T5, u2_T6, u2_T7, u2_T8, hb_tb, w]
        exact r
      · have r := lp_104 hk Vk hV hz hf hg cg gg K d (n + 1) J2 _ (by omega) ft2 fr2 h3 (fun m hm cm => by
          by_cases z : m = n
          · rw [z]
            intro q
            exact nh (HL_cV ev ec q)
          · exact h2 m (by omega) cm)
        simp (maxSteps := 2000000) (disch := first | rfl | exact Nat.le_of_ble_eq_true rfl | assumption | omega) only [n_104_0, ri_iload_1, n_104_1, ric_0, n_104_2, ric_11, n_104_4, ri_S, rc_14, n_104_7, ri_if_ne, tn_11, n_104_10, rt_104, n_104_11, ri_aload_0, ri_aloadN_0, n_104_12, gf_250401_43, n_104_15, n_104_16, al_2, al_3, al_5, al_6, al_7, al_10, al_11, al_12, al_39, al_41, al_44, al_45, al_46, al_47, al_49, al_51, al_53, al_107, al_108, al_109, al_110, al_111, al_112, al_113, al_114, al_115, al_116, al_117, al_118, al_119, al_120, al_121, al_122, al_c, al_d, al_14, al_bk, al_52, al_x0, al_x1, al_x2, al_x3, n_104_17, ri_lstore, s1_i1, s2_in, s2_io, s2_it, s1_r1, s2_rn, s2_ro, s2_rt, s1_n1, s2_nn, s2_no, s2_nt, s1_j1, s2_jn, s2_jo, s2_jt, sto1_1l, sto1_z, sto2_z0, sto2_z1, sto2_z2, s1_2, s2_2, s1_3, s2_3, s1_4, s2_4, s1_5, s2_5, s1_6, s2_6, s1_7, s2_7, s1_8, s2_8, s1_9, s2_9, s1_10, s2_10, s1_11, s2_11, s1_12, s2_12, s1_13, s2_13, s1_14, s2_14, s1_15, s2_15, tl_c, tl_n, n_104_18, n_104_19, ri_istore, n_104_21, ri_ret, tk_0, tk_1, tk_2, tk_3, tk_4, tk_5, tk_6, tk_7, tk_8, tk_9, tk_10, tk_11, tk_12, tk_13, ri_iload_4, n_104_23, ric_60, n_104_25, ri_icmp_ge, tn_65, n_104_28, ri_lload_2, n_104_29, n_104_31, rc_47, n_104_34, tn_40, n_104_37, ri_goto, tn_59, n_104_40, n_104_41, n_104_44, n_104_45, rlc_1, n_104_46, n_104_48, ri_lshl, n_104_49, as_2, as_3, as_5, as_6, as_7, as_10, as_11, as_12, as_39, as_41, as_44, as_45, as_46, as_47, as_49, as_51, as_53, as_107, as_108, as_109, as_110, as_111, as_112, as_113, as_114, as_115, as_116, as_117, as_118, as_119, as_120, as_121, as_122, as_c, as_d, n_104_50, n_104_51, ric_1, n_104_52, ri_V, n_104_55, ri_if_eq, n_104_58, n_104_59, rin_4_1, n_104_62, tn_21, n_104_65, ent_n, ent_i, ent_l, ent_r, ent_u, tL_n, tL_s, ap_n, ap_c, b01, b01L, ite_not, z10, cA0, cB0, cC0, cD0, cE0, cF0, cA1, cB1, cC1, cD1, cE1, cF1, cA2, cB2, cC2, cD2, cE2, cF2, cA3, cB3, cC3, cD3, cE3, cF3, vinT, vinN, li_clamp, iN_clamp, ↓reduceIte, if_true, if_false, iN_add1, iL_add, lI_add, iN_add, lI_mul, iL_mul, iN_mul, iN_sub, iL_sub, lI_sub, and_self, and_true, true_and, and_false, false_and, z10L, lc_eq, lc_lt, lc_le, lc_ge, lc_gt, u2_s, u2_k, u2_a, u2_T1, u2_T2, u2_T3, u2_T4, u2_T5, u2_T6, u2_T7, u2_T8, hb_tb, w, eq_self]
        exact r
theorem lp_103 {V : Nat → Bool} {c0 : Nat → Int64} {t : Nat} (ht : t < 12) (hV : ∀ t, t < 12 → V t = decide (¬ c0 t = 0)) (hz : ∀ t, t < 12 → ∀ n, 60 ≤ n → tb (c0 t) n = false) (K : ∀ J M f, FT I J → F44 L M → (∀ j, j ≤ t → V j = true → LsN V (tbC c0) f j) → Q (some (.int (if V t = true then Int32.ofNat (f t) else -9))) (K0, J, M)) : ∀ d k J M f, k + d = t + 1 → FT I J → F44 L M → CK V c0 f k M → (∀ j, j < k → V j = true → LsN V (tbC c0) f j) → MT 1 (vL M) (chL M) → Rn (EE N xs) 103 10030 [.ref 43, .int (Int32.ofNat t), .int (Int32.ofNat k)] [] (K0, J, M) Q
  | 0, k, J, M, f, e, ft, fr, ck, ls, mt => by
    have e : k = t + 1 := e
    subst e
    have K2 := K J M f ft fr (fun j hj => ls j (by omega))
    by_cases Vt : V t = true
    · have l := ls t (by omega) Vt
      have m44 := ck.1 t (by omega) Vt
      have f60 := l.1
      rw [if_pos Vt] at K2
      have fs : fsA (tb (bitL (f t))) 60 0 = Int32.ofNat (f t) := by
        refine fsA_some 60 0 (f t) (Nat.zero_le _) (by omega) ?_ (fun j _ hj => ?_)
        · rw [bitL_tb (by omega) (by omega)]
          exact decide_eq_true rfl
        · rw [bitL_tb (by omega) (by omega)]
          exact decide_eq_false (by omega)
      rw [n_103_10030]
      simp (maxSteps := 2000000) (disch := first | rfl | exact Nat.le_of_ble_eq_true rfl | assumption | omega) only [n_103_0, ri_aload_0, ri_aloadN_0, n_103_1, ri_V, n_103_4, n_103_5, ric_1, n_103_6, n_103_9, ri_if_ne, tn_15, n_103_12, ric_m2, n_103_14, rt_103, n_103_15, ri_iload_1, n_103_16, ric_0, n_103_17, ric_11, n_103_19, ri_S, rc_14, n_103_22, tn_28, n_103_25, ric_m9, n_103_27, n_103_28, n_103_29, ri_istore, s1_i1, s2_in, s2_io, s2_it, s1_r1, s2_rn, s2_ro, s2_rt, s1_n1, s2_nn, s2_no, s2_nt, s1_j1, s2_jn, s2_jo, s2_jt, sto1_1l, sto1_z, sto2_z0, sto2_z1, sto2_z2, s1_2, s2_2, s1_3, s2_3, s1_4, s2_4, s1_5, s2_5, s1_6, s2_6, s1_7, s2_7, s1_8, s2_8, s1_9, s2_9, s1_10, s2_10, s1_11, s2_11, s1_12, s2_12, s1_13, s2_13, s1_14, s2_14, s1_15, s2_15, tl_c, tl_n, n_103_30, ri_ret, tk_0, tk_1, tk_2, tk_3, tk_4, tk_5, tk_6, tk_7, tk_8, tk_9, tk_10, tk_11, tk_12, tk_13, ri_iload_2, n_103_31, n_103_32, ri_icmp_gt, tn_52, n_103_35, n_103_36, ric_12, n_103_38, ri_icmp_ge, n_103_41, n_103_42, n_103_43, n_103_46, rin_2_1, n_103_49, ri_goto, tn_30, n_103_52, n_103_53, gf_250401_43, n_103_56, n_103_57, al_2, al_3, al_5, al_6, al_7, al_10, al_11, al_12, al_39, al_41, al_44, al_45, al_46, al_47, al_49, al_51, al_53, al_107, al_108, al_109, al_110, al_111, al_112, al_113, al_114, al_115, al_116, al_117, al_118, al_119, al_120, al_121, al_122, al_c, al_d, al_14, al_bk, al_52, al_x0, al_x1, al_x2, al_x3, n_103_58, rc_76, n_103_61, ent_n, ent_i, ent_l, ent_r, ent_u, tL_n, tL_s, ap_n, ap_c, b01, b01L, ite_not, z10, cA0, cB0, cC0, cD0, cE0, cF0, cA1, cB1, cC1, cD1, cE1, cF1, cA2, cB2, cC2, cD2, cE2, cF2, cA3, cB3, cC3, cD3, cE3, cF3, vinT, vinN, li_clamp, iN_clamp, ↓reduceIte, if_true, if_false, iN_add1, iL_add, lI_add, iN_add, lI_mul, iL_mul, iN_mul, iN_sub, iL_sub, lI_sub, and_self, and_true, true_and, and_false, false_and, z10L, lc_eq, lc_lt, lc_le, lc_ge, lc_gt, m44, fs]
      exact K2
    · have m44 := ck.2 t ht (Or.inr (Bool.eq_false_iff.mpr Vt))
      have c00 : c0 t = 0 := by
        rw [hV t ht] at Vt
        simpa using Vt
      rw [if_neg Vt] at K2
      have fs : fsA (tb 0) 60 0 = -9 := by decide +kernel
      rw [n_103_10030]
      simp (maxSteps := 2000000) (disch := first | rfl | exact Nat.le_of_ble_eq_true rfl | assumption | omega) only [n_103_0, ri_aload_0, ri_aloadN_0, n_103_1, ri_V, n_103_4, n_103_5, ric_1, n_103_6, n_103_9, ri_if_ne, tn_15, n_103_12, ric_m2, n_103_14, rt_103, n_103_15, ri_iload_1, n_103_16, ric_0, n_103_17, ric_11, n_103_19, ri_S, rc_14, n_103_22, tn_28, n_103_25, ric_m9, n_103_27, n_103_28, n_103_29, ri_istore, s1_i1, s2_in, s2_io, s2_it, s1_r1, s2_rn, s2_ro, s2_rt, s1_n1, s2_nn, s2_no, s2_nt, s1_j1, s2_jn, s2_jo, s2_jt, sto1_1l, sto1_z, sto2_z0, sto2_z1, sto2_z2, s1_2, s2_2, s1_3, s2_3, s1_4, s2_4, s1_5, s2_5, s1_6, s2_6, s1_7, s2_7, s1_8, s2_8, s1_9, s2_9, s1_10, s2_10, s1_11, s2_11, s1_12, s2_12, s1_13, s2_13, s1_14, s2_14, s1_15, s2_15, tl_c, tl_n, n_103_30, ri_ret, tk_0, tk_1, tk_2, tk_3, tk_4, tk_5, tk_6, tk_7, tk_8, tk_9, tk_10, tk_11, tk_12, tk_13, ri_iload_2, n_103_31, n_103_32, ri_icmp_gt, tn_52, n_103_35, n_103_36, ric_12, n_103_38, ri_icmp_ge, n_103_41, n_103_42, n_103_43, n_103_46, rin_2_1, n_103_49, ri_goto, tn_30, n_103_52, n_103_53, gf_250401_43, n_103_56, n_103_57, al_2, al_3, al_5, al_6, al_7, al_10, al_11, al_12, al_39, al_41, al_44, al_45, al_46, al_47, al_49, al_51, al_53, al_107, al_108, al_109, al_110, al_111, al_112, al_113, al_114, al_115, al_116, al_117, al_118, al_119, al_120, al_121, al_122, al_c, al_d, al_14, al_bk, al_52, al_x0, al_x1, al_x2, al_x3, n_103_58, rc_76, n_103_61, ent_n, ent_i, ent_l, ent_r, ent_u, tL_n, tL_s, ap_n, ap_c, b01, b01L, ite_not, z10, cA0, cB0, cC0, cD0, cE0, cF0, cA1, cB1, cC1, cD1, cE1, cF1, cA2, cB2, cC2, cD2, cE2, cF2, cA3, cB3, cC3, cD3, cE3, cF3, vinT, vinN, li_clamp, iN_clamp, ↓reduceIte, if_true, if_false, iN_add1, iL_add, lI_add, iN_add, lI_mul, iL_mul, iN_mul, iN_sub, iL_sub, lI_sub, and_self, and_true, true_and, and_false, false_and, z10L, lc_eq, lc_lt, lc_le, lc_ge, lc_gt, m44, c00, fs]
      exact K2
  | d + 1, k, J, M, f, e, ft, fr, ck, ls, mt => by
    have hk : k < 12 := by omega
    have m44 := ck.2 k hk (Or.inl (Nat.le_refl _))
    have hf : ∀ s, s < k → V s = true → f s < 60 := fun s hs Vs => (ls s hs Vs).1
    have di : ∀ a b, a < b → b < k → V a = true → V b = true → f a ≠ f b := fun a b hab hb Va Vb => (ls b hb Vb).2.2.1.1 a hab Va
    have ev := CK_V ck hf hV
    rw [n_103_10030]
    by_cases Vk : V k = true
    · obtain ⟨g, ⟨p1, p2⟩, p3⟩ := mt
      have gk := p3 k hk (by rw [ev k hk]; exact Vk)
      have cg : tb (c0 k) (g k) = true := by
        have := p1 k hk gk
        unfold chL at this
        rw [m44] at this
        exact this
      have gg : HL 1 V (C2 (tbC c0) f k (g k)) := MT_HL (MT_mk (f := g) (fun s hs Vs => ⟨p3 s hs (by rw [ev s hs]; exact Vs), by
        have gs := p3 s hs (by rw [ev s hs]; exact Vs)
        have := p1 s hs gs
        unfold chL at this
        by_cases z : s = k
        · rw [z, C2_eq]
          exact decide_eq_true rfl
        · by_cases y : s < k
          · rw [ck.1 s y Vs, bitL_tb (by have := hf s y Vs; omega) (by omega)] at this
            rw [C2_lt y]
            exact this
          · rw [ck.2 s hs (Or.inl (by omega))] at this
            rw [C2_gt (by omega)]
            exact this⟩) p2)
      have go : Rn (EE N xs) 104 10021 [.ref 43, .int (Int32.ofNat k), .long (c0 k), jk, .int (Int32.ofNat 0)] [] (K0, J, M) (fun x h1 => Rn (EE N xs) 103 10030 [.ref 43, .int (Int32.ofNat t), .int (Int32.ofNat (k + 1))] (x.toList ++ []) h1 Q) := by
        refine lp_104 (I := I) (L := L) hk Vk hV hz hf gk cg gg (fun J2 M2 n ft2 fr2 cn hn cn2 mt2 no => ?_) 60 0 J M rfl ft fr (fun s hs ne => ⟨fun a b => ck.1 s a b, fun a => ck.2 s hs (by
          rcases a with a | a
          · exact Or.inl (by omega)
          · exact Or.inr a)⟩) (fun m hm => absurd hm (Nat.not_lt_zero m))
        have r := lp_103 ht hV hz K d (k + 1) J2 M2 (pt f k n) (by omega) ft2 fr2 ⟨fun s hs Vs => by
          by_cases z : s = k
          · rw [z, pt_s]
            exact cn.1
          · rw [pt_n z]
            exact (cn.2 s (by omega) z).1 (by omega) Vs, fun s hs a => by
          have ne : s ≠ k := by
            intro e
            rcases a with a | a
            · omega
            · rw [e, Vk] at a
              cases a
          exact (cn.2 s hs ne).2 (by
            rcases a with a | a
            · exact Or.inl (by omega)
            · exact Or.inr a)⟩ (fun j hj Vj => by
          by_cases z : j = k
          · subst z
            refine ⟨by rw [pt_s]; exact hn, by rw [pt_s]; exact cn2, by rw [pt_s]; exact GA_congr (fun i hi => pt_n (by omega)) (GA_of_MT hk Vk mt2), fun m hm cm q => ?_⟩
            rw [pt_s] at hm
            exact no m hm cm (HL_of_GA hk (by omega) hf di (GA_congr (fun i hi => (pt_n (by omega)).symm) q))
          · exact LS_congr (fun i hi => pt_n (by omega)) (ls j (by omega) Vj)) (MT_cV (fun s hs q => by rw [← CN_V cn hk hn hf hV Vk s hs]; exact q) (fun s hs q m hm cm => by
          rw [CN_V cn hk hn hf hV Vk s hs] at q
          rw [CN_c cn hn hf s hs q m hm]
          exact cm) mt2)
        exact r
      simp (maxSteps := 2000000) (disch := first | rfl | exact Nat.le_of_ble_eq_true rfl | assumption | omega) only [n_103_0, ri_aload_0, ri_aloadN_0, n_103_1, ri_V, n_103_4, n_103_5, ric_1, n_103_6, n_103_9, ri_if_ne, tn_15, n_103_12, ric_m2, n_103_14, rt_103, n_103_15, ri_iload_1, n_103_16, ric_0, n_103_17, ric_11, n_103_19, ri_S, rc_14, n_103_22, tn_28, n_103_25, ric_m9, n_103_27, n_103_28, n_103_29, ri_istore, s1_i1, s2_in, s2_io, s2_it, s1_r1, s2_rn, s2_ro, s2_rt, s1_n1, s2_nn, s2_no, s2_nt, s1_j1, s2_jn, s2_jo, s2_jt, sto1_1l, sto1_z, sto2_z0, sto2_z1, sto2_z2, s1_2, s2_2, s1_3, s2_3, s1_4, s2_4, s1_5, s2_5, s1_6, s2_6, s1_7, s2_7, s1_8, s2_8, s1_9, s2_9, s1_10, s2_10, s1_11, s2_11, s1_12, s2_12, s1_13, s2_13, s1_14, s2_14, s1_15, s2_15, tl_c, tl_n, n_103_30, ri_ret, tk_0, tk_1, tk_2, tk_3, tk_4, tk_5, tk_6, tk_7, tk_8, tk_9, tk_10, tk_11, tk_12, tk_13, ri_iload_2, n_103_31, n_103_32, ri_icmp_gt, tn_52, n_103_35, n_103_36, ric_12, n_103_38, ri_icmp_ge, n_103_41, n_103_42, n_103_43, in_104, n_103_46, rin_2_1, n_103_49, ri_goto, tn_30, n_103_52, n_103_53, gf_250401_43, n_103_56, n_103_57, al_2, al_3, al_5, al_6, al_7, al_10, al_11, al_12, al_39, al_41, al_44, al_45, al_46, al_47, al_49, al_51, al_53, al_107, al_108, al_109, al_110, al_111, al_112, al_113, al_114, al_115, al_116, al_117, al_118, al_119, al_120, al_121, al_122, al_c, al_d, al_14, al_bk, al_52, al_x0, al_x1, al_x2, al_x3, n_103_58, rc_76, n_103_61, n_104_0, n_104_1, n_104_2, n_104_4, n_104_7, tn_11, n_104_10, rt_104, n_104_11, n_104_12, n_104_15, n_104_16, n_104_17, ri_lstore, n_104_18, n_104_19, n_104_21, ri_iload_4, n_104_23, ric_60, n_104_25, tn_65, n_104_28, ri_lload_2, n_104_29, n_104_31, rc_47, n_104_34, tn_40, n_104_37, tn_59, n_104_40, n_104_41, n_104_44, n_104_45, rlc_1, n_104_46, n_104_48, ri_lshl, n_104_49, as_2, as_3, as_5, as_6, as_7, as_10, as_11, as_12, as_39, as_41, as_44, as_45, as_46, as_47, as_49, as_51, as_53, as_107, as_108, as_109, as_110, as_111, as_112, as_113, as_114, as_115, as_116, as_117, as_118, as_119, as_120, as_121, as_122, as_c, as_d, n_104_50, n_104_51, n_104_52, n_104_55, ri_if_eq, n_104_58, n_104_59, rin_4_1, n_104_62, tn_21, n_104_65, ent_n, ent_i, ent_l, ent_r, ent_u, tL_n, tL_s, ap_n, ap_c, b01, b01L, ite_not, z10, cA0, cB0, cC0, cD0, cE0, cF0, cA1, cB1, cC1, cD1, cE1, cF1, cA2, cB2, cC2, cD2, cE2, cF2, cA3, cB3, cC3, cD3, cE3, cF3, vinT, vinN, li_clamp, iN_clamp, ↓reduceIte, if_true, if_false, iN_add1, iL_add, lI_add, iN_add, lI_mul, iL_mul, iN_mul, iN_sub, iL_sub, lI_sub, and_self, and_true, true_and, and_false, false_and, z10L, lc_eq, lc_lt, lc_le, lc_ge, lc_gt, u2_s, u2_k, u2_a, u2_T1, u2_T2, u2_T3, u2_T4, u2_T5, u2_T6, u2_T7, u2_T8, m44]
      exact go
    · have c00 : c0 k = 0 := by
        rw [hV k hk] at Vk
        simpa using Vk
      have r := lp_103 ht hV hz K d (k + 1) J M f (by omega) ft fr ⟨fun s hs Vs => ck.1 s (by
        by_cases z : s = k
        · rw [z] at Vs
          exact absurd Vs Vk
        · omega) Vs, fun s hs a => ck.2 s hs (by
        rcases a with a | a
        · exact Or.inl (by omega)
        · exact Or.inr a)⟩ (fun j hj Vj => ls j (by
        by_cases z : j = k
        · rw [z] at Vj
          exact absurd Vj Vk
        · omega) Vj) mt
      have go : Rn (EE N xs) 104 10021 [.ref 43, .int (Int32.ofNat k), .long 0, jk, .int (Int32.ofNat 0)] [] (K0, J, M) (fun x h1 => Rn (EE N xs) 103 10030 [.ref 43, .int (Int32.ofNat t), .int (Int32.ofNat (k + 1))] (x.toList ++ []) h1 Q) := by
        rw [lq_104 hk 60 0 rfl]
        exact r
      simp (maxSteps := 2000000) (disch := first | rfl | exact Nat.le_of_ble_eq_true rfl | assumption | omega) only [n_103_0, ri_aload_0, ri_aloadN_0, n_103_1, ri_V, n_103_4, n_103_5, ric_1, n_103_6, n_103_9, ri_if_ne, tn_15, n_103_12, ric_m2, n_103_14, rt_103, n_103_15, ri_iload_1, n_103_16, ric_0, n_103_17, ric_11, n_103_19, ri_S, rc_14, n_103_22, tn_28, n_103_25, ric_m9, n_103_27, n_103_28, n_103_29, ri_istore, s1_i1, s2_in, s2_io, s2_it, s1_r1, s2_rn, s2_ro, s2_rt, s1_n1, s2_nn, s2_no, s2_nt, s1_j1, s2_jn, s2_jo, s2_jt, sto1_1l, sto1_z, sto2_z0, sto2_z1, sto2_z2, s1_2, s2_2, s1_3, s2_3, s1_4, s2_4, s1_5, s2_5, s1_6, s2_6, s1_7, s2_7, s1_8, s2_8, s1_9, s2_9, s1_10, s2_10, s1_11, s2_11, s1_12, s2_12, s1_13, s2_13, s1_14, s2_14, s1_15, s2_15, tl_c, tl_n, n_103_30, ri_ret, tk_0, tk_1, tk_2, tk_3, tk_4, tk_5, tk_6, tk_7, tk_8, tk_9, tk_10, tk_11, tk_12, tk_13, ri_iload_2, n_103_31, n_103_32, ri_icmp_gt, tn_52, n_103_35, n_103_36, ric_12, n_103_38, ri_icmp_ge, n_103_41, n_103_42, n_103_43, in_104, n_103_46, rin_2_1, n_103_49, ri_goto, tn_30, n_103_52, n_103_53, gf_250401_43, n_103_56, n_103_57, al_2, al_3, al_5, al_6, al_7, al_10, al_11, al_12, al_39, al_41, al_44, al_45, al_46, al_47, al_49, al_51, al_53, al_107, al_108, al_109, al_110, al_111, al_112, al_113, al_114, al_115, al_116, al_117, al_118, al_119, al_120, al_121, al_122, al_c, al_d, al_14, al_bk, al_52, al_x0, al_x1, al_x2, al_x3, n_103_58, rc_76, n_103_61, n_104_0, n_104_1, n_104_2, n_104_4, n_104_7, tn_11, n_104_10, rt_104, n_104_11, n_104_12, n_104_15, n_104_16, n_104_17, ri_lstore, n_104_18, n_104_19, n_104_21, ri_iload_4, n_104_23, ric_60, n_104_25, tn_65, n_104_28, ri_lload_2, n_104_29, n_104_31, rc_47, n_104_34, tn_40, n_104_37, tn_59, n_104_40, n_104_41, n_104_44, n_104_45, rlc_1, n_104_46, n_104_48, ri_lshl, n_104_49, as_2, as_3, as_5, as_6, as_7, as_10, as_11, as_12, as_39, as_41, as_44, as_45, as_46, as_47, as_49, as_51, as_53, as_107, as_108, as_109, as_110, as_111, as_112, as_113, as_114, as_115, as_116, as_117, as_118, as_119, as_120, as_121, as_122, as_c, as_d, n_104_50, n_104_51, n_104_52, n_104_55, ri_if_eq, n_104_58, n_104_59, rin_4_1, n_104_62, tn_21, n_104_65, ent_n, ent_i, ent_l, ent_r, ent_u, tL_n, tL_s, ap_n, ap_c, b01, b01L, ite_not, z10, cA0, cB0, cC0, cD0, cE0, cF0, cA1, cB1, cC1, cD1, cE1, cF1, cA2, cB2, cC2, cD2, cE2, cF2, cA3, cB3, cC3, cD3, cE3, cF3, vinT, vinN, li_clamp, iN_clamp, ↓reduceIte, if_true, if_false, iN_add1, iL_add, lI_add, iN_add, lI_mul, iL_mul, iN_mul, iN_sub, iL_sub, lI_sub, and_self, and_true, true_and, and_false, false_and, z10L, lc_eq, lc_lt, lc_le, lc_ge, lc_gt, u2_s, u2_k, u2_a, u2_T1, u2_T2, u2_T3, u2_T4, u2_T5, u2_T6, u2_T7, u2_T8, m44, c00]
      exact go
end S80
