/-! YEAR -/
def YM (D : DS) (I J : Nat → Nat → Int32) (L M : Nat → Nat → Int64) : Prop := (D.1 ≤ 8 ∧ J 106 6 = 0 ∧ J 106 14 = Int32.ofNat D.1 ∧ (∀ k, k < D.1 → J 112 k = Int32.ofNat (D.2.1 k)) ∧ (∀ k, k < D.1 → M 113 k = D.2.2.2.1 k) ∧ M 106 17 = spF 0 59 &&& (D.2.2.2.2 ^^^ (-1)) ∧ ∀ c, c < 48 → J 111 c = Int32.ofNat (D.2.2.1 c)) ∧ (J 107 0 = 0 ∧ J 109 0 = 0 ∧ J 109 1 = 0) ∧ (∀ a k, a < 106 ∨ a = 114 → J a k = I a k) ∧ ∀ a k, a < 106 ∨ (a = 106 ∧ k = 1) → M a k = L a k
section S97
variable {N : Nat} {xs : Nat → Int32} {I : Nat → Nat → Int32} {L : Nat → Nat → Int64} {Q : Option Value → AH → Prop}
theorem lp_152z {a1 : Int32} (K : ∀ J, FN2 I J → (∀ k, J 106 k = I 106 k) → (∀ c, c < 48 → J 111 (48 + c) = 0) → Rn (EE N xs) 152 53 [.ref 106, .int a1, .int (Int32.ofNat 48)] [] (K0, J, L) Q) : ∀ d c J, c + d = 48 → FN2 I J → (∀ k, J 106 k = I 106 k) → (∀ k, k < c → J 111 (48 + k) = 0) → Rn (EE N xs) 152 10031 [.ref 106, .int a1, .int (Int32.ofNat c)] [] (K0, J, L) Q
  | 0, c, J, e, f1, f2, h => by
    have e : c = 48 := e
    subst e
    have k := K J f1 f2 h
    rw [n_152_10031]
    simp (maxSteps := 2000000) (disch := first | rfl | exact Nat.le_of_ble_eq_true rfl | assumption | omega) only [n_152_31, ri_ret, tk_0, tk_1, tk_2, tk_3, tk_4, tk_5, tk_6, tk_7, tk_8, tk_9, tk_10, tk_11, tk_12, tk_13, ri_iload_2, n_152_32, ric_48, n_152_34, ri_icmp_ge, tn_53, n_152_37, ri_aload_0, ri_aloadN_0, n_152_38, gf_1011112_106, n_152_41, n_152_43, n_152_44, ri_iadd, n_152_45, ric_0, n_152_46, as_2, as_3, as_5, as_6, as_7, as_10, as_11, as_12, as_39, as_41, as_44, as_45, as_46, as_47, as_49, as_51, as_53, as_107, as_108, as_109, as_110, as_111, as_112, as_113, as_114, as_115, as_116, as_117, as_118, as_119, as_120, as_121, as_122, as_c, as_d, n_152_47, rin_2_1, s1_i1, s2_in, s2_io, s2_it, s1_r1, s2_rn, s2_ro, s2_rt, s1_n1, s2_nn, s2_no, s2_nt, s1_j1, s2_jn, s2_jo, s2_jt, sto1_1l, sto1_z, sto2_z0, sto2_z1, sto2_z2, s1_2, s2_2, s1_3, s2_3, s1_4, s2_4, s1_5, s2_5, s1_6, s2_6, s1_7, s2_7, s1_8, s2_8, s1_9, s2_9, s1_10, s2_10, s1_11, s2_11, s1_12, s2_12, s1_13, s2_13, s1_14, s2_14, s1_15, s2_15, tl_c, tl_n, n_152_50, ri_goto, tn_31, ite_not, cA0, cB0, cC0, cD0, cE0, cF0, cA1, cB1, cC1, cD1, cE1, cF1, cA2, cB2, cC2, cD2, cE2, cF2, cA3, cB3, cC3, cD3, cE3, cF3, vinT, vinN, li_clamp, iN_clamp, ↓reduceIte, if_true, if_false, iN_add1, iL_add, lI_add, iN_add, lI_mul, iL_mul, iN_mul, iN_sub, iL_sub, lI_sub, and_self, and_true, true_and, and_false, false_and, b01, b01L, z10, z10L, lc_eq, lc_lt, lc_le, lc_ge, lc_gt, ent_n, ent_i, ent_l, ent_r, ent_u, tL_n, tL_s, ap_n, ap_c, u2_s, u2_k, u2_a, u2_T1, u2_T2, u2_T3, u2_T4, u2_T5, u2_T6, u2_T7, u2_T8]
    exact k
  | d + 1, c, J, e, f1, f2, h => by
    have r := lp_152z (a1 := a1) K d (c + 1) (u2 J 111 (48 + c) 0) (by omega) (f1.w (Or.inr (Or.inl ⟨rfl, by omega⟩))) (fun k => (congrFun (u2_a (by decide)) k).trans (f2 k)) (fun k hk => by
      by_cases z : k = c
      · rw [z, u2_s]
      · rw [u2_k (by omega)]
        exact h k (by omega))
    rw [n_152_10031]
    simp (maxSteps := 2000000) (disch := first | rfl | exact Nat.le_of_ble_eq_true rfl | assumption | omega) only [n_152_31, ri_ret, tk_0, tk_1, tk_2, tk_3, tk_4, tk_5, tk_6, tk_7, tk_8, tk_9, tk_10, tk_11, tk_12, tk_13, ri_iload_2, n_152_32, ric_48, n_152_34, ri_icmp_ge, tn_53, n_152_37, ri_aload_0, ri_aloadN_0, n_152_38, gf_1011112_106, n_152_41, n_152_43, n_152_44, ri_iadd, n_152_45, ric_0, n_152_46, as_2, as_3, as_5, as_6, as_7, as_10, as_11, as_12, as_39, as_41, as_44, as_45, as_46, as_47, as_49, as_51, as_53, as_107, as_108, as_109, as_110, as_111, as_112, as_113, as_114, as_115, as_116, as_117, as_118, as_119, as_120, as_121, as_122, as_c, as_d, n_152_47, rin_2_1, s1_i1, s2_in, s2_io, s2_it, s1_r1, s2_rn, s2_ro, s2_rt, s1_n1, s2_nn, s2_no, s2_nt, s1_j1, s2_jn, s2_jo, s2_jt, sto1_1l, sto1_z, sto2_z0, sto2_z1, sto2_z2, s1_2, s2_2, s1_3, s2_3, s1_4, s2_4, s1_5, s2_5, s1_6, s2_6, s1_7, s2_7, s1_8, s2_8, s1_9, s2_9, s1_10, s2_10, s1_11, s2_11, s1_12, s2_12, s1_13, s2_13, s1_14, s2_14, s1_15, s2_15, tl_c, tl_n, n_152_50, ri_goto, tn_31, ite_not, cA0, cB0, cC0, cD0, cE0, cF0, cA1, cB1, cC1, cD1, cE1, cF1, cA2, cB2, cC2, cD2, cE2, cF2, cA3, cB3, cC3, cD3, cE3, cF3, vinT, vinN, li_clamp, iN_clamp, ↓reduceIte, if_true, if_false, iN_add1, iL_add, lI_add, iN_add, lI_mul, iL_mul, iN_mul, iN_sub, iL_sub, lI_sub, and_self, and_true, true_and, and_false, false_and, b01, b01L, z10, z10L, lc_eq, lc_lt, lc_le, lc_ge, lc_gt, ent_n, ent_i, ent_l, ent_r, ent_u, tL_n, tL_s, ap_n, ap_c, u2_s, u2_k, u2_a, u2_T1, u2_T2, u2_T3, u2_T4, u2_T5, u2_T6, u2_T7, u2_T8]
    exact r
theorem lp_152g {a1 : Int32} (K : ∀ J, (∀ a k, ¬ (a = 111 ∧ k < 48) → J a k = I a k) → (∀ c, c < 48 → J 111 c = I 111 (48 + c)) → Rn (EE N xs) 152 225 [.ref 106, .int a1, .int (Int32.ofNat 48)] [] (K0, J, L) Q) : ∀ d c J, c + d = 48 → (∀ a k, ¬ (a = 111 ∧ k < 48) → J a k = I a k) → (∀ k, k < c → J 111 k = I 111 (48 + k)) → Rn (EE N xs) 152 10198 [.ref 106, .int a1, .int (Int32.ofNat c)] [] (K0, J, L) Q
  | 0, c, J, e, f1, h => by
    have e : c = 48 := e
    subst e
    have k := K J f1 h
    rw [n_152_10198]
    simp (maxSteps := 2000000) (disch := first | rfl | exact Nat.le_of_ble_eq_true rfl | assumption | omega) only [n_152_198, ri_ret, tk_0, tk_1, tk_2, tk_3, tk_4, tk_5, tk_6, tk_7, tk_8, tk_9, tk_10, tk_11, tk_12, tk_13, ri_iload_2, n_152_199, ric_48, n_152_201, ri_icmp_ge, tn_225, n_152_204, ri_aload_0, ri_aloadN_0, n_152_205, gf_1011112_106, n_152_208, n_152_209, n_152_210, n_152_213, n_152_215, n_152_216, ri_iadd, n_152_217, al_2, al_3, al_5, al_6, al_7, al_10, al_11, al_12, al_39, al_41, al_44, al_45, al_46, al_47, al_49, al_51, al_53, al_107, al_108, al_109, al_110, al_111, al_112, al_113, al_114, al_115, al_116, al_117, al_118, al_119, al_120, al_121, al_122, al_c, al_d, al_14, al_bk, al_52, al_x0, al_x1, al_x2, al_x3, n_152_218, as_2, as_3, as_5, as_6, as_7, as_10, as_11, as_12, as_39, as_41, as_44, as_45, as_46, as_47, as_49, as_51, as_53, as_107, as_108, as_109, as_110, as_111, as_112, as_113, as_114, as_115, as_116, as_117, as_118, as_119, as_120, as_121, as_122, as_c, as_d, n_152_219, rin_2_1, s1_i1, s2_in, s2_io, s2_it, s1_r1, s2_rn, s2_ro, s2_rt, s1_n1, s2_nn, s2_no, s2_nt, s1_j1, s2_jn, s2_jo, s2_jt, sto1_1l, sto1_z, sto2_z0, sto2_z1, sto2_z2, s1_2, s2_2, s1_3, s2_3, s1_4, s2_4, s1_5, s2_5, s1_6, s2_6, s1_7, s2_7, s1_8, s2_8, s1_9, s2_9, s1_10, s2_10, s1_11, s2_11, s1_12, s2_12, s1_13, s2_13, s1_14, s2_14, s1_15, s2_15, tl_c, tl_n, n_152_222, ri_goto, tn_198, ite_not, cA0, cB0, cC0, cD0, cE0, cF0, cA1, cB1, cC1, cD1, cE1, cF1, cA2, cB2, cC2, cD2, cE2, cF2, cA3, cB3, cC3, cD3, cE3, cF3, vinT, vinN, li_clamp, iN_clamp, ↓reduceIte, if_true, if_false, iN_add1, iL_add, lI_add, iN_add, lI_mul, iL_mul, iN_mul, iN_sub, iL_sub, lI_sub, and_self, and_true, true_and, and_false, false_and, b01, b01L, z10, z10L, lc_eq, lc_lt, lc_le, lc_ge, lc_gt, ent_n, ent_i, ent_l, ent_r, ent_u, tL_n, tL_s, ap_n, ap_c, u2_s, u2_k, u2_a, u2_T1, u2_T2, u2_T3, u2_T4, u2_T5, u2_T6, u2_T7, u2_T8]
    exact k
  | d + 1, c, J, e, f1, h => by
    have g := f1 111 (48 + c) (fun e => by omega)
    have r := lp_152g (a1 := a1) K d (c + 1) (u2 J 111 c (I 111 (48 + c))) (by omega) (fun a k z => (if_neg (fun e => z ⟨e.1, by omega⟩) : (if a = 111 ∧ k = c then I 111 (48 + c) else J a k) = J a k).trans (f1 a k z)) (fun k hk => by
      by_cases z : k = c
      · rw [z, u2_s]
      · rw [u2_k z]
        exact h k (by omega))
    rw [n_152_10198]
    simp (maxSteps := 2000000) (disch := first | rfl | exact Nat.le_of_ble_eq_true rfl | assumption | omega) only [n_152_198, ri_ret, tk_0, tk_1, tk_2, tk_3, tk_4, tk_5, tk_6, tk_7, tk_8, tk_9, tk_10, tk_11, tk_12, tk_13, ri_iload_2, n_152_199, ric_48, n_152_201, ri_icmp_ge, tn_225, n_152_204, ri_aload_0, ri_aloadN_0, n_152_205, gf_1011112_106, n_152_208, n_152_209, n_152_210, n_152_213, n_152_215, n_152_216, ri_iadd, n_152_217, al_2, al_3, al_5, al_6, al_7, al_10, al_11, al_12, al_39, al_41, al_44, al_45, al_46, al_47, al_49, al_51, al_53, al_107, al_108, al_109, al_110, al_111, al_112, al_113, al_114, al_115, al_116, al_117, al_118, al_119, al_120, al_121, al_122, al_c, al_d, al_14, al_bk, al_52, al_x0, al_x1, al_x2, al_x3, n_152_218, as_2, as_3, as_5, as_6, as_7, as_10, as_11, as_12, as_39, as_41, as_44, as_45, as_46, as_47, as_49, as_51, as_53, as_107, as_108, as_109, as_110, as_111, as_112, as_113, as_114, as_115, as_116, as_117, as_118, as_119, as_120, as_121, as_122, as_c, as_d, n_152_219, rin_2_1, s1_i1, s2_in, s2_io, s2_it, s1_r1, s2_rn, s2_ro, s2_rt, s1_n1, s2_nn, s2_no, s2_nt, s1_j1, s2_jn, s2_jo, s2_jt, sto1_1l, sto1_z, sto2_z0, sto2_z1, sto2_z2, s1_2, s2_2, s1_3, s2_3, s1_4, s2_4, s1_5, s2_5, s1_6, s2_6, s1_7, s2_7, s1_8, s2_8, s1_9, s2_9, s1_10, s2_10, s1_11, s2_11, s1_12, s2_12, s1_13, s2_13, s1_14, s2_14, s1_15, s2_15, tl_c, tl_n, n_152_222, ri_goto, tn_198, ite_not, cA0, cB0, cC0, cD0, cE0, cF0, cA1, cB1, cC1, cD1, cE1, cF1, cA2, cB2, cC2, cD2, cE2, cF2, cA3, cB3, cC3, cD3, cE3, cF3, vinT, vinN, li_clamp, iN_clamp, ↓reduceIte, if_true, if_false, iN_add1, iL_add, lI_add, iN_add, lI_mul, iL_mul, iN_mul, iN_sub, iL_sub, lI_sub, and_self, and_true, true_and, and_false, false_and, b01, b01L, z10, z10L, lc_eq, lc_lt, lc_le, lc_ge, lc_gt, ent_n, ent_i, ent_l, ent_r, ent_u, tL_n, tL_s, ap_n, ap_c, u2_s, u2_k, u2_a, u2_T1, u2_T2, u2_T3, u2_T4, u2_T5, u2_T6, u2_T7, u2_T8, g]
    exact r
theorem lp_152c {a1 : Int32} (K : ∀ J O, (∀ a k, ¬ (a = 112 ∧ k < 8) → J a k = I a k) → (∀ a k, ¬ (a = 113 ∧ k < 8) → O a k = L a k) → (∀ c, c < 8 → J 112 c = I 112 (8 + c) ∧ O 113 c = L 113 (8 + c)) → Rn (EE N xs) 152 269 [.ref 106, .int a1, .int (Int32.ofNat 8)] [] (K0, J, O) Q) : ∀ d c J O, c + d = 8 → (∀ a k, ¬ (a = 112 ∧ k < 8) → J a k = I a k) → (∀ a k, ¬ (a = 113 ∧ k < 8) → O a k = L a k) → (∀ k, k < c → J 112 k = I 112 (8 + k) ∧ O 113 k = L 113 (8 + k)) → Rn (EE N xs) 152 10227 [.ref 106, .int a1, .int (Int32.ofNat c)] [] (K0, J, O) Q
  | 0, c, J, O, e, f1, f2, h => by
    have e : c = 8 := e
    subst e
    have k := K J O f1 f2 h
    rw [n_152_10227]
    simp (maxSteps := 2000000) (disch := first | rfl | exact Nat.le_of_ble_eq_true rfl | assumption | omega) only [n_152_227, ri_ret, tk_0, tk_1, tk_2, tk_3, tk_4, tk_5, tk_6, tk_7, tk_8, tk_9, tk_10, tk_11, tk_12, tk_13, ri_iload_2, n_152_228, ric_8, n_152_230, ri_icmp_ge, tn_269, n_152_233, ri_aload_0, ri_aloadN_0, n_152_234, gf_1021113_106, n_152_237, n_152_238, n_152_239, n_152_242, n_152_244, n_152_245, ri_iadd, n_152_246, al_2, al_3, al_5, al_6, al_7, al_10, al_11, al_12, al_39, al_41, al_44, al_45, al_46, al_47, al_49, al_51, al_53, al_107, al_108, al_109, al_110, al_111, al_112, al_113, al_114, al_115, al_116, al_117, al_118, al_119, al_120, al_121, al_122, al_c, al_d, al_14, al_bk, al_52, al_x0, al_x1, al_x2, al_x3, n_152_247, as_2, as_3, as_5, as_6, as_7, as_10, as_11, as_12, as_39, as_41, as_44, as_45, as_46, as_47, as_49, as_51, as_53, as_107, as_108, as_109, as_110, as_111, as_112, as_113, as_114, as_115, as_116, as_117, as_118, as_119, as_120, as_121, as_122, as_c, as_d, n_152_248, n_152_249, gf_1031116_106, n_152_252, n_152_253, n_152_254, n_152_257, n_152_259, n_152_260, n_152_261, n_152_262, n_152_263, rin_2_1, s1_i1, s2_in, s2_io, s2_it, s1_r1, s2_rn, s2_ro, s2_rt, s1_n1, s2_nn, s2_no, s2_nt, s1_j1, s2_jn, s2_jo, s2_jt, sto1_1l, sto1_z, sto2_z0, sto2_z1, sto2_z2, s1_2, s2_2, s1_3, s2_3, s1_4, s2_4, s1_5, s2_5, s1_6, s2_6, s1_7, s2_7, s1_8, s2_8, s1_9, s2_9, s1_10, s2_10, s1_11, s2_11, s1_12, s2_12, s1_13, s2_13, s1_14, s2_14, s1_15, s2_15, tl_c, tl_n, n_152_266, ri_goto, tn_227, ite_not, cA0, cB0, cC0, cD0, cE0, cF0, cA1, cB1, cC1, cD1, cE1, cF1, cA2, cB2, cC2, cD2, cE2, cF2, cA3, cB3, cC3, cD3, cE3, cF3, vinT, vinN, li_clamp, iN_clamp, ↓reduceIte, if_true, if_false, iN_add1, iL_add, lI_add, iN_add, lI_mul, iL_mul, iN_mul, iN_sub, iL_sub, lI_sub, and_self, and_true, true_and, and_false, false_and, b01, b01L, z10, z10L, lc_eq, lc_lt, lc_le, lc_ge, lc_gt, ent_n, ent_i, ent_l, ent_r, ent_u, tL_n, tL_s, ap_n, ap_c, u2_s, u2_k, u2_a, u2_T1, u2_T2, u2_T3, u2_T4, u2_T5, u2_T6, u2_T7, u2_T8]
    exact k
  | d + 1, c, J, O, e, f1, f2, h => by
    have g := f1 112 (8 + c) (fun e => by omega)
    have g2 := f2 113 (8 + c) (fun e => by omega)
    have r := lp_152c (a1 := a1) K d (c + 1) (u2 J 112 c (I 112 (8 + c))) (u2 O 113 c (L 113 (8 + c))) (by omega) (fun a k z => (if_neg (fun e => z ⟨e.1, by omega⟩) : (if a = 112 ∧ k = c then I 112 (8 + c) else J a k) = J a k).trans (f1 a k z)) (fun a k z => (if_neg (fun e => z ⟨e.1, by omega⟩) : (if a = 113 ∧ k = c then L 113 (8 + c) else O a k) = O a k).trans (f2 a k z)) (fun k hk => by
      by_cases z : k = c
      · rw [z, u2_s, u2_s]
        exact ⟨rfl, rfl⟩
      · rw [u2_k z, u2_k z]
        exact h k (by omega))
    rw [n_152_10227]
    simp (maxSteps := 2000000) (disch := first | rfl | exact Nat.le_of_ble_eq_true rfl | assumption | omega) only [n_152_227, ri_ret, tk_0, tk_1, tk_2, tk_3, tk_4, tk_5, tk_6, tk_7, tk_8, tk_9, tk_10, tk_11, tk_12, tk_13, ri_iload_2, n_152_228, ric_8, n_152_230, ri_icmp_ge, tn_269, n_152_233, ri_aload_0, ri_aloadN_0, n_152_234, gf_1021113_106, n_152_237, n_152_238, n_152_239, n_152_242, n_152_244, n_152_245, ri_iadd, n_152_246, al_2, al_3, al_5, al_6, al_7, al_10, al_11, al_12, al_39, al_41, al_44, al_45, al_46, al_47, al_49, al_51, al_53, al_107, al_108, al_109, al_110, al_111, al_112, al_113, al_114, al_115, al_116, al_117, al_118, al_119, al_120, al_121, al_122, al_c, al_d, al_14, al_bk, al_52, al_x0, al_x1, al_x2, al_x3, n_152_247, as_2, as_3, as_5, as_6, as_7, as_10, as_11, as_12, as_39, as_41, as_44, as_45, as_46, as_47, as_49, as_51, as_53, as_107, as_108, as_109, as_110, as_111, as_112, as_113, as_114, as_115, as_116, as_117, as_118, as_119, as_120, as_121, as_122, as_c, as_d, n_152_248, n_152_249, gf_1031116_106, n_152_252, n_152_253, n_152_254, n_152_257, n_152_259, n_152_260, n_152_261, n_152_262, n_152_263, rin_2_1, s1_i1, s2_in, s2_io, s2_it, s1_r1, s2_rn, s2_ro, s2_rt, s1_n1, s2_nn, s2_no, s2_nt, s1_j1, s2_jn, s2_jo, s2_jt, sto1_1l, sto1_z, sto2_z0, sto2_z1, sto2_z2, s1_2, s2_2, s1_3, s2_3, s1_4, s2_4, s1_5, s2_5, s1_6, s2_6, s1_7, s2_7, s1_8, s2_8, s1_9, s2_9, s1_10, s2_10, s1_11, s2_11, s1_12, s2_12, s1_13, s2_13, s1_14, s2_14, s1_15, s2_15, tl_c, tl_n, n_152_266, ri_goto, tn_227, ite_not, cA0, cB0, cC0, cD0, cE0, cF0, cA1, cB1, cC1, cD1, cE1, cF1, cA2, cB2, cC2, cD2, cE2, cF2, cA3, cB3, cC3, cD3, cE3, cF3, vinT, vinN, li_clamp, iN_clamp, ↓reduceIte, if_true, if_false, iN_add1, iL_add, lI_add, iN_add, lI_mul, iL_mul, iN_mul, iN_sub, iL_sub, lI_sub, and_self, and_true, true_and, and_false, false_and, b01, b01L, z10, z10L, lc_eq, lc_lt, lc_le, lc_ge, lc_gt, ent_n, ent_i, ent_l, ent_r, ent_u, tL_n, tL_s, ap_n, ap_c, u2_s, u2_k, u2_a, u2_T1, u2_T2, u2_T3, u2_T4, u2_T5, u2_T6, u2_T7, u2_T8, g, g2]
    exact r
theorem md_152 {n : Nat} {b : Nat → Nat} (tm : TM I n b) (K1 : ∀ J O m D, rdA n b n 0 0 D0 = (0, m, D) → YM D I J L O → Q (some (.int (Int32.ofNat m))) (K0, J, O)) (K2 : ∀ J O s D, rdA n b n 0 0 D0 = (1, s, D) → FN2 (u2 I 106 0 0) J → FO L O → Q (some (.int (-10 - Int32.ofNat s))) (K0, J, O)) : Rn (EE N xs) 152 0 [.ref 106] [] (K0, I, L) Q := by
  have go : Rn (EE N xs) 152 10031 [.ref 106, .int 0, .int (Int32.ofNat 0)] [] (K0, u2 (u2 (u2 (u2 I 106 0 0) 106 11 (-1)) 106 7 0) 106 15 0, u2 L 106 18 1152921504606846975) Q := by
    have fb : FN2 (u2 I 106 0 0) (u2 (u2 (u2 (u2 I 106 0 0) 106 11 (-1)) 106 7 0) 106 15 0) := ((FN2.rf.w (Or.inl ⟨rfl, Or.inl (by decide)⟩)).w (Or.inl ⟨rfl, Or.inl (by decide)⟩)).w (Or.inl ⟨rfl, Or.inr rfl⟩)
    have fo : FO L (u2 L 106 18 1152921504606846975) := FO.rf.w (Or.inl ⟨rfl, rfl⟩)
    refine lp_152z (fun J f1 f2 z => ?_) 48 0 _ rfl FN2.rf (fun _ => rfl) (fun k hk => absurd hk (Nat.not_lt_zero k))
    have tj : TM J n b := by
      obtain ⟨t1, t2, t3⟩ := tm
      refine ⟨t1, (f2 6).trans t2, fun i hi => ?_⟩
      rw [f1 110 i (fun e => absurd e.1 (by decide)) (fun e => absurd e.1 (by decide)) (fun e => absurd e.1 (by decide))]
      exact t3 i hi
    simp (maxSteps := 2000000) (disch := first | rfl | exact Nat.le_of_ble_eq_true rfl | assumption | omega) only [n_152_53, ri_aload_0, ri_aloadN_0, n_152_54, ri_V, n_152_57, ri_ret, tk_0, tk_1, tk_2, tk_3, tk_4, tk_5, tk_6, tk_7, tk_8, tk_9, tk_10, tk_11, tk_12, tk_13, ent_n, ent_i, ent_l, ent_r, ent_u, tL_n, tL_s, ap_n, ap_c, b01, b01L, ite_not, z10, cA0, cB0, cC0, cD0, cE0, cF0, cA1, cB1, cC1, cD1, cE1, cF1, cA2, cB2, cC2, cD2, cE2, cF2, cA3, cB3, cC3, cD3, cE3, cF3, vinT, vinN, li_clamp, iN_clamp, ↓reduceIte, if_true, if_false, iN_add1, iL_add, lI_add, iN_add, lI_mul, iL_mul, iN_mul, iN_sub, iL_sub, lI_sub, and_self, and_true, true_and, and_false, false_and, z10L, lc_eq, lc_lt, lc_le, lc_ge, lc_gt]
    refine ic_153 (p := 0) tj (Nat.zero_le _) (f2 7) rfl (Nat.le_of_ble_eq_true rfl) (fun J2 fa pm => ?_)
    have w2 : J2 106 11 = -1 := (fa 106 11 (by decide)).trans (f2 11)
    have fn2 : FN2 (u2 I 106 0 0) J2 := (fb.tr f1).tr fa.n2
    have dm : DMd D0 J2 (u2 L 106 18 1152921504606846975) := ⟨Nat.zero_le _, (fa 106 15 (by decide)).trans (f2 15), fun k hk => absurd hk (Nat.not_lt_zero k), fun k hk => absurd hk (Nat.not_lt_zero k), by
      rw [u2_s, dark0]
      exact and_m1.symm, fun c hc => ⟨by show (0 : Nat) < 4; decide, (fa 111 _ (fun e => absurd e.1 (by decide))).trans (z c hc)⟩⟩
    have go2 : Rn (EE N xs) 152 10057 [.ref 106, .int (Int32.ofNat 0), .int (Int32.ofNat 48)] [] (K0, J2, u2 L 106 18 1152921504606846975) Q := by
      refine lp_152 (I := J2) (L := u2 L 106 18 1152921504606846975) (n := n) (b := b) (rd := rdA n b n 0 0 D0) (tj.fa fa) (fun J3 O m D a2 er f3 g3 w3 dm3 => ?_) (fun J3 O s D er f3 g3 => K2 J3 O s D er (fn2.tr f3) (fo.tr g3)) n 0 0 D0 J2 _ (Int32.ofNat 48) (by omega) (Nat.zero_le _) rfl FN2.rf FO.rf w2 pm dm
      have fn3 := fn2.tr f3
      have fo3 := fo.tr g3
      have goc : Rn (EE N xs) 152 10198 [.ref 106, .int (Int32.ofNat m), .int (Int32.ofNat 0)] [] (K0, J3, O) Q := by
        refine lp_152g (fun J4 f4 g4 => ?_) 48 0 J3 rfl (fun _ _ _ => rfl) (fun k hk => absurd hk (Nat.not_lt_zero k))
        have god : Rn (EE N xs) 152 10227 [.ref 106, .int (Int32.ofNat m), .int (Int32.ofNat 0)] [] (K0, J4, O) Q := by
          refine lp_152c (fun J5 O5 f5 g5 h5 => ?_) 8 0 J4 O rfl (fun _ _ _ => rfl) (fun _ _ _ => rfl) (fun k hk => absurd hk (Nat.not_lt_zero k))
          obtain ⟨d1, d2, d3, d4, d5, d6⟩ := dm3
          have j15 : J5 106 15 = Int32.ofNat D.1 := (f5 106 15 (by decide)).trans ((f4 106 15 (by decide)).trans d2)
          have o18 : O5 106 18 = spF 0 59 &&& (D.2.2.2.2 ^^^ (-1)) := (g5 106 18 (by decide)).trans d5
          have k := K1 (u2 (u2 (u2 (u2 (u2 J5 106 14 (Int32.ofNat D.1)) 107 0 0) 109 0 0) 109 1 0) 106 6 0) (u2 O5 106 17 (spF 0 59 &&& (D.2.2.2.2 ^^^ (-1)))) m D er ⟨⟨d1, u2_s, rfl, fun k hk => (h5 k (by omega)).1.trans ((f4 112 _ (fun e => absurd e.1 (by decide))).trans (d3 k hk).2), fun k hk => (h5 k (by omega)).2.trans (d4 k hk), u2_s, fun c hc => (f5 111 c (fun e => absurd e.1 (by decide))).trans ((g4 c hc).trans (d6 c hc).2)⟩, ⟨rfl, rfl, rfl⟩, fun a k z => ?_, fun a k z => ?_⟩
          · simp (maxSteps := 2000000) (disch := first | rfl | exact Nat.le_of_ble_eq_true rfl | assumption | omega) only [n_152_269, ri_aload_0, ri_aloadN_0, n_152_270, n_152_271, gf_1181115_106, n_152_274, pf_1221114_106, n_152_277, n_152_278, n_152_279, gf_1191118_106, n_152_282, pf_1131117_106, n_152_285, n_152_286, gf_971102_106, n_152_289, ric_0, n_152_290, n_152_291, as_2, as_3, as_5, as_6, as_7, as_10, as_11, as_12, as_39, as_41, as_44, as_45, as_46, as_47, as_49, as_51, as_53, as_107, as_108, as_109, as_110, as_111, as_112, as_113, as_114, as_115, as_116, as_117, as_118, as_119, as_120, as_121, as_122, as_c, as_d, n_152_292, n_152_293, gf_991104_106, n_152_296, n_152_297, n_152_298, n_152_299, n_152_300, n_152_303, ric_1, n_152_304, n_152_305, n_152_306, n_152_307, n_152_308, pf_1151106_106, n_152_311, ri_iload_1, n_152_312, rt_152, ite_not, cA0, cB0, cC0, cD0, cE0, cF0, cA1, cB1, cC1, cD1, cE1, cF1, cA2, cB2, cC2, cD2, cE2, cF2, cA3, cB3, cC3, cD3, cE3, cF3, vinT, vinN, li_clamp, iN_clamp, ↓reduceIte, if_true, if_false, iN_add1, iL_add, lI_add, iN_add, lI_mul, iL_mul, iN_mul, iN_sub, iL_sub, lI_sub, and_self, and_true, true_and, and_false, false_and, b01, b01L, z10, z10L, lc_eq, lc_lt, lc_le, lc_ge, lc_gt, ent_n, ent_i, ent_l, ent_r, ent_u, tL_n, tL_s, ap_n, ap_c, u2_s, u2_k, u2_a, u2_T1, u2_T2, u2_T3, u2_T4, u2_T5, u2_T6, u2_T7, u2_T8, j15, o18]
            exact k
          · rw [u2_a (by omega), u2_a (by omega), u2_a (by omega), u2_a (by omega), u2_a (by omega)]
            exact (f5 a k (fun e => by omega)).trans ((f4 a k (fun e => by omega)).trans ((fn3 a k (fun e => by omega) (fun e => by omega) (fun e => by omega)).trans (congrFun (u2_a (by omega)) k)))
          · have z2 : ¬ (a = 106 ∧ k = 17) := fun e => by omega
            exact (if_neg z2 : (if a = 106 ∧ k = 17 then spF 0 59 &&& (D.2.2.2.2 ^^^ (-1)) else O5 a k) = O5 a k).trans ((g5 a k (fun e => by omega)).trans (fo3 a k (fun e => by omega) (fun e => by omega)))
        simp (maxSteps := 2000000) (disch := first | rfl | exact Nat.le_of_ble_eq_true rfl | assumption | omega) only [n_152_225, ric_0, n_152_226, ri_istore, s1_i1, s2_in, s2_io, s2_it, s1_r1, s2_rn, s2_ro, s2_rt, s1_n1, s2_nn, s2_no, s2_nt, s1_j1, s2_jn, s2_jo, s2_jt, sto1_1l, sto1_z, sto2_z0, sto2_z1, sto2_z2, s1_2, s2_2, s1_3, s2_3, s1_4, s2_4, s1_5, s2_5, s1_6, s2_6, s1_7, s2_7, s1_8, s2_8, s1_9, s2_9, s1_10, s2_10, s1_11, s2_11, s1_12, s2_12, s1_13, s2_13, s1_14, s2_14, s1_15, s2_15, tl_c, tl_n, n_152_227, ri_ret, tk_0, tk_1, tk_2, tk_3, tk_4, tk_5, tk_6, tk_7, tk_8, tk_9, tk_10, tk_11, tk_12, tk_13, ri_iload_2, ite_not, cA0, cB0, cC0, cD0, cE0, cF0, cA1, cB1, cC1, cD1, cE1, cF1, cA2, cB2, cC2, cD2, cE2, cF2, cA3, cB3, cC3, cD3, cE3, cF3, vinT, vinN, li_clamp, iN_clamp, ↓reduceIte, if_true, if_false, iN_add1, iL_add, lI_add, iN_add, lI_mul, iL_mul, iN_mul, iN_sub, iL_sub, lI_sub, and_self, and_true, true_and, and_false, false_and, b01, b01L, z10, z10L, lc_eq, lc_lt, lc_le, lc_ge, lc_gt, ent_n, ent_i, ent_l, ent_r, ent_u, tL_n, tL_s, ap_n, ap_c]
        exact god
      simp (maxSteps := 2000000) (disch := first | rfl | exact Nat.le_of_ble_eq_true rfl | assumption | omega) only [n_152_181, ri_aload_0, ri_aloadN_0, n_152_182, ri_V, n_152_185, ri_if_ne, tn_196, n_152_188, ric_m10, n_152_190, n_152_191, gf_1161111_106, n_152_194, ri_isub, n_152_195, rt_152, n_152_196, ric_0, n_152_197, ri_istore, s1_i1, s2_in, s2_io, s2_it, s1_r1, s2_rn, s2_ro, s2_rt, s1_n1, s2_nn, s2_no, s2_nt, s1_j1, s2_jn, s2_jo, s2_jt, sto1_1l, sto1_z, sto2_z0, sto2_z1, sto2_z2, s1_2, s2_2, s1_3, s2_3, s1_4, s2_4, s1_5, s2_5, s1_6, s2_6, s1_7, s2_7, s1_8, s2_8, s1_9, s2_9, s1_10, s2_10, s1_11, s2_11, s1_12, s2_12, s1_13, s2_13, s1_14, s2_14, s1_15, s2_15, tl_c, tl_n, n_152_198, ri_ret, tk_0, tk_1, tk_2, tk_3, tk_4, tk_5, tk_6, tk_7, tk_8, tk_9, tk_10, tk_11, tk_12, tk_13, ri_iload_2, ent_n, ent_i, ent_l, ent_r, ent_u, tL_n, tL_s, ap_n, ap_c, b01, b01L, ite_not, z10, cA0, cB0, cC0, cD0, cE0, cF0, cA1, cB1, cC1, cD1, cE1, cF1, cA2, cB2, cC2, cD2, cE2, cF2, cA3, cB3, cC3, cD3, cE3, cF3, vinT, vinN, li_clamp, iN_clamp, ↓reduceIte, if_true, if_false, iN_add1, iL_add, lI_add, iN_add, lI_mul, iL_mul, iN_mul, iN_sub, iL_sub, lI_sub, and_self, and_true, true_and, and_false, false_and, z10L, lc_eq, lc_lt, lc_le, lc_ge, lc_gt, mc_157 w3]
      exact goc
    simp (maxSteps := 2000000) (disch := first | rfl | exact Nat.le_of_ble_eq_true rfl | assumption | omega) only [n_152_53, ri_aload_0, ri_aloadN_0, n_152_54, ri_V, n_152_57, ri_ret, tk_0, tk_1, tk_2, tk_3, tk_4, tk_5, tk_6, tk_7, tk_8, tk_9, tk_10, tk_11, tk_12, tk_13, ent_n, ent_i, ent_l, ent_r, ent_u, tL_n, tL_s, ap_n, ap_c, b01, b01L, ite_not, z10, cA0, cB0, cC0, cD0, cE0, cF0, cA1, cB1, cC1, cD1, cE1, cF1, cA2, cB2, cC2, cD2, cE2, cF2, cA3, cB3, cC3, cD3, cE3, cF3, vinT, vinN, li_clamp, iN_clamp, ↓reduceIte, if_true, if_false, iN_add1, iL_add, lI_add, iN_add, lI_mul, iL_mul, iN_mul, iN_sub, iL_sub, lI_sub, and_self, and_true, true_and, and_false, false_and, z10L, lc_eq, lc_lt, lc_le, lc_ge, lc_gt]
    exact go2
  simp (maxSteps := 2000000) (disch := first | rfl | exact Nat.le_of_ble_eq_true rfl | assumption | omega) only [n_152_0, ri_aload_0, ri_aloadN_0, n_152_1, ric_0, n_152_2, pf_1141100_106, n_152_5, n_152_6, ric_m1, n_152_7, pf_1161111_106, n_152_10, n_152_11, n_152_12, pf_1171107_106, n_152_15, n_152_16, ri_istore, s1_i1, s2_in, s2_io, s2_it, s1_r1, s2_rn, s2_ro, s2_rt, s1_n1, s2_nn, s2_no, s2_nt, s1_j1, s2_jn, s2_jo, s2_jt, sto1_1l, sto1_z, sto2_z0, sto2_z1, sto2_z2, s1_2, s2_2, s1_3, s2_3, s1_4, s2_4, s1_5, s2_5, s1_6, s2_6, s1_7, s2_7, s1_8, s2_8, s1_9, s2_9, s1_10, s2_10, s1_11, s2_11, s1_12, s2_12, s1_13, s2_13, s1_14, s2_14, s1_15, s2_15, tl_c, tl_n, n_152_17, n_152_18, n_152_19, pf_1181115_106, n_152_22, n_152_23, rd2_17, n_152_26, pf_1191118_106, n_152_29, n_152_30, n_152_31, ri_ret, tk_0, tk_1, tk_2, tk_3, tk_4, tk_5, tk_6, tk_7, tk_8, tk_9, tk_10, tk_11, tk_12, tk_13, ri_iload_2, ite_not, cA0, cB0, cC0, cD0, cE0, cF0, cA1, cB1, cC1, cD1, cE1, cF1, cA2, cB2, cC2, cD2, cE2, cF2, cA3, cB3, cC3, cD3, cE3, cF3, vinT, vinN, li_clamp, iN_clamp, ↓reduceIte, if_true, if_false, iN_add1, iL_add, lI_add, iN_add, lI_mul, iL_mul, iN_mul, iN_sub, iL_sub, lI_sub, and_self, and_true, true_and, and_false, false_and, b01, b01L, z10, z10L, lc_eq, lc_lt, lc_le, lc_ge, lc_gt, ent_n, ent_i, ent_l, ent_r, ent_u, tL_n, tL_s, ap_n, ap_c, u2_s, u2_k, u2_a, u2_T1, u2_T2, u2_T3, u2_T4, u2_T5, u2_T6, u2_T7, u2_T8]
  exact go
theorem op_17 (inv : Inv I L) : Op (EE N xs) 17 152 [] I L := by
  obtain ⟨⟨n, hn, t1, t2, t3⟩, ⟨nc, iy, ib, im⟩, iu, iw, ia⟩ := id inv
  have tx : TX I n (fun i => (I 110 i).toNatClampNeg) := ⟨hn, t1, fun i hi => by
    obtain ⟨c, c1, c2, c3⟩ := t3 i hi
    show (I 110 i).toNatClampNeg < 256 ∧ I 2 i &&& 255 = Int32.ofNat (I 110 i).toNatClampNeg
    rw [c3, iN_clamp (by omega)]
    exact ⟨c1, c2⟩⟩
  have tm : TM I n (fun i => (I 110 i).toNatClampNeg) := ⟨hn, t2, fun i hi => by
    obtain ⟨c, c1, c2, c3⟩ := t3 i hi
    show (I 110 i).toNatClampNeg < 256 ∧ I 110 i = Int32.ofNat (I 110 i).toNatClampNeg
    rw [c3, iN_clamp (by omega)]
    exact ⟨c1, rfl⟩⟩
  generalize (fun i => (I 110 i).toNatClampNeg) = b at tx tm
  refine op_ex (P := fun J M v => (∃ m D, rdA n b n 0 0 D0 = (0, m, D) ∧ v = Int32.ofNat m ∧ YC D I J L M) ∨ (∃ s D, rdA n b n 0 0 D0 = (1, s, D) ∧ v = -10 - Int32.ofNat s ∧ FD I J ∧ FE L M)) (fun Q K => ?_) (fun J M v p Q K => ?_)
  · exact cl_17 tx (fun J O m D er hm yc => K J O _ (Or.inl ⟨m, D, er, rfl, yc⟩)) (fun J O s D er hs fd fe => K J O _ (Or.inr ⟨s, D, er, rfl, fd, fe⟩))
  · rcases p with ⟨m, D, er, rfl, yc⟩ | ⟨s, D, er, rfl, fd, fe⟩
    · obtain ⟨⟨y1, y2, y3, y4, y5, y6, y7, y8⟩, ⟨z1, z2, z3, z4⟩, fi, fl⟩ := yc
      have tj : TM J n b := by
        obtain ⟨t1, t2, t3⟩ := tm
        refine ⟨t1, (fi 106 6 (by decide)).trans t2, fun i hi => ?_⟩
        rw [fi 110 i (by decide)]
        exact t3 i hi
      refine md_152 tj (fun J2 O m2 D2 er2 ym => ?_) (fun J2 O s D2 er2 f1 f2 => ?_)
      · rw [er] at er2
        cases er2
        obtain ⟨⟨x1, x2, x3, x4, x5, x6, x7⟩, ⟨w1, w2, w3⟩, gi, gl⟩ := ym
        refine K J2 O ⟨⟨0, Nat.zero_le _, (gi 1 2 (by decide)).trans y2, x2, fun i hi => absurd hi (Nat.not_lt_zero i)⟩, ⟨D.1, ⟨y1, (gi 9 3 (by decide)).trans y3, x3, fun k hk => ⟨D.2.1 k, (y4 k hk).1, (gi 11 k (by decide)).trans (y4 k hk).2, x4 k hk⟩, fun k hk => (x5 k hk).trans ((gl 12 k (Or.inl (by decide))).trans (y5 k hk)).symm, ?_, fun c hc => ⟨D.2.2.1 c, (y7 c hc).1, x7 c hc, fun e he => ?_⟩⟩, ⟨0, Nat.zero_le _, (gi 13 1 (by decide)).trans z1, w1, fun t ht => absurd ht (Nat.not_lt_zero t)⟩, fun i hi => Or.inl ?_⟩, ?_, ?_, ?_, ?_⟩
        · rw [x6, gl 9 4 (by decide), y6]
        · rw [gl 10 e (Or.inl (by decide))]
          exact (y7 c hc).2 e he
        · have : i = 0 ∨ i = 1 := by omega
          rcases this with e | e
          · rw [e]
            exact ⟨(gi 53 0 (by decide)).trans z3, w2⟩
          · rw [e]
            exact ⟨(gi 53 1 (by decide)).trans z4, w3⟩
        · exact iu.fr (fun a k z => by
            unfold relP at z
            simp only [Bool.or_eq_true, decide_eq_true_eq] at z
            rw [gi a k (by omega), fi a k (by omega)])
        · intro f hf hk c hc
          rw [gl 40 2 (by decide), z2, tb_zero] at hk
          cases hk
        · rw [gl 0 10 (by decide), gl 106 1 (by decide), fl 0 10 (by decide), fl 106 1 (by decide)]
          exact ia.1
        · intro e he c hc
          rw [gl 10 e (Or.inl (by decide))]
          exact y8 e he c hc
      · rw [er] at er2
        cases er2
    · have tj : TM J n b := by
        obtain ⟨t1, t2, t3⟩ := tm
        refine ⟨t1, (fd 106 6 (by decide) (by decide) (by decide) (by decide)).trans t2, fun i hi => ?_⟩
        rw [fd 110 i (fun e => absurd e.1 (by decide)) (by decide) (by decide) (by decide)]
        exact t3 i hi
      refine md_152 tj (fun J2 O m2 D2 er2 ym => ?_) (fun J2 O s2 D2 er2 f1 f2 => ?_)
      · rw [er] at er2
        cases er2
      · rw [er] at er2
        cases er2
        refine K J2 O (Inv_ag (I := J) (L := M) (fun a k z => ?_) (fun a k z => ?_) (Inv_ag (fun a k z => fd a k ?_ ?_ ?_ ?_) (fun a k z => fe a k ?_ ?_ ?_) inv))
        · have z0 : ¬ (a = 106 ∧ k = 0) := fun e => by
            rw [e.1, e.2] at z
            cases z
          refine (f1 a k ?_ ?_ ?_).trans (if_neg z0)
          · rintro ⟨e1, e2⟩
            subst e1
            unfold relI at z
            simp only [Bool.or_eq_true, Bool.and_eq_true, decide_eq_true_eq] at z
            omega
          · rintro ⟨e1, e2⟩
            subst e1
            unfold relI at z
            simp only [Bool.or_eq_true, Bool.and_eq_true, decide_eq_true_eq] at z
            omega
          · rintro ⟨e1, e2⟩
            subst e1
            unfold relI at z
            simp only [Bool.or_eq_true, Bool.and_eq_true, decide_eq_true_eq] at z
            omega
        · refine f2 a k ?_ ?_
          · rintro ⟨e1, e2⟩
            rw [e1, e2] at z
            cases z
          · rintro ⟨e1, e2⟩
            subst e1
            unfold relL at z
            simp only [Bool.or_eq_true, Bool.and_eq_true, decide_eq_true_eq] at z
            omega
        · rintro ⟨e1, e2⟩
          subst e1
          unfold relI at z
          simp only [Bool.or_eq_true, Bool.and_eq_true, decide_eq_true_eq] at z
          omega
        · rintro rfl
          cases z
        · rintro rfl
          cases z
        · rintro rfl
          cases z
        · rintro rfl
          cases z
        · rintro rfl
          cases z
        · rintro rfl
          cases z
end S97
