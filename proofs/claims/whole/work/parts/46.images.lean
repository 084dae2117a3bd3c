/-! KEEP, BACK, THEFT -/
theorem relP_n3 {p a k : Nat} (hp : p ≠ 3) (h : relP p a k = true) : ¬ (53 ≤ a ∧ a ≤ 105) ∧ a ≠ 108 ∧ a ≠ 109 ∧ ¬ (a = 106 ∧ k = 0) := by
  match p, hp, h with
  | 0, _, q => simp only [relP, Bool.or_eq_true, Bool.and_eq_true, decide_eq_true_eq] at q; omega
  | 1, _, q => simp only [relP, Bool.or_eq_true, Bool.and_eq_true, decide_eq_true_eq] at q; omega
  | 2, _, q => simp only [relP, Bool.or_eq_true, Bool.and_eq_true, decide_eq_true_eq] at q; omega
  | 3, hp, _ => exact absurd rfl hp
  | 4, _, q => simp only [relP, Bool.or_eq_true, Bool.and_eq_true, decide_eq_true_eq] at q; omega
  | 5, _, q => simp only [relP, Bool.or_eq_true, Bool.and_eq_true, decide_eq_true_eq] at q; omega
  | p + 6, _, q => cases q
theorem relP_n2 {p a k : Nat} (hp : p ≠ 2) (h : relP p a k = true) : ¬ (13 ≤ a ∧ a ≤ 38) ∧ a ≠ 107 ∧ ¬ (a = 106 ∧ k = 0) := by
  match p, hp, h with
  | 0, _, q => simp only [relP, Bool.or_eq_true, Bool.and_eq_true, decide_eq_true_eq] at q; omega
  | 1, _, q => simp only [relP, Bool.or_eq_true, Bool.and_eq_true, decide_eq_true_eq] at q; omega
  | 2, hp, _ => exact absurd rfl hp
  | 3, _, q => simp only [relP, Bool.or_eq_true, Bool.and_eq_true, decide_eq_true_eq] at q; omega
  | 4, _, q => simp only [relP, Bool.or_eq_true, Bool.and_eq_true, decide_eq_true_eq] at q; omega
  | 5, _, q => simp only [relP, Bool.or_eq_true, Bool.and_eq_true, decide_eq_true_eq] at q; omega
  | p + 6, _, q => cases q
section S46
variable {N : Nat} {xs : Nat → Int32} {I : Nat → Nat → Int32} {L : Nat → Nat → Int64} {Q : Option Value → AH → Prop}
theorem op_140 (inv : Inv I L) {a : Int32} : Op (EE N xs) 140 213 [.int a] I L := by
  obtain ⟨it, ⟨nc, iy, ib, im⟩, iu, iw, ia⟩ := id inv
  obtain ⟨nt, hnt, t1, t2, t3⟩ := id it
  obtain ⟨y0, y1, y2, y3, y4, y5, y6⟩ := id iy
  obtain ⟨h, h12, b1, b2, b3⟩ := InvB_get ib
  obtain ⟨u, u1, ⟨u2a, u2b⟩, u3q, ⟨u4a, u4b⟩, ⟨u5a, u5b⟩, u6q⟩ := id iu
  by_cases z : 0 ≤ a ∧ a ≤ 1
  · obtain ⟨i, hi, rfl⟩ := nn_of z.1 (n := 1) (by decide) z.2
    have hb := bk_or i
    refine op_im (v := Int32.ofNat h) (P := fun J M => M = L ∧ ∃ J0, cpP (bk i) 13 12 I J0 ∧ J = u2 J0 53 i 1) (fun Q K => ?_) (fun J M w Q K => ?_)
    · simp (maxSteps := 2000000) (disch := first | rfl | exact Nat.le_of_ble_eq_true rfl | assumption | omega) only [n_140_0, ri_iload_1, n_140_1, ric_0, n_140_2, ric_1, n_140_3, ri_S, rc_14, n_140_6, ri_if_eq, tn_18, n_140_9, ri_aload_0, ri_aloadN_0, n_140_10, gf_91008_0, n_140_13, n_140_14, al_2, al_3, al_5, al_6, al_7, al_10, al_11, al_12, al_39, al_41, al_44, al_45, al_46, al_47, al_49, al_51, al_53, al_107, al_108, al_109, al_110, al_111, al_112, al_113, al_114, al_115, al_116, al_117, al_118, al_119, al_120, al_121, al_122, al_c, al_d, al_14, al_bk, al_52, al_x0, al_x1, al_x2, al_x3, n_140_15, ri_ifnonnullN, ri_ifnonnullR, tn_20, n_140_18, ric_m1, n_140_19, rt_140, n_140_20, n_140_21, n_140_24, n_140_25, n_140_26, n_140_27, gf_21002_0, n_140_30, gf_360201_8, n_140_33, ri_V, n_140_36, n_140_37, gf_101009_0, n_140_40, n_140_41, n_140_42, as_2, as_3, as_5, as_6, as_7, as_10, as_11, as_12, as_39, as_41, as_44, as_45, as_46, as_47, as_49, as_51, as_53, as_107, as_108, as_109, as_110, as_111, as_112, as_113, as_114, as_115, as_116, as_117, as_118, as_119, as_120, as_121, as_122, as_c, as_d, n_140_43, n_140_44, n_140_47, n_140_50, gf_910001_13, gf_910001_b, n_140_53, ent_n, ent_i, ent_l, ent_r, ent_u, tL_n, tL_s, ap_n, ap_c, b01, b01L, ite_not, z10, cA0, cB0, cC0, cD0, cE0, cF0, cA1, cB1, cC1, cD1, cE1, cF1, cA2, cB2, cC2, cD2, cE2, cF2, cA3, cB3, cC3, cD3, cE3, cF3, vinT, vinN, li_clamp, iN_clamp, ↓reduceIte, if_true, if_false, iN_add1, iL_add, lI_add, iN_add, lI_mul, iL_mul, iN_mul, iN_sub, iL_sub, lI_sub, and_self, and_true, true_and, and_false, false_and, z10L, lc_eq, lc_lt, lc_le, lc_ge, lc_gt, u2_s, u2_k, u2_a, u2_T1, u2_T2, u2_T3, u2_T4, u2_T5, u2_T6, u2_T7, u2_T8]
      rw [RnC_141 rfl ⟨_, K0_b i⟩]
      apply sp_141_g
      intro J p
      simp only [tL_n, ap_n]
      have r1 : J 13 1 = Int32.ofNat h := (p.2.2 13 1 (by omega)).trans b1
      simp (maxSteps := 2000000) (disch := first | rfl | exact Nat.le_of_ble_eq_true rfl | assumption | omega) only [n_140_0, ri_iload_1, n_140_1, ric_0, n_140_2, ric_1, n_140_3, ri_S, rc_14, n_140_6, ri_if_eq, tn_18, n_140_9, ri_aload_0, ri_aloadN_0, n_140_10, gf_91008_0, n_140_13, n_140_14, al_2, al_3, al_5, al_6, al_7, al_10, al_11, al_12, al_39, al_41, al_44, al_45, al_46, al_47, al_49, al_51, al_53, al_107, al_108, al_109, al_110, al_111, al_112, al_113, al_114, al_115, al_116, al_117, al_118, al_119, al_120, al_121, al_122, al_c, al_d, al_14, al_bk, al_52, al_x0, al_x1, al_x2, al_x3, n_140_15, ri_ifnonnullN, ri_ifnonnullR, tn_20, n_140_18, ric_m1, n_140_19, rt_140, n_140_20, n_140_21, n_140_24, n_140_25, n_140_26, n_140_27, gf_21002_0, n_140_30, gf_360201_8, n_140_33, ri_V, n_140_36, n_140_37, gf_101009_0, n_140_40, n_140_41, n_140_42, as_2, as_3, as_5, as_6, as_7, as_10, as_11, as_12, as_39, as_41, as_44, as_45, as_46, as_47, as_49, as_51, as_53, as_107, as_108, as_109, as_110, as_111, as_112, as_113, as_114, as_115, as_116, as_117, as_118, as_119, as_120, as_121, as_122, as_c, as_d, n_140_43, n_140_44, n_140_47, n_140_50, gf_910001_13, gf_910001_b, n_140_53, ent_n, ent_i, ent_l, ent_r, ent_u, tL_n, tL_s, ap_n, ap_c, b01, b01L, ite_not, z10, cA0, cB0, cC0, cD0, cE0, cF0, cA1, cB1, cC1, cD1, cE1, cF1, cA2, cB2, cC2, cD2, cE2, cF2, cA3, cB3, cC3, cD3, cE3, cF3, vinT, vinN, li_clamp, iN_clamp, ↓reduceIte, if_true, if_false, iN_add1, iL_add, lI_add, iN_add, lI_mul, iL_mul, iN_mul, iN_sub, iL_sub, lI_sub, and_self, and_true, true_and, and_false, false_and, z10L, lc_eq, lc_lt, lc_le, lc_ge, lc_gt, u2_s, u2_k, u2_a, u2_T1, u2_T2, u2_T3, u2_T4, u2_T5, u2_T6, u2_T7, u2_T8, nar1, u2_a, r1]
      exact K _ _ ⟨rfl, J, p, rfl⟩
    · obtain ⟨rfl, J0, p, rfl⟩ := w
      obtain ⟨p1, p2, p3⟩ := p
      have r107 : ∀ x, J0 107 x = I 107 x := fun x => p3 107 x (by omega)
      simp (maxSteps := 2000000) (disch := first | rfl | exact Nat.le_of_ble_eq_true rfl | assumption | omega) only [n_213_0, ri_aload_0, ri_aloadN_0, n_213_1, ric_0, n_213_2, pf_1141100_106, n_213_5, ri_iload_1, n_213_6, n_213_7, ric_1, n_213_8, ri_S, rc_150, n_213_11, ri_if_ne, tn_16, n_213_14, ric_m1, n_213_15, rt_213, n_213_16, n_213_17, ri_istore, s1_i1, s2_in, s2_io, s2_it, s1_r1, s2_rn, s2_ro, s2_rt, s1_n1, s2_nn, s2_no, s2_nt, s1_j1, s2_jn, s2_jo, s2_jt, sto1_1l, sto1_z, sto2_z0, sto2_z1, sto2_z2, s1_2, s2_2, s1_3, s2_3, s1_4, s2_4, s1_5, s2_5, s1_6, s2_6, s1_7, s2_7, s1_8, s2_8, s1_9, s2_9, s1_10, s2_10, s1_11, s2_11, s1_12, s2_12, s1_13, s2_13, s1_14, s2_14, s1_15, s2_15, tl_c, tl_n, n_213_18, ri_ret, tk_0, tk_1, tk_2, tk_3, tk_4, tk_5, tk_6, tk_7, tk_8, tk_9, tk_10, tk_11, tk_12, tk_13, ri_iload_2, n_213_19, ric_145, n_213_22, ri_icmp_ge, tn_49, n_213_25, n_213_26, gf_981103_106, n_213_29, n_213_32, n_213_33, ri_imul, n_213_34, n_213_35, ri_iadd, n_213_36, n_213_37, gf_971102_106, n_213_40, n_213_41, al_2, al_3, al_5, al_6, al_7, al_10, al_11, al_12, al_39, al_41, al_44, al_45, al_46, al_47, al_49, al_51, al_53, al_107, al_108, al_109, al_110, al_111, al_112, al_113, al_114, al_115, al_116, al_117, al_118, al_119, al_120, al_121, al_122, al_c, al_d, al_14, al_bk, al_52, al_x0, al_x1, al_x2, al_x3, n_213_42, as_2, as_3, as_5, as_6, as_7, as_10, as_11, as_12, as_39, as_41, as_44, as_45, as_46, as_47, as_49, as_51, as_53, as_107, as_108, as_109, as_110, as_111, as_112, as_113, as_114, as_115, as_116, as_117, as_118, as_119, as_120, as_121, as_122, as_c, as_d, n_213_43, rin_2_1, n_213_46, ri_goto, tn_18, n_213_49, n_213_50, gf_991104_106, n_213_53, n_213_54, n_213_55, n_213_56, n_213_57, n_213_60, n_213_61, n_213_62, ent_n, ent_i, ent_l, ent_r, ent_u, tL_n, tL_s, ap_n, ap_c, b01, b01L, ite_not, z10, cA0, cB0, cC0, cD0, cE0, cF0, cA1, cB1, cC1, cD1, cE1, cF1, cA2, cB2, cC2, cD2, cE2, cF2, cA3, cB3, cC3, cD3, cE3, cF3, vinT, vinN, li_clamp, iN_clamp, ↓reduceIte, if_true, if_false, iN_add1, iL_add, lI_add, iN_add, lI_mul, iL_mul, iN_mul, iN_sub, iL_sub, lI_sub, and_self, and_true, true_and, and_false, false_and, z10L, lc_eq, lc_lt, lc_le, lc_ge, lc_gt, u2_s, u2_k, u2_a, u2_T1, u2_T2, u2_T3, u2_T4, u2_T5, u2_T6, u2_T7, u2_T8]
      refine lp_213 (I := u2 (u2 J0 53 i 1) 106 0 0) (by omega) 145 0 _ rfl ⟨fun j hj => by omega, fun x _ => rfl, fun a k _ => rfl⟩ (fun J2 k => ?_)
      obtain ⟨k1, k2, k3⟩ := k
      have e107 : (u2 (u2 J0 53 i 1) 106 0 0) 107 0 = Int32.ofNat h := by
        rw [u2_a (by decide), u2_a (by decide), r107]
        exact b2
      rw [e107]
      refine K _ _ ?_
      have rd : ∀ a k, a ≠ 108 → ¬ (a = 109 ∧ k = i) → ¬ (a = 106 ∧ k = 0) → ¬ (a = 53 ∧ k = i) → u2 J2 109 i 1 a k = J0 a k := by
        intro a k h1 h2 h3 h4
        show (if a = 109 ∧ k = i then 1 else J2 a k) = _
        rw [if_neg h2, k3 a k h1]
        show (if a = 106 ∧ k = 0 then 0 else (if a = 53 ∧ k = i then 1 else J0 a k)) = _
        rw [if_neg h3, if_neg h4]
      have ag : ∀ p, p ≠ 3 → Ag p I (u2 J2 109 i 1) := by
        intro p hp a k hr
        obtain ⟨n1, n2, n3, n4⟩ := relP_n3 hp hr
        rw [rd a k n2 (fun q => n3 q.1) n4 (by omega)]
        exact p3 a k (by omega)
      refine ⟨it.fr (ag 0 (by decide)), ⟨nc, iy.fr (ag 1 (by decide)) Al.rf, ib.fr (ag 2 (by decide)), fun i2 hi2 => ?_⟩, iu.fr (ag 4 (by decide)), iw.fr (ag 5 (by decide)) Al.rf, ia⟩
      by_cases y : i2 = i
      · subst y
        refine Or.inr ⟨?_, u2_s, BokR_mv ib ?_ (fun t f ht hf => ?_) (fun t f ht hf => ?_) (fun x hx => ?_)⟩
        · show (if 53 = 109 ∧ i2 = i2 then 1 else J2 53 i2) = 1
          rw [if_neg (by omega), k3 53 i2 (by decide), u2_a (by decide), u2_s]
        · rw [rd _ _ (by omega) (by omega) (by omega) (by omega)]
          exact p2
        · have := thb_lo i2 t
          show u2 J2 109 i2 1 (thd (bk i2) t) f = I (thd 13 t) f
          rw [rd _ _ (by omega) (by omega) (by omega) (by omega)]
          exact (p1 t ht).1 f hf
        · have := thb_lo i2 t
          show u2 J2 109 i2 1 (thd (bk i2) t + 1) f = I (thd 13 t + 1) f
          rw [rd _ _ (by omega) (by omega) (by omega) (by omega)]
          exact (p1 t ht).2 f hf
        · show u2 J2 109 i2 1 108 (145 * i2 + x) = I 107 x
          rw [u2_a (by decide), k1 x hx, u2_a (by decide), u2_a (by decide)]
          exact r107 x
      · have hbb : bk i = 54 ∧ bk i2 = 80 ∨ bk i = 80 ∧ bk i2 = 54 := by
          have : i = 0 ∧ i2 = 1 ∨ i = 1 ∧ i2 = 0 := by omega
          rcases this with ⟨e1, e2⟩ | ⟨e1, e2⟩
          · subst e1
            subst e2
            exact Or.inl ⟨rfl, rfl⟩
          · subst e1
            subst e2
            exact Or.inr ⟨rfl, rfl⟩
        have e53 : u2 J2 109 i 1 53 i2 = I 53 i2 := by
          rw [rd _ _ (by omega) (by omega) (by omega) (by omega)]
          exact p3 53 i2 (by omega)
        have e109 : u2 J2 109 i 1 109 i2 = I 109 i2 := by
          rw [rd _ _ (by omega) (by omega) (by omega) (by omega)]
          exact p3 109 i2 (by omega)
        rw [e53, e109]
        rcases im i2 hi2 with q | ⟨q1, q2, q3⟩
        · exact Or.inl q
        · refine Or.inr ⟨q1, q2, BokR_mv q3 ?_ (fun t f ht hf => ?_) (fun t f ht hf => ?_) (fun x hx => ?_)⟩
          · rw [rd _ _ (by omega) (by omega) (by omega) (by omega)]
            exact p3 _ _ (by omega)
          · have := thb_lo i2 t
            show u2 J2 109 i 1 (thd (bk i2) t) f = I (thd (bk i2) t) f
            rw [rd _ _ (by omega) (by omega) (by omega) (by omega)]
            exact p3 _ _ (by omega)
          · have := thb_lo i2 t
            show u2 J2 109 i 1 (thd (bk i2) t + 1) f = I (thd (bk i2) t + 1) f
            rw [rd _ _ (by omega) (by omega) (by omega) (by omega)]
            exact p3 _ _ (by omega)
          · show u2 J2 109 i 1 108 (145 * i2 + x) = I 108 (145 * i2 + x)
            rw [u2_a (by decide), k2 _ (by omega), u2_a (by decide), u2_a (by decide)]
            exact p3 108 _ (by omega)
  · apply op_of
    · intro Q
      simp (maxSteps := 2000000) (disch := first | rfl | exact Nat.le_of_ble_eq_true rfl | assumption | omega) only [n_140_0, ri_iload_1, n_140_1, ric_0, n_140_2, ric_1, n_140_3, ri_S, rc_14, n_140_6, ri_if_eq, tn_18, n_140_9, ri_aload_0, ri_aloadN_0, n_140_10, gf_91008_0, n_140_13, n_140_14, al_2, al_3, al_5, al_6, al_7, al_10, al_11, al_12, al_39, al_41, al_44, al_45, al_46, al_47, al_49, al_51, al_53, al_107, al_108, al_109, al_110, al_111, al_112, al_113, al_114, al_115, al_116, al_117, al_118, al_119, al_120, al_121, al_122, al_c, al_d, al_14, al_bk, al_52, al_x0, al_x1, al_x2, al_x3, n_140_15, ri_ifnonnullN, ri_ifnonnullR, tn_20, n_140_18, ric_m1, n_140_19, rt_140, n_140_20, n_140_21, n_140_24, n_140_25, n_140_26, n_140_27, gf_21002_0, n_140_30, gf_360201_8, n_140_33, ri_V, n_140_36, n_140_37, gf_101009_0, n_140_40, n_140_41, n_140_42, as_2, as_3, as_5, as_6, as_7, as_10, as_11, as_12, as_39, as_41, as_44, as_45, as_46, as_47, as_49, as_51, as_53, as_107, as_108, as_109, as_110, as_111, as_112, as_113, as_114, as_115, as_116, as_117, as_118, as_119, as_120, as_121, as_122, as_c, as_d, n_140_43, n_140_44, n_140_47, n_140_50, gf_910001_13, gf_910001_b, n_140_53, ent_n, ent_i, ent_l, ent_r, ent_u, tL_n, tL_s, ap_n, ap_c, b01, b01L, ite_not, z10, cA0, cB0, cC0, cD0, cE0, cF0, cA1, cB1, cC1, cD1, cE1, cF1, cA2, cB2, cC2, cD2, cE2, cF2, cA3, cB3, cC3, cD3, cE3, cF3, vinT, vinN, li_clamp, iN_clamp, ↓reduceIte, if_true, if_false, iN_add1, iL_add, lI_add, iN_add, lI_mul, iL_mul, iN_mul, iN_sub, iL_sub, lI_sub, and_self, and_true, true_and, and_false, false_and, z10L, lc_eq, lc_lt, lc_le, lc_ge, lc_gt, u2_s, u2_k, u2_a, u2_T1, u2_T2, u2_T3, u2_T4, u2_T5, u2_T6, u2_T7, u2_T8, z]
      rfl
    · intro Q
      simp (maxSteps := 2000000) (disch := first | rfl | exact Nat.le_of_ble_eq_true rfl | assumption | omega) only [n_213_0, ri_aload_0, ri_aloadN_0, n_213_1, ric_0, n_213_2, pf_1141100_106, n_213_5, ri_iload_1, n_213_6, n_213_7, ric_1, n_213_8, ri_S, rc_150, n_213_11, ri_if_ne, tn_16, n_213_14, ric_m1, n_213_15, rt_213, n_213_16, n_213_17, ri_istore, s1_i1, s2_in, s2_io, s2_it, s1_r1, s2_rn, s2_ro, s2_rt, s1_n1, s2_nn, s2_no, s2_nt, s1_j1, s2_jn, s2_jo, s2_jt, sto1_1l, sto1_z, sto2_z0, sto2_z1, sto2_z2, s1_2, s2_2, s1_3, s2_3, s1_4, s2_4, s1_5, s2_5, s1_6, s2_6, s1_7, s2_7, s1_8, s2_8, s1_9, s2_9, s1_10, s2_10, s1_11, s2_11, s1_12, s2_12, s1_13, s2_13, s1_14, s2_14, s1_15, s2_15, tl_c, tl_n, n_213_18, ri_ret, tk_0, tk_1, tk_2, tk_3, tk_4, tk_5, tk_6, tk_7, tk_8, tk_9, tk_10, tk_11, tk_12, tk_13, ri_iload_2, n_213_19, ric_145, n_213_22, ri_icmp_ge, tn_49, n_213_25, n_213_26, gf_981103_106, n_213_29, n_213_32, n_213_33, ri_imul, n_213_34, n_213_35, ri_iadd, n_213_36, n_213_37, gf_971102_106, n_213_40, n_213_41, al_2, al_3, al_5, al_6, al_7, al_10, al_11, al_12, al_39, al_41, al_44, al_45, al_46, al_47, al_49, al_51, al_53, al_107, al_108, al_109, al_110, al_111, al_112, al_113, al_114, al_115, al_116, al_117, al_118, al_119, al_120, al_121, al_122, al_c, al_d, al_14, al_bk, al_52, al_x0, al_x1, al_x2, al_x3, n_213_42, as_2, as_3, as_5, as_6, as_7, as_10, as_11, as_12, as_39, as_41, as_44, as_45, as_46, as_47, as_49, as_51, as_53, as_107, as_108, as_109, as_110, as_111, as_112, as_113, as_114, as_115, as_116, as_117, as_118, as_119, as_120, as_121, as_122, as_c, as_d, n_213_43, rin_2_1, n_213_46, ri_goto, tn_18, n_213_49, n_213_50, gf_991104_106, n_213_53, n_213_54, n_213_55, n_213_56, n_213_57, n_213_60, n_213_61, n_213_62, ent_n, ent_i, ent_l, ent_r, ent_u, tL_n, tL_s, ap_n, ap_c, b01, b01L, ite_not, z10, cA0, cB0, cC0, cD0, cE0, cF0, cA1, cB1, cC1, cD1, cE1, cF1, cA2, cB2, cC2, cD2, cE2, cF2, cA3, cB3, cC3, cD3, cE3, cF3, vinT, vinN, li_clamp, iN_clamp, ↓reduceIte, if_true, if_false, iN_add1, iL_add, lI_add, iN_add, lI_mul, iL_mul, iN_mul, iN_sub, iL_sub, lI_sub, and_self, and_true, true_and, and_false, false_and, z10L, lc_eq, lc_lt, lc_le, lc_ge, lc_gt, u2_s, u2_k, u2_a, u2_T1, u2_T2, u2_T3, u2_T4, u2_T5, u2_T6, u2_T7, u2_T8, z]
      rfl
    · exact thr_ok inv
theorem op_143 (inv : Inv I L) {a : Int32} : Op (EE N xs) 143 214 [.int a] I L := by
  obtain ⟨it, ⟨nc, iy, ib, im⟩, iu, iw, ia⟩ := id inv
  obtain ⟨nt, hnt, t1, t2, t3⟩ := id it
  obtain ⟨y0, y1, y2, y3, y4, y5, y6⟩ := id iy
  obtain ⟨h, h12, b1, b2, b3⟩ := InvB_get ib
  obtain ⟨u, u1, ⟨u2a, u2b⟩, u3q, ⟨u4a, u4b⟩, ⟨u5a, u5b⟩, u6q⟩ := id iu
  by_cases z : 0 ≤ a ∧ a ≤ 1
  · obtain ⟨i, hi, rfl⟩ := nn_of z.1 (n := 1) (by decide) z.2
    have hb := bk_or i
    rcases im i (by omega) with ⟨q1, q2⟩ | ⟨q1, q2, q3⟩
    · apply op_of
      · intro Q
        simp (maxSteps := 2000000) (disch := first | rfl | exact Nat.le_of_ble_eq_true rfl | assumption | omega) only [n_143_0, ri_iload_1, n_143_1, ric_0, n_143_2, ric_1, n_143_3, ri_S, rc_14, n_143_6, ri_if_eq, tn_18, n_143_9, ri_aload_0, ri_aloadN_0, n_143_10, gf_91008_0, n_143_13, n_143_14, al_2, al_3, al_5, al_6, al_7, al_10, al_11, al_12, al_39, al_41, al_44, al_45, al_46, al_47, al_49, al_51, al_53, al_107, al_108, al_109, al_110, al_111, al_112, al_113, al_114, al_115, al_116, al_117, al_118, al_119, al_120, al_121, al_122, al_c, al_d, al_14, al_bk, al_52, al_x0, al_x1, al_x2, al_x3, n_143_15, ri_ifnonnullN, ri_ifnonnullR, tn_20, n_143_18, ric_m1, n_143_19, rt_143, n_143_20, n_143_21, gf_101009_0, n_143_24, n_143_25, n_143_26, ri_if_ne, tn_32, n_143_29, ric_m2, n_143_31, n_143_32, n_143_33, gf_21002_0, n_143_36, gf_360201_8, n_143_39, n_143_40, n_143_43, n_143_44, n_143_45, ri_V, n_143_48, n_143_49, n_143_52, n_143_55, gf_910001_13, gf_910001_b, n_143_58, ent_n, ent_i, ent_l, ent_r, ent_u, tL_n, tL_s, ap_n, ap_c, b01, b01L, ite_not, z10, cA0, cB0, cC0, cD0, cE0, cF0, cA1, cB1, cC1, cD1, cE1, cF1, cA2, cB2, cC2, cD2, cE2, cF2, cA3, cB3, cC3, cD3, cE3, cF3, vinT, vinN, li_clamp, iN_clamp, ↓reduceIte, if_true, if_false, iN_add1, iL_add, lI_add, iN_add, lI_mul, iL_mul, iN_mul, iN_sub, iL_sub, lI_sub, and_self, and_true, true_and, and_false, false_and, z10L, lc_eq, lc_lt, lc_le, lc_ge, lc_gt, q1]
        rfl
      · intro Q
        simp (maxSteps := 2000000) (disch := first | rfl | exact Nat.le_of_ble_eq_true rfl | assumption | omega) only [n_214_0, ri_aload_0, ri_aloadN_0, n_214_1, ric_0, n_214_2, pf_1141100_106, n_214_5, ri_iload_1, n_214_6, n_214_7, ric_1, n_214_8, ri_S, rc_150, n_214_11, ri_if_ne, tn_16, n_214_14, ric_m1, n_214_15, rt_214, n_214_16, n_214_17, gf_991104_106, n_214_20, n_214_21, al_2, al_3, al_5, al_6, al_7, al_10, al_11, al_12, al_39, al_41, al_44, al_45, al_46, al_47, al_49, al_51, al_53, al_107, al_108, al_109, al_110, al_111, al_112, al_113, al_114, al_115, al_116, al_117, al_118, al_119, al_120, al_121, al_122, al_c, al_d, al_14, al_bk, al_52, al_x0, al_x1, al_x2, al_x3, n_214_22, tn_28, n_214_25, ric_m2, n_214_27, n_214_28, n_214_29, ri_istore, s1_i1, s2_in, s2_io, s2_it, s1_r1, s2_rn, s2_ro, s2_rt, s1_n1, s2_nn, s2_no, s2_nt, s1_j1, s2_jn, s2_jo, s2_jt, sto1_1l, sto1_z, sto2_z0, sto2_z1, sto2_z2, s1_2, s2_2, s1_3, s2_3, s1_4, s2_4, s1_5, s2_5, s1_6, s2_6, s1_7, s2_7, s1_8, s2_8, s1_9, s2_9, s1_10, s2_10, s1_11, s2_11, s1_12, s2_12, s1_13, s2_13, s1_14, s2_14, s1_15, s2_15, tl_c, tl_n, n_214_30, ri_ret, tk_0, tk_1, tk_2, tk_3, tk_4, tk_5, tk_6, tk_7, tk_8, tk_9, tk_10, tk_11, tk_12, tk_13, ri_iload_2, n_214_31, ric_145, n_214_34, ri_icmp_ge, tn_61, n_214_37, n_214_38, gf_971102_106, n_214_41, n_214_42, n_214_43, gf_981103_106, n_214_46, n_214_49, n_214_50, ri_imul, n_214_51, n_214_52, ri_iadd, n_214_53, n_214_54, as_2, as_3, as_5, as_6, as_7, as_10, as_11, as_12, as_39, as_41, as_44, as_45, as_46, as_47, as_49, as_51, as_53, as_107, as_108, as_109, as_110, as_111, as_112, as_113, as_114, as_115, as_116, as_117, as_118, as_119, as_120, as_121, as_122, as_c, as_d, n_214_55, rin_2_1, n_214_58, ri_goto, tn_30, n_214_61, n_214_62, n_214_65, n_214_66, n_214_67, ent_n, ent_i, ent_l, ent_r, ent_u, tL_n, tL_s, ap_n, ap_c, b01, b01L, ite_not, z10, cA0, cB0, cC0, cD0, cE0, cF0, cA1, cB1, cC1, cD1, cE1, cF1, cA2, cB2, cC2, cD2, cE2, cF2, cA3, cB3, cC3, cD3, cE3, cF3, vinT, vinN, li_clamp, iN_clamp, ↓reduceIte, if_true, if_false, iN_add1, iL_add, lI_add, iN_add, lI_mul, iL_mul, iN_mul, iN_sub, iL_sub, lI_sub, and_self, and_true, true_and, and_false, false_and, z10L, lc_eq, lc_lt, lc_le, lc_ge, lc_gt, u2_s, u2_k, u2_a, u2_T1, u2_T2, u2_T3, u2_T4, u2_T5, u2_T6, u2_T7, u2_T8, q2]
        rfl
      · exact thr_ok inv
    · obtain ⟨h2, h212, d1, d2, -⟩ := id q3
      refine op_im (v := Int32.ofNat h2) (P := fun J M => M = L ∧ cpP 13 (bk i) 12 I J) (fun Q K => ?_) (fun J M w Q K => ?_)
      · simp (maxSteps := 2000000) (disch := first | rfl | exact Nat.le_of_ble_eq_true rfl | assumption | omega) only [n_143_0, ri_iload_1, n_143_1, ric_0, n_143_2, ric_1, n_143_3, ri_S, rc_14, n_143_6, ri_if_eq, tn_18, n_143_9, ri_aload_0, ri_aloadN_0, n_143_10, gf_91008_0, n_143_13, n_143_14, al_2, al_3, al_5, al_6, al_7, al_10, al_11, al_12, al_39, al_41, al_44, al_45, al_46, al_47, al_49, al_51, al_53, al_107, al_108, al_109, al_110, al_111, al_112, al_113, al_114, al_115, al_116, al_117, al_118, al_119, al_120, al_121, al_122, al_c, al_d, al_14, al_bk, al_52, al_x0, al_x1, al_x2, al_x3, n_143_15, ri_ifnonnullN, ri_ifnonnullR, tn_20, n_143_18, ric_m1, n_143_19, rt_143, n_143_20, n_143_21, gf_101009_0, n_143_24, n_143_25, n_143_26, ri_if_ne, tn_32, n_143_29, ric_m2, n_143_31, n_143_32, n_143_33, gf_21002_0, n_143_36, gf_360201_8, n_143_39, n_143_40, n_143_43, n_143_44, n_143_45, ri_V, n_143_48, n_143_49, n_143_52, n_143_55, gf_910001_13, gf_910001_b, n_143_58, ent_n, ent_i, ent_l, ent_r, ent_u, tL_n, tL_s, ap_n, ap_c, b01, b01L, ite_not, z10, cA0, cB0, cC0, cD0, cE0, cF0, cA1, cB1, cC1, cD1, cE1, cF1, cA2, cB2, cC2, cD2, cE2, cF2, cA3, cB3, cC3, cD3, cE3, cF3, vinT, vinN, li_clamp, iN_clamp, ↓reduceIte, if_true, if_false, iN_add1, iL_add, lI_add, iN_add, lI_mul, iL_mul, iN_mul, iN_sub, iL_sub, lI_sub, and_self, and_true, true_and, and_false, false_and, z10L, lc_eq, lc_lt, lc_le, lc_ge, lc_gt, q1]
        rw [RnC_141 rfl ⟨_, rfl⟩]
        apply sp_141_f
        intro J p
        simp only [tL_n, ap_n]
        have r1 : J 13 1 = Int32.ofNat h2 := p.2.1.trans d1
        simp (maxSteps := 2000000) (disch := first | rfl | exact Nat.le_of_ble_eq_true rfl | assumption | omega) only [n_143_0, ri_iload_1, n_143_1, ric_0, n_143_2, ric_1, n_143_3, ri_S, rc_14, n_143_6, ri_if_eq, tn_18, n_143_9, ri_aload_0, ri_aloadN_0, n_143_10, gf_91008_0, n_143_13, n_143_14, al_2, al_3, al_5, al_6, al_7, al_10, al_11, al_12, al_39, al_41, al_44, al_45, al_46, al_47, al_49, al_51, al_53, al_107, al_108, al_109, al_110, al_111, al_112, al_113, al_114, al_115, al_116, al_117, al_118, al_119, al_120, al_121, al_122, al_c, al_d, al_14, al_bk, al_52, al_x0, al_x1, al_x2, al_x3, n_143_15, ri_ifnonnullN, ri_ifnonnullR, tn_20, n_143_18, ric_m1, n_143_19, rt_143, n_143_20, n_143_21, gf_101009_0, n_143_24, n_143_25, n_143_26, ri_if_ne, tn_32, n_143_29, ric_m2, n_143_31, n_143_32, n_143_33, gf_21002_0, n_143_36, gf_360201_8, n_143_39, n_143_40, n_143_43, n_143_44, n_143_45, ri_V, n_143_48, n_143_49, n_143_52, n_143_55, gf_910001_13, gf_910001_b, n_143_58, ent_n, ent_i, ent_l, ent_r, ent_u, tL_n, tL_s, ap_n, ap_c, b01, b01L, ite_not, z10, cA0, cB0, cC0, cD0, cE0, cF0, cA1, cB1, cC1, cD1, cE1, cF1, cA2, cB2, cC2, cD2, cE2, cF2, cA3, cB3, cC3, cD3, cE3, cF3, vinT, vinN, li_clamp, iN_clamp, ↓reduceIte, if_true, if_false, iN_add1, iL_add, lI_add, iN_add, lI_mul, iL_mul, iN_mul, iN_sub, iL_sub, lI_sub, and_self, and_true, true_and, and_false, false_and, z10L, lc_eq, lc_lt, lc_le, lc_ge, lc_gt, r1]
        exact K _ _ ⟨rfl, p⟩
      · obtain ⟨rfl, p1, p2, p3⟩ := w
        have r109 : J 109 i = 1 := (p3 109 i (by omega)).trans q2
        simp (maxSteps := 2000000) (disch := first | rfl | exact Nat.le_of_ble_eq_true rfl | assumption | omega) only [n_214_0, ri_aload_0, ri_aloadN_0, n_214_1, ric_0, n_214_2, pf_1141100_106, n_214_5, ri_iload_1, n_214_6, n_214_7, ric_1, n_214_8, ri_S, rc_150, n_214_11, ri_if_ne, tn_16, n_214_14, ric_m1, n_214_15, rt_214, n_214_16, n_214_17, gf_991104_106, n_214_20, n_214_21, al_2, al_3, al_5, al_6, al_7, al_10, al_11, al_12, al_39, al_41, al_44, al_45, al_46, al_47, al_49, al_51, al_53, al_107, al_108, al_109, al_110, al_111, al_112, al_113, al_114, al_115, al_116, al_117, al_118, al_119, al_120, al_121, al_122, al_c, al_d, al_14, al_bk, al_52, al_x0, al_x1, al_x2, al_x3, n_214_22, tn_28, n_214_25, ric_m2, n_214_27, n_214_28, n_214_29, ri_istore, s1_i1, s2_in, s2_io, s2_it, s1_r1, s2_rn, s2_ro, s2_rt, s1_n1, s2_nn, s2_no, s2_nt, s1_j1, s2_jn, s2_jo, s2_jt, sto1_1l, sto1_z, sto2_z0, sto2_z1, sto2_z2, s1_2, s2_2, s1_3, s2_3, s1_4, s2_4, s1_5, s2_5, s1_6, s2_6, s1_7, s2_7, s1_8, s2_8, s1_9, s2_9, s1_10, s2_10, s1_11, s2_11, s1_12, s2_12, s1_13, s2_13, s1_14, s2_14, s1_15, s2_15, tl_c, tl_n, n_214_30, ri_ret, tk_0, tk_1, tk_2, tk_3, tk_4, tk_5, tk_6, tk_7, tk_8, tk_9, tk_10, tk_11, tk_12, tk_13, ri_iload_2, n_214_31, ric_145, n_214_34, ri_icmp_ge, tn_61, n_214_37, n_214_38, gf_971102_106, n_214_41, n_214_42, n_214_43, gf_981103_106, n_214_46, n_214_49, n_214_50, ri_imul, n_214_51, n_214_52, ri_iadd, n_214_53, n_214_54, as_2, as_3, as_5, as_6, as_7, as_10, as_11, as_12, as_39, as_41, as_44, as_45, as_46, as_47, as_49, as_51, as_53, as_107, as_108, as_109, as_110, as_111, as_112, as_113, as_114, as_115, as_116, as_117, as_118, as_119, as_120, as_121, as_122, as_c, as_d, n_214_55, rin_2_1, n_214_58, ri_goto, tn_30, n_214_61, n_214_62, n_214_65, n_214_66, n_214_67, ent_n, ent_i, ent_l, ent_r, ent_u, tL_n, tL_s, ap_n, ap_c, b01, b01L, ite_not, z10, cA0, cB0, cC0, cD0, cE0, cF0, cA1, cB1, cC1, cD1, cE1, cF1, cA2, cB2, cC2, cD2, cE2, cF2, cA3, cB3, cC3, cD3, cE3, cF3, vinT, vinN, li_clamp, iN_clamp, ↓reduceIte, if_true, if_false, iN_add1, iL_add, lI_add, iN_add, lI_mul, iL_mul, iN_mul, iN_sub, iL_sub, lI_sub, and_self, and_true, true_and, and_false, false_and, z10L, lc_eq, lc_lt, lc_le, lc_ge, lc_gt, u2_s, u2_k, u2_a, u2_T1, u2_T2, u2_T3, u2_T4, u2_T5, u2_T6, u2_T7, u2_T8, r109]
        refine lp_214 (I := u2 J 106 0 0) (by omega) 145 0 _ rfl ⟨fun j hj => by omega, fun a k _ => rfl⟩ (fun J2 k => ?_)
        obtain ⟨k1, k2⟩ := k
        have s1 : ∀ x, x < 145 → J2 107 x = I 108 (145 * i + x) := by
          intro x hx
          rw [k1 x hx, u2_a (by decide)]
          exact p3 108 _ (by omega)
        have e107 : J2 107 0 = Int32.ofNat h2 := (s1 0 (by decide)).trans d2
        rw [e107]
        refine K _ _ ?_
        have rd : ∀ a k, a ≠ 107 → ¬ (a = 106 ∧ k = 0) → J2 a k = J a k := by
          intro a k h1 h3
          rw [k2 a k h1]
          show (if a = 106 ∧ k = 0 then 0 else J a k) = _
          rw [if_neg h3]
        have ag : ∀ p, p ≠ 2 → Ag p I J2 := by
          intro p hp a k hr
          obtain ⟨n1, n2, n4⟩ := relP_n2 hp hr
          rw [rd a k n2 n4]
          exact p3 a k (by omega)
        refine ⟨it.fr (ag 0 (by decide)), ⟨nc, iy.fr (ag 1 (by decide)) Al.rf, BokR_mv q3 ?_ (fun t f ht hf => ?_) (fun t f ht hf => ?_) (fun x hx => s1 x hx), im.fr (ag 3 (by decide))⟩, iu.fr (ag 4 (by decide)), iw.fr (ag 5 (by decide)) Al.rf, ia⟩
        · rw [rd _ _ (by omega) (by omega)]
          exact p2
        · have := thd_lo t
          show J2 (thd 13 t) f = I (thd (bk i) t) f
          rw [rd _ _ (by omega) (by omega)]
          exact (p1 t ht).1 f hf
        · have := thd_lo t
          show J2 (thd 13 t + 1) f = I (thd (bk i) t + 1) f
          rw [rd _ _ (by omega) (by omega)]
          exact (p1 t ht).2 f hf
  · apply op_of
    · intro Q
      simp (maxSteps := 2000000) (disch := first | rfl | exact Nat.le_of_ble_eq_true rfl | assumption | omega) only [n_143_0, ri_iload_1, n_143_1, ric_0, n_143_2, ric_1, n_143_3, ri_S, rc_14, n_143_6, ri_if_eq, tn_18, n_143_9, ri_aload_0, ri_aloadN_0, n_143_10, gf_91008_0, n_143_13, n_143_14, al_2, al_3, al_5, al_6, al_7, al_10, al_11, al_12, al_39, al_41, al_44, al_45, al_46, al_47, al_49, al_51, al_53, al_107, al_108, al_109, al_110, al_111, al_112, al_113, al_114, al_115, al_116, al_117, al_118, al_119, al_120, al_121, al_122, al_c, al_d, al_14, al_bk, al_52, al_x0, al_x1, al_x2, al_x3, n_143_15, ri_ifnonnullN, ri_ifnonnullR, tn_20, n_143_18, ric_m1, n_143_19, rt_143, n_143_20, n_143_21, gf_101009_0, n_143_24, n_143_25, n_143_26, ri_if_ne, tn_32, n_143_29, ric_m2, n_143_31, n_143_32, n_143_33, gf_21002_0, n_143_36, gf_360201_8, n_143_39, n_143_40, n_143_43, n_143_44, n_143_45, ri_V, n_143_48, n_143_49, n_143_52, n_143_55, gf_910001_13, gf_910001_b, n_143_58, ent_n, ent_i, ent_l, ent_r, ent_u, tL_n, tL_s, ap_n, ap_c, b01, b01L, ite_not, z10, cA0, cB0, cC0, cD0, cE0, cF0, cA1, cB1, cC1, cD1, cE1, cF1, cA2, cB2, cC2, cD2, cE2, cF2, cA3, cB3, cC3, cD3, cE3, cF3, vinT, vinN, li_clamp, iN_clamp, ↓reduceIte, if_true, if_false, iN_add1, iL_add, lI_add, iN_add, lI_mul, iL_mul, iN_mul, iN_sub, iL_sub, lI_sub, and_self, and_true, true_and, and_false, false_and, z10L, lc_eq, lc_lt, lc_le, lc_ge, lc_gt, z]
      rfl
    · intro Q
      simp (maxSteps := 2000000) (disch := first | rfl | exact Nat.le_of_ble_eq_true rfl | assumption | omega) only [n_214_0, ri_aload_0, ri_aloadN_0, n_214_1, ric_0, n_214_2, pf_1141100_106, n_214_5, ri_iload_1, n_214_6, n_214_7, ric_1, n_214_8, ri_S, rc_150, n_214_11, ri_if_ne, tn_16, n_214_14, ric_m1, n_214_15, rt_214, n_214_16, n_214_17, gf_991104_106, n_214_20, n_214_21, al_2, al_3, al_5, al_6, al_7, al_10, al_11, al_12, al_39, al_41, al_44, al_45, al_46, al_47, al_49, al_51, al_53, al_107, al_108, al_109, al_110, al_111, al_112, al_113, al_114, al_115, al_116, al_117, al_118, al_119, al_120, al_121, al_122, al_c, al_d, al_14, al_bk, al_52, al_x0, al_x1, al_x2, al_x3, n_214_22, tn_28, n_214_25, ric_m2, n_214_27, n_214_28, n_214_29, ri_istore, s1_i1, s2_in, s2_io, s2_it, s1_r1, s2_rn, s2_ro, s2_rt, s1_n1, s2_nn, s2_no, s2_nt, s1_j1, s2_jn, s2_jo, s2_jt, sto1_1l, sto1_z, sto2_z0, sto2_z1, sto2_z2, s1_2, s2_2, s1_3, s2_3, s1_4, s2_4, s1_5, s2_5, s1_6, s2_6, s1_7, s2_7, s1_8, s2_8, s1_9, s2_9, s1_10, s2_10, s1_11, s2_11, s1_12, s2_12, s1_13, s2_13, s1_14, s2_14, s1_15, s2_15, tl_c, tl_n, n_214_30, ri_ret, tk_0, tk_1, tk_2, tk_3, tk_4, tk_5, tk_6, tk_7, tk_8, tk_9, tk_10, tk_11, tk_12, tk_13, ri_iload_2, n_214_31, ric_145, n_214_34, ri_icmp_ge, tn_61, n_214_37, n_214_38, gf_971102_106, n_214_41, n_214_42, n_214_43, gf_981103_106, n_214_46, n_214_49, n_214_50, ri_imul, n_214_51, n_214_52, ri_iadd, n_214_53, n_214_54, as_2, as_3, as_5, as_6, as_7, as_10, as_11, as_12, as_39, as_41, as_44, as_45, as_46, as_47, as_49, as_51, as_53, as_107, as_108, as_109, as_110, as_111, as_112, as_113, as_114, as_115, as_116, as_117, as_118, as_119, as_120, as_121, as_122, as_c, as_d, n_214_55, rin_2_1, n_214_58, ri_goto, tn_30, n_214_61, n_214_62, n_214_65, n_214_66, n_214_67, ent_n, ent_i, ent_l, ent_r, ent_u, tL_n, tL_s, ap_n, ap_c, b01, b01L, ite_not, z10, cA0, cB0, cC0, cD0, cE0, cF0, cA1, cB1, cC1, cD1, cE1, cF1, cA2, cB2, cC2, cD2, cE2, cF2, cA3, cB3, cC3, cD3, cE3, cF3, vinT, vinN, li_clamp, iN_clamp, ↓reduceIte, if_true, if_false, iN_add1, iL_add, lI_add, iN_add, lI_mul, iL_mul, iN_mul, iN_sub, iL_sub, lI_sub, and_self, and_true, true_and, and_false, false_and, z10L, lc_eq, lc_lt, lc_le, lc_ge, lc_gt, u2_s, u2_k, u2_a, u2_T1, u2_T2, u2_T3, u2_T4, u2_T5, u2_T6, u2_T7, u2_T8, z]
      rfl
    · exact thr_ok inv
end S46
