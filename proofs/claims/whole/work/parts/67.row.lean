/-! STORES: the k-th outing of the row, in the class -/
/-- the night of the j-th outing from here on, with r days to go -/
def rwO (ea ho : Nat) (o : Nat → Bool) (e : Nat) : Nat → Nat → Nat → Nat
  | 0, _, _ => 0
  | r + 1, x, j => if ndO ea ho o e r (x - ea) = ndO ea ho o e (r + 1) x then rwO ea ho o e r (x - ea) j else match j with
    | 0 => e - r
    | j + 1 => rwO ea ho o e r (min ho (x - ea + 12)) j
theorem ndO_step {ea ho : Nat} {o : Nat → Bool} {e r x n : Nat} (h : ndO ea ho o e (r + 1) x = some n) : ea ≤ x ∧ (ndO ea ho o e r (x - ea) = some n ∨ (¬ ndO ea ho o e r (x - ea) = some n ∧ ∃ m, n = m + 1 ∧ ndO ea ho o e r (min ho (x - ea + 12)) = some m)) := by
  unfold ndO at h
  by_cases z : x < ea
  · rw [if_pos z] at h
    cases h
  · rw [if_neg z] at h
    refine ⟨by omega, ?_⟩
    by_cases q : ndO ea ho o e r (x - ea) = some n
    · exact Or.inl q
    · refine Or.inr ⟨q, ?_⟩
      by_cases w : o (e - r) = true
      · rw [if_pos w] at h
        cases b : ndO ea ho o e r (min ho (x - ea + 12)) with
        | none =>
          rw [b] at h
          cases a : ndO ea ho o e r (x - ea) with
          | none =>
            rw [a] at h
            cases h
          | some k =>
            rw [a] at h q
            have h : some k = some n := h
            exact absurd h q
        | some m =>
          rw [b] at h
          cases a : ndO ea ho o e r (x - ea) with
          | none =>
            rw [a] at h
            have h : some (m + 1) = some n := h
            cases h
            exact ⟨m, rfl, rfl⟩
          | some k =>
            rw [a] at h q
            have h : some (min k (m + 1)) = some n := h
            have h2 : min k (m + 1) = n := Option.some.inj h
            have h3 : ¬ k = n := fun e => q (by rw [e])
            refine ⟨m, ?_, rfl⟩
            omega
      · rw [if_neg w] at h
        cases a : ndO ea ho o e r (x - ea) with
        | none =>
          rw [a] at h
          cases h
        | some k =>
          rw [a] at h q
          have h : some k = some n := h
          exact absurd h q
section S67
variable {N : Nat} {xs : Nat → Int32} {I : Nat → Nat → Int32} {L : Nat → Nat → Int64} {Q : Option Value → AH → Prop}
theorem lp_114 {d e f k ea ho : Nat} {o : Nat → Bool} (h1 : I 39 2 = Int32.ofNat ea) (h2 : I 39 3 = Int32.ofNat ho) (he : 1 ≤ ea ∧ ea ≤ 9) (hh : 1 ≤ ho ∧ ho ≤ 60) (hd2 : e ≤ 59) (hde : d ≤ e) (nr : NR I ea ho o e (e + 1 - d)) (hk : k < 100) : ∀ r x j n day gone, day + r = e + 1 → d ≤ day → x ≤ 60 → gone + j = k → ndO ea ho o e r x = some n → j < n → Rn (EE N xs) 114 10009 [.ref 48, .int (Int32.ofNat d), .int (Int32.ofNat e), .int (Int32.ofNat f), .int (Int32.ofNat k), .int (Int32.ofNat x), .int (Int32.ofNat gone), .int (Int32.ofNat day)] [] (K0, I, L) Q = Q (some (.int (Int32.ofNat (rwO ea ho o e r x j)))) (K0, I, L)
  | 0, x, j, n, day, gone, q1, q2, q3, q4, q5, q6 => by
    cases q5
    omega
  | r + 1, x, j, n, day, gone, q1, q2, q3, q4, q5, q6 => by
    have g1 := nr (r + 1) (by omega) x q3
    rw [show e + 1 - (r + 1) = day by omega, q5] at g1
    have nb := ndO_le _ _ _ q5
    obtain ⟨s1, s2⟩ := ndO_step q5
    have g2 := nr r (by omega) (x - ea) (by omega)
    rw [show e + 1 - r = day + 1 by omega] at g2
    by_cases st : ndO ea ho o e r (x - ea) = some n
    · have u : rwO ea ho o e (r + 1) x j = rwO ea ho o e r (x - ea) j := by
        conv => lhs; unfold rwO
        rw [if_pos (st.trans q5.symm)]
      have rr := lp_114 (f := f) h1 h2 he hh hd2 hde nr hk r (x - ea) j n (day + 1) gone (by omega) (by omega) (by omega) q4 st q6
      rw [u]
      rw [st] at g2
      rw [n_114_10009]
      simp (maxSteps := 2000000) (disch := first | rfl | exact Nat.le_of_ble_eq_true rfl | assumption | omega) only [n_114_0, ri_iload_3, n_114_1, ri_istore, s1_i1, s2_in, s2_io, s2_it, s1_r1, s2_rn, s2_ro, s2_rt, s1_n1, s2_nn, s2_no, s2_nt, s1_j1, s2_jn, s2_jo, s2_jt, sto1_1l, sto1_z, sto2_z0, sto2_z1, sto2_z2, s1_2, s2_2, s1_3, s2_3, s1_4, s2_4, s1_5, s2_5, s1_6, s2_6, s1_7, s2_7, s1_8, s2_8, s1_9, s2_9, s1_10, s2_10, s1_11, s2_11, s1_12, s2_12, s1_13, s2_13, s1_14, s2_14, s1_15, s2_15, tl_c, tl_n, n_114_3, ric_0, n_114_4, n_114_6, ri_iload_1, n_114_7, n_114_9, ri_ret, tk_0, tk_1, tk_2, tk_3, tk_4, tk_5, tk_6, tk_7, tk_8, tk_9, tk_10, tk_11, tk_12, tk_13, ri_iload_7, n_114_11, ri_iload_2, n_114_12, ri_icmp_gt, tn_90, n_114_15, n_114_17, ric_60, n_114_19, ri_icmp_ge, n_114_22, ri_iload_5, n_114_24, ri_aload_0, ri_aloadN_0, n_114_25, gf_310300_48, n_114_28, ric_2, n_114_29, ri_V, rc_72, n_114_32, ri_isub, n_114_33, n_114_35, n_114_36, n_114_38, ric_1, n_114_39, ri_iadd, n_114_40, ri_iload_8, n_114_42, in_112, n_114_45, n_114_46, n_114_48, n_114_50, n_114_53, ri_icmp_ne, tn_63, n_114_56, n_114_58, n_114_60, ri_goto, tn_84, n_114_63, ri_iload_6, n_114_65, ri_iload_4, n_114_67, tn_73, n_114_70, n_114_72, rt_114, n_114_73, rin_6_1, n_114_76, n_114_77, n_114_79, n_114_82, n_114_84, rin_7_1, n_114_87, tn_9, n_114_90, ric_m1, n_114_91, n_112_0, n_112_1, n_112_2, n_112_4, ri_S, rc_14, n_112_7, ri_if_eq, tn_34, n_112_10, n_112_11, n_112_12, n_112_14, n_112_17, n_112_20, n_112_21, gf_300302_48, n_112_24, n_112_25, ric_61, n_112_27, ri_imul, n_112_28, n_112_29, n_112_30, al_2, al_3, al_5, al_6, al_7, al_10, al_11, al_12, al_39, al_41, al_44, al_45, al_46, al_47, al_49, al_51, al_53, al_107, al_108, al_109, al_110, al_111, al_112, al_113, al_114, al_115, al_116, al_117, al_118, al_119, al_120, al_121, al_122, al_c, al_d, al_14, al_bk, al_52, al_x0, al_x1, al_x2, al_x3, n_112_31, tn_37, n_112_34, ric_1000, n_112_37, rt_112, ent_n, ent_i, ent_l, ent_r, ent_u, tL_n, tL_s, ap_n, ap_c, b01, b01L, ite_not, z10, cA0, cB0, cC0, cD0, cE0, cF0, cA1, cB1, cC1, cD1, cE1, cF1, cA2, cB2, cC2, cD2, cE2, cF2, cA3, cB3, cC3, cD3, cE3, cF3, vinT, vinN, li_clamp, iN_clamp, ↓reduceIte, if_true, if_false, iN_add1, iL_add, lI_add, iN_add, lI_mul, iL_mul, iN_mul, iN_sub, iL_sub, lI_sub, and_self, and_true, true_and, and_false, false_and, z10L, lc_eq, lc_lt, lc_le, lc_ge, lc_gt, h1, g1, g2, eC, rr]
    · obtain ⟨m, m1, m2⟩ := (s2.resolve_left st).2
      have ne : ¬ ndO ea ho o e r (x - ea) = ndO ea ho o e (r + 1) x := fun q => st (q.trans q5)
      have ne2 : ¬ eC (ndO ea ho o e r (x - ea)) = Int32.ofNat n := by
        intro q
        cases w : ndO ea ho o e r (x - ea) with
        | none =>
          rw [w] at q
          have q : Int32.ofNat 1000 = Int32.ofNat n := q
          have := (iN_eq (by omega) (by omega)).mp q
          omega
        | some v =>
          have := ndO_le _ _ _ w
          rw [w] at q
          have q : Int32.ofNat v = Int32.ofNat n := q
          have := (iN_eq (by omega) (by omega)).mp q
          exact st (by rw [w, this])
      have g3 : I 49 (day * 61 + x) = Int32.ofNat n := g1
      cases j with
      | zero =>
        have u : rwO ea ho o e (r + 1) x 0 = day := by
          conv => lhs; unfold rwO
          rw [if_neg ne]
          show e - r = day
          omega
        have q4 : gone = k := q4
        rw [u]
        rw [n_114_10009]
        simp (maxSteps := 2000000) (disch := first | rfl | exact Nat.le_of_ble_eq_true rfl | assumption | omega) only [n_114_0, ri_iload_3, n_114_1, ri_istore, s1_i1, s2_in, s2_io, s2_it, s1_r1, s2_rn, s2_ro, s2_rt, s1_n1, s2_nn, s2_no, s2_nt, s1_j1, s2_jn, s2_jo, s2_jt, sto1_1l, sto1_z, sto2_z0, sto2_z1, sto2_z2, s1_2, s2_2, s1_3, s2_3, s1_4, s2_4, s1_5, s2_5, s1_6, s2_6, s1_7, s2_7, s1_8, s2_8, s1_9, s2_9, s1_10, s2_10, s1_11, s2_11, s1_12, s2_12, s1_13, s2_13, s1_14, s2_14, s1_15, s2_15, tl_c, tl_n, n_114_3, ric_0, n_114_4, n_114_6, ri_iload_1, n_114_7, n_114_9, ri_ret, tk_0, tk_1, tk_2, tk_3, tk_4, tk_5, tk_6, tk_7, tk_8, tk_9, tk_10, tk_11, tk_12, tk_13, ri_iload_7, n_114_11, ri_iload_2, n_114_12, ri_icmp_gt, tn_90, n_114_15, n_114_17, ric_60, n_114_19, ri_icmp_ge, n_114_22, ri_iload_5, n_114_24, ri_aload_0, ri_aloadN_0, n_114_25, gf_310300_48, n_114_28, ric_2, n_114_29, ri_V, rc_72, n_114_32, ri_isub, n_114_33, n_114_35, n_114_36, n_114_38, ric_1, n_114_39, ri_iadd, n_114_40, ri_iload_8, n_114_42, in_112, n_114_45, n_114_46, n_114_48, n_114_50, n_114_53, ri_icmp_ne, tn_63, n_114_56, n_114_58, n_114_60, ri_goto, tn_84, n_114_63, ri_iload_6, n_114_65, ri_iload_4, n_114_67, tn_73, n_114_70, n_114_72, rt_114, n_114_73, rin_6_1, n_114_76, n_114_77, n_114_79, n_114_82, n_114_84, rin_7_1, n_114_87, tn_9, n_114_90, ric_m1, n_114_91, n_112_0, n_112_1, n_112_2, n_112_4, ri_S, rc_14, n_112_7, ri_if_eq, tn_34, n_112_10, n_112_11, n_112_12, n_112_14, n_112_17, n_112_20, n_112_21, gf_300302_48, n_112_24, n_112_25, ric_61, n_112_27, ri_imul, n_112_28, n_112_29, n_112_30, al_2, al_3, al_5, al_6, al_7, al_10, al_11, al_12, al_39, al_41, al_44, al_45, al_46, al_47, al_49, al_51, al_53, al_107, al_108, al_109, al_110, al_111, al_112, al_113, al_114, al_115, al_116, al_117, al_118, al_119, al_120, al_121, al_122, al_c, al_d, al_14, al_bk, al_52, al_x0, al_x1, al_x2, al_x3, n_112_31, tn_37, n_112_34, ric_1000, n_112_37, rt_112, ent_n, ent_i, ent_l, ent_r, ent_u, tL_n, tL_s, ap_n, ap_c, b01, b01L, ite_not, z10, cA0, cB0, cC0, cD0, cE0, cF0, cA1, cB1, cC1, cD1, cE1, cF1, cA2, cB2, cC2, cD2, cE2, cF2, cA3, cB3, cC3, cD3, cE3, cF3, vinT, vinN, li_clamp, iN_clamp, ↓reduceIte, if_true, if_false, iN_add1, iL_add, lI_add, iN_add, lI_mul, iL_mul, iN_mul, iN_sub, iL_sub, lI_sub, and_self, and_true, true_and, and_false, false_and, z10L, lc_eq, lc_lt, lc_le, lc_ge, lc_gt, h1, g3, g2, ne2, q4, eq_self]
      | succ j =>
        have u : rwO ea ho o e (r + 1) x (j + 1) = rwO ea ho o e r (min ho (x - ea + 12)) j := by
          conv => lhs; unfold rwO
          rw [if_neg ne]
        have rr := lp_114 (f := f) h1 h2 he hh hd2 hde nr hk r (min ho (x - ea + 12)) j m (day + 1) (gone + 1) (by omega) (by omega) (by omega) (by omega) m2 (by omega)
        rw [u]
        have gk : ¬ gone = k := by omega
        by_cases z : ho ≤ x - ea + 12
        · rw [Nat.min_eq_left z] at rr ⊢
          rw [n_114_10009]
          simp (maxSteps := 2000000) (disch := first | rfl | exact Nat.le_of_ble_eq_true rfl | assumption | omega) only [n_114_0, ri_iload_3, n_114_1, ri_istore, s1_i1, s2_in, s2_io, s2_it, s1_r1, s2_rn, s2_ro, s2_rt, s1_n1, s2_nn, s2_no, s2_nt, s1_j1, s2_jn, s2_jo, s2_jt, sto1_1l, sto1_z, sto2_z0, sto2_z1, sto2_z2, s1_2, s2_2, s1_3, s2_3, s1_4, s2_4, s1_5, s2_5, s1_6, s2_6, s1_7, s2_7, s1_8, s2_8, s1_9, s2_9, s1_10, s2_10, s1_11, s2_11, s1_12, s2_12, s1_13, s2_13, s1_14, s2_14, s1_15, s2_15, tl_c, tl_n, n_114_3, ric_0, n_114_4, n_114_6, ri_iload_1, n_114_7, n_114_9, ri_ret, tk_0, tk_1, tk_2, tk_3, tk_4, tk_5, tk_6, tk_7, tk_8, tk_9, tk_10, tk_11, tk_12, tk_13, ri_iload_7, n_114_11, ri_iload_2, n_114_12, ri_icmp_gt, tn_90, n_114_15, n_114_17, ric_60, n_114_19, ri_icmp_ge, n_114_22, ri_iload_5, n_114_24, ri_aload_0, ri_aloadN_0, n_114_25, gf_310300_48, n_114_28, ric_2, n_114_29, ri_V, rc_72, n_114_32, ri_isub, n_114_33, n_114_35, n_114_36, n_114_38, ric_1, n_114_39, ri_iadd, n_114_40, ri_iload_8, n_114_42, in_112, n_114_45, n_114_46, n_114_48, n_114_50, n_114_53, ri_icmp_ne, tn_63, n_114_56, n_114_58, n_114_60, ri_goto, tn_84, n_114_63, ri_iload_6, n_114_65, ri_iload_4, n_114_67, tn_73, n_114_70, n_114_72, rt_114, n_114_73, rin_6_1, n_114_76, n_114_77, n_114_79, in_113, n_114_82, n_114_84, rin_7_1, n_114_87, tn_9, n_114_90, ric_m1, n_114_91, n_112_0, n_112_1, n_112_2, n_112_4, ri_S, rc_14, n_112_7, ri_if_eq, tn_34, n_112_10, n_112_11, n_112_12, n_112_14, n_112_17, n_112_20, n_112_21, gf_300302_48, n_112_24, n_112_25, ric_61, n_112_27, ri_imul, n_112_28, n_112_29, n_112_30, al_2, al_3, al_5, al_6, al_7, al_10, al_11, al_12, al_39, al_41, al_44, al_45, al_46, al_47, al_49, al_51, al_53, al_107, al_108, al_109, al_110, al_111, al_112, al_113, al_114, al_115, al_116, al_117, al_118, al_119, al_120, al_121, al_122, al_c, al_d, al_14, al_bk, al_52, al_x0, al_x1, al_x2, al_x3, n_112_31, tn_37, n_112_34, ric_1000, n_112_37, rt_112, n_113_0, n_113_1, n_113_4, ric_3, n_113_5, n_113_8, n_113_9, ric_12, n_113_11, n_113_12, ri_min, n_113_15, rt_113, ent_n, ent_i, ent_l, ent_r, ent_u, tL_n, tL_s, ap_n, ap_c, b01, b01L, ite_not, z10, cA0, cB0, cC0, cD0, cE0, cF0, cA1, cB1, cC1, cD1, cE1, cF1, cA2, cB2, cC2, cD2, cE2, cF2, cA3, cB3, cC3, cD3, cE3, cF3, vinT, vinN, li_clamp, iN_clamp, ↓reduceIte, if_true, if_false, iN_add1, iL_add, lI_add, iN_add, lI_mul, iL_mul, iN_mul, iN_sub, iL_sub, lI_sub, and_self, and_true, true_and, and_false, false_and, z10L, lc_eq, lc_lt, lc_le, lc_ge, lc_gt, h1, h2, g3, g2, ne2, gk, rr]
        · rw [Nat.min_eq_right (by omega)] at rr ⊢
          rw [n_114_10009]
          simp (maxSteps := 2000000) (disch := first | rfl | exact Nat.le_of_ble_eq_true rfl | assumption | omega) only [n_114_0, ri_iload_3, n_114_1, ri_istore, s1_i1, s2_in, s2_io, s2_it, s1_r1, s2_rn, s2_ro, s2_rt, s1_n1, s2_nn, s2_no, s2_nt, s1_j1, s2_jn, s2_jo, s2_jt, sto1_1l, sto1_z, sto2_z0, sto2_z1, sto2_z2, s1_2, s2_2, s1_3, s2_3, s1_4, s2_4, s1_5, s2_5, s1_6, s2_6, s1_7, s2_7, s1_8, s2_8, s1_9, s2_9, s1_10, s2_10, s1_11, s2_11, s1_12, s2_12, s1_13, s2_13, s1_14, s2_14, s1_15, s2_15, tl_c, tl_n, n_114_3, ric_0, n_114_4, n_114_6, ri_iload_1, n_114_7, n_114_9, ri_ret, tk_0, tk_1, tk_2, tk_3, tk_4, tk_5, tk_6, tk_7, tk_8, tk_9, tk_10, tk_11, tk_12, tk_13, ri_iload_7, n_114_11, ri_iload_2, n_114_12, ri_icmp_gt, tn_90, n_114_15, n_114_17, ric_60, n_114_19, ri_icmp_ge, n_114_22, ri_iload_5, n_114_24, ri_aload_0, ri_aloadN_0, n_114_25, gf_310300_48, n_114_28, ric_2, n_114_29, ri_V, rc_72, n_114_32, ri_isub, n_114_33, n_114_35, n_114_36, n_114_38, ric_1, n_114_39, ri_iadd, n_114_40, ri_iload_8, n_114_42, in_112, n_114_45, n_114_46, n_114_48, n_114_50, n_114_53, ri_icmp_ne, tn_63, n_114_56, n_114_58, n_114_60, ri_goto, tn_84, n_114_63, ri_iload_6, n_114_65, ri_iload_4, n_114_67, tn_73, n_114_70, n_114_72, rt_114, n_114_73, rin_6_1, n_114_76, n_114_77, n_114_79, in_113, n_114_82, n_114_84, rin_7_1, n_114_87, tn_9, n_114_90, ric_m1, n_114_91, n_112_0, n_112_1, n_112_2, n_112_4, ri_S, rc_14, n_112_7, ri_if_eq, tn_34, n_112_10, n_112_11, n_112_12, n_112_14, n_112_17, n_112_20, n_112_21, gf_300302_48, n_112_24, n_112_25, ric_61, n_112_27, ri_imul, n_112_28, n_112_29, n_112_30, al_2, al_3, al_5, al_6, al_7, al_10, al_11, al_12, al_39, al_41, al_44, al_45, al_46, al_47, al_49, al_51, al_53, al_107, al_108, al_109, al_110, al_111, al_112, al_113, al_114, al_115, al_116, al_117, al_118, al_119, al_120, al_121, al_122, al_c, al_d, al_14, al_bk, al_52, al_x0, al_x1, al_x2, al_x3, n_112_31, tn_37, n_112_34, ric_1000, n_112_37, rt_112, n_113_0, n_113_1, n_113_4, ric_3, n_113_5, n_113_8, n_113_9, ric_12, n_113_11, n_113_12, ri_min, n_113_15, rt_113, ent_n, ent_i, ent_l, ent_r, ent_u, tL_n, tL_s, ap_n, ap_c, b01, b01L, ite_not, z10, cA0, cB0, cC0, cD0, cE0, cF0, cA1, cB1, cC1, cD1, cE1, cF1, cA2, cB2, cC2, cD2, cE2, cF2, cA3, cB3, cC3, cD3, cE3, cF3, vinT, vinN, li_clamp, iN_clamp, ↓reduceIte, if_true, if_false, iN_add1, iL_add, lI_add, iN_add, lI_mul, iL_mul, iN_mul, iN_sub, iL_sub, lI_sub, and_self, and_true, true_and, and_false, false_and, z10L, lc_eq, lc_lt, lc_le, lc_ge, lc_gt, h1, h2, g3, g2, ne2, gk, rr]
end S67
