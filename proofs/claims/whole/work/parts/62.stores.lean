/-! STORES: the nights on which he can fetch -/
def opK (I : Nat → Nat → Int32) (c k : Nat) : Bool := decide (¬ wayF (grI I) c (I 112 k).toNatClampNeg = -9) && decide (trI (grI I) c (I 112 k).toNatClampNeg 20 ≤ I 39 0)
def opN (I : Nat → Nat → Int32) (L : Nat → Nat → Int64) (c : Nat) : Nat → Int64
  | 0 => 0
  | k + 1 => if opK I c k = true then opN I L c k ||| (L 106 17 &&& (L 113 k ^^^ (-1))) else opN I L c k
section S62
variable {N : Nat} {xs : Nat → Int32} {I : Nat → Nat → Int32} {L : Nat → Nat → Int64} {Q : Option Value → AH → Prop}
theorem lp_109 (inv : Inv I L) {c nc : Nat} (hc : c < 48) (iy : InvY nc I L) (K : ∀ J M, WX I J L M → Q (some (.long (opN I L c nc))) (K0, J, M)) : ∀ d k J M, k + d = 8 → WX I J L M → Rn (EE N xs) 109 10005 [.ref 48, .int (Int32.ofNat c), .long (opN I L c (min k nc)), jk, .int (Int32.ofNat k)] [] (K0, J, M) Q
  | 0, k, J, M, e, w => by
    have e : k = 8 := e
    subst e
    have K2 := K J M w
    have mn : min 8 nc = nc := Nat.min_eq_right iy.1
    rw [mn, n_109_10005]
    simp (maxSteps := 2000000) (disch := first | rfl | exact Nat.le_of_ble_eq_true rfl | assumption | omega) only [n_109_0, rlc_0, n_109_1, ri_lstore, s1_i1, s2_in, s2_io, s2_it, s1_r1, s2_rn, s2_ro, s2_rt, s1_n1, s2_nn, s2_no, s2_nt, s1_j1, s2_jn, s2_jo, s2_jt, sto1_1l, sto1_z, sto2_z0, sto2_z1, sto2_z2, s1_2, s2_2, s1_3, s2_3, s1_4, s2_4, s1_5, s2_5, s1_6, s2_6, s1_7, s2_7, s1_8, s2_8, s1_9, s2_9, s1_10, s2_10, s1_11, s2_11, s1_12, s2_12, s1_13, s2_13, s1_14, s2_14, s1_15, s2_15, tl_c, tl_n, n_109_2, ric_0, n_109_3, ri_istore, n_109_5, ri_ret, tk_0, tk_1, tk_2, tk_3, tk_4, tk_5, tk_6, tk_7, tk_8, tk_9, tk_10, tk_11, tk_12, tk_13, ri_iload_4, n_109_7, ric_8, n_109_9, ri_icmp_ge, tn_77, n_109_12, ri_aload_0, ri_aloadN_0, n_109_13, gf_320301_48, n_109_16, ri_iload_1, n_109_17, n_109_18, gf_310300_48, n_109_21, gf_770200_8, n_109_24, n_109_26, ri_V, rc_60_9, n_109_29, ric_20, n_109_31, rc_85, n_109_34, n_109_36, ri_iload_5, n_109_38, ric_m9, n_109_40, ri_icmp_eq, tn_71, n_109_43, n_109_45, n_109_46, n_109_49, n_109_50, rc_72, n_109_53, ri_icmp_gt, n_109_56, ri_lload_2, n_109_57, n_109_58, n_109_61, n_109_64, n_109_66, rc_62_9, n_109_69, ri_lor, n_109_70, n_109_71, rin_4_1, n_109_74, ri_goto, tn_5, n_109_77, n_109_78, rt_109, ent_n, ent_i, ent_l, ent_r, ent_u, tL_n, tL_s, ap_n, ap_c, b01, b01L, ite_not, z10, cA0, cB0, cC0, cD0, cE0, cF0, cA1, cB1, cC1, cD1, cE1, cF1, cA2, cB2, cC2, cD2, cE2, cF2, cA3, cB3, cC3, cD3, cE3, cF3, vinT, vinN, li_clamp, iN_clamp, ↓reduceIte, if_true, if_false, iN_add1, iL_add, lI_add, iN_add, lI_mul, iL_mul, iN_mul, iN_sub, iL_sub, lI_sub, and_self, and_true, true_and, and_false, false_and, z10L, lc_eq, lc_lt, lc_le, lc_ge, lc_gt]
    exact K2
  | d + 1, k, J, M, e, w => by
    obtain ⟨y0, y1, y2, y3, y4, y5, y6⟩ := id iy
    have j93 : J 9 3 = Int32.ofNat nc := (w.1 9 3 (by decide)).trans y1
    obtain ⟨it, ⟨nc2, iy2, ib, im⟩, ⟨u, u1, us⟩, iw, ia⟩ := id inv
    obtain ⟨v1, v2⟩ := u1 0 (by decide)
    have nx := fun J M w => lp_109 inv hc iy K d (k + 1) J M (by omega) w
    by_cases hk : k < nc
    · obtain ⟨b, hb, w1, w2⟩ := y3 k hk
      have j11 : J 11 k = Int32.ofNat b := (w.1 11 k (by decide)).trans w1
      have m1 : min k nc = k := Nat.min_eq_left (by omega)
      have m2 : min (k + 1) nc = k + 1 := Nat.min_eq_left (by omega)
      rw [m2] at nx
      rw [m1, n_109_10005]
      simp (maxSteps := 2000000) (disch := first | rfl | exact Nat.le_of_ble_eq_true rfl | assumption | omega) only [n_109_0, rlc_0, n_109_1, ri_lstore, s1_i1, s2_in, s2_io, s2_it, s1_r1, s2_rn, s2_ro, s2_rt, s1_n1, s2_nn, s2_no, s2_nt, s1_j1, s2_jn, s2_jo, s2_jt, sto1_1l, sto1_z, sto2_z0, sto2_z1, sto2_z2, s1_2, s2_2, s1_3, s2_3, s1_4, s2_4, s1_5, s2_5, s1_6, s2_6, s1_7, s2_7, s1_8, s2_8, s1_9, s2_9, s1_10, s2_10, s1_11, s2_11, s1_12, s2_12, s1_13, s2_13, s1_14, s2_14, s1_15, s2_15, tl_c, tl_n, n_109_2, ric_0, n_109_3, ri_istore, n_109_5, ri_ret, tk_0, tk_1, tk_2, tk_3, tk_4, tk_5, tk_6, tk_7, tk_8, tk_9, tk_10, tk_11, tk_12, tk_13, ri_iload_4, n_109_7, ric_8, n_109_9, ri_icmp_ge, tn_77, n_109_12, ri_aload_0, ri_aloadN_0, n_109_13, gf_320301_48, n_109_16, ri_iload_1, n_109_17, n_109_18, gf_310300_48, n_109_21, gf_770200_8, n_109_24, n_109_26, ri_V, rc_60_9, n_109_29, ric_20, n_109_31, rc_85, n_109_34, n_109_36, ri_iload_5, n_109_38, ric_m9, n_109_40, ri_icmp_eq, tn_71, n_109_43, n_109_45, n_109_46, n_109_49, n_109_50, rc_72, n_109_53, ri_icmp_gt, n_109_56, ri_lload_2, n_109_57, n_109_58, n_109_61, n_109_64, n_109_66, rc_62_9, n_109_69, ri_lor, n_109_70, n_109_71, rin_4_1, n_109_74, ri_goto, tn_5, n_109_77, n_109_78, rt_109, ent_n, ent_i, ent_l, ent_r, ent_u, tL_n, tL_s, ap_n, ap_c, b01, b01L, ite_not, z10, cA0, cB0, cC0, cD0, cE0, cF0, cA1, cB1, cC1, cD1, cE1, cF1, cA2, cB2, cC2, cD2, cE2, cF2, cA3, cB3, cC3, cD3, cE3, cF3, vinT, vinN, li_clamp, iN_clamp, ↓reduceIte, if_true, if_false, iN_add1, iL_add, lI_add, iN_add, lI_mul, iL_mul, iN_mul, iN_sub, iL_sub, lI_sub, and_self, and_true, true_and, and_false, false_and, z10L, lc_eq, lc_lt, lc_le, lc_ge, lc_gt, j93, j11]
      refine ic_85 (l := 20) (w.inv inv) hc hb (by decide) rfl (Nat.le_of_ble_eq_true rfl) (fun J2 O w2b => ?_)
      have w3 := w.tr w2b
      rw [w.gr]
      have j39 : J2 39 0 = Int32.ofNat (u 0) := (w3.1 39 0 (by decide)).trans v1
      have hu : u 0 ≤ 99 := us.1.2
      have fe : fnC J2 O (Int32.ofNat k) = L 106 17 &&& (L 113 k ^^^ (-1)) := by
        rw [← fn_eq iy hk]
        unfold fnC
        rw [w3.1 9 3 (by decide), w3.2.1 9 4 (by decide), w3.2.1 12 _ (fun e => absurd e.1 (by decide))]
      have r := nx J2 O w3
      have ok : opK I c k = (decide (¬ wayF (grI I) c b = -9) && decide (trI (grI I) c b 20 ≤ Int32.ofNat (u 0))) := by
        unfold opK
        rw [w2, v1, iN_clamp (by omega)]
      have ob : opN I L c (k + 1) = if opK I c k = true then opN I L c k ||| (L 106 17 &&& (L 113 k ^^^ (-1))) else opN I L c k := rfl
      rcases tr_nn (fun c hc => (inv_g inv c hc).1) (l := 20) hc hb (by decide) with ⟨q1, q2⟩ | ⟨q1, t, q2, q3⟩
      · rw [ob, ok, q1, decide_eq_false (by simp), Bool.false_and, if_neg (by decide)] at r
        simp (maxSteps := 2000000) (disch := first | rfl | exact Nat.le_of_ble_eq_true rfl | assumption | omega) only [n_109_0, rlc_0, n_109_1, ri_lstore, s1_i1, s2_in, s2_io, s2_it, s1_r1, s2_rn, s2_ro, s2_rt, s1_n1, s2_nn, s2_no, s2_nt, s1_j1, s2_jn, s2_jo, s2_jt, sto1_1l, sto1_z, sto2_z0, sto2_z1, sto2_z2, s1_2, s2_2, s1_3, s2_3, s1_4, s2_4, s1_5, s2_5, s1_6, s2_6, s1_7, s2_7, s1_8, s2_8, s1_9, s2_9, s1_10, s2_10, s1_11, s2_11, s1_12, s2_12, s1_13, s2_13, s1_14, s2_14, s1_15, s2_15, tl_c, tl_n, n_109_2, ric_0, n_109_3, ri_istore, n_109_5, ri_ret, tk_0, tk_1, tk_2, tk_3, tk_4, tk_5, tk_6, tk_7, tk_8, tk_9, tk_10, tk_11, tk_12, tk_13, ri_iload_4, n_109_7, ric_8, n_109_9, ri_icmp_ge, tn_77, n_109_12, ri_aload_0, ri_aloadN_0, n_109_13, gf_320301_48, n_109_16, ri_iload_1, n_109_17, n_109_18, gf_310300_48, n_109_21, gf_770200_8, n_109_24, n_109_26, ri_V, rc_60_9, n_109_29, ric_20, n_109_31, rc_85, n_109_34, n_109_36, ri_iload_5, n_109_38, ric_m9, n_109_40, ri_icmp_eq, tn_71, n_109_43, n_109_45, n_109_46, n_109_49, n_109_50, rc_72, n_109_53, ri_icmp_gt, n_109_56, ri_lload_2, n_109_57, n_109_58, n_109_61, n_109_64, n_109_66, rc_62_9, n_109_69, ri_lor, n_109_70, n_109_71, rin_4_1, n_109_74, ri_goto, tn_5, n_109_77, n_109_78, rt_109, ent_n, ent_i, ent_l, ent_r, ent_u, tL_n, tL_s, ap_n, ap_c, b01, b01L, ite_not, z10, cA0, cB0, cC0, cD0, cE0, cF0, cA1, cB1, cC1, cD1, cE1, cF1, cA2, cB2, cC2, cD2, cE2, cF2, cA3, cB3, cC3, cD3, cE3, cF3, vinT, vinN, li_clamp, iN_clamp, ↓reduceIte, if_true, if_false, iN_add1, iL_add, lI_add, iN_add, lI_mul, iL_mul, iN_mul, iN_sub, iL_sub, lI_sub, and_self, and_true, true_and, and_false, false_and, z10L, lc_eq, lc_lt, lc_le, lc_ge, lc_gt, q2]
        exact r
      · have n9 : ¬ Int32.ofNat t = -9 := by
          rw [show (-9 : Int32) = Int32.ofNat 4294967287 from rfl]
          intro q
          have := congrArg Int32.toInt q
          rw [iN_toInt (by omega)] at this
          have e : (Int32.ofNat 4294967287).toInt = -9 := by decide
          omega
        have h0 : ¬ wayF (grI I) c b = -9 := q1
        by_cases le : t ≤ u 0
        · have okt : opK I c k = true := by
            rw [ok, q3, decide_eq_true h0, Bool.true_and, decide_eq_true_eq, iN_le (by omega) (by omega)]
            exact le
          rw [ob, if_pos okt] at r
          simp (maxSteps := 2000000) (disch := first | rfl | exact Nat.le_of_ble_eq_true rfl | assumption | omega) only [n_109_0, rlc_0, n_109_1, ri_lstore, s1_i1, s2_in, s2_io, s2_it, s1_r1, s2_rn, s2_ro, s2_rt, s1_n1, s2_nn, s2_no, s2_nt, s1_j1, s2_jn, s2_jo, s2_jt, sto1_1l, sto1_z, sto2_z0, sto2_z1, sto2_z2, s1_2, s2_2, s1_3, s2_3, s1_4, s2_4, s1_5, s2_5, s1_6, s2_6, s1_7, s2_7, s1_8, s2_8, s1_9, s2_9, s1_10, s2_10, s1_11, s2_11, s1_12, s2_12, s1_13, s2_13, s1_14, s2_14, s1_15, s2_15, tl_c, tl_n, n_109_2, ric_0, n_109_3, ri_istore, n_109_5, ri_ret, tk_0, tk_1, tk_2, tk_3, tk_4, tk_5, tk_6, tk_7, tk_8, tk_9, tk_10, tk_11, tk_12, tk_13, ri_iload_4, n_109_7, ric_8, n_109_9, ri_icmp_ge, tn_77, n_109_12, ri_aload_0, ri_aloadN_0, n_109_13, gf_320301_48, n_109_16, ri_iload_1, n_109_17, n_109_18, gf_310300_48, n_109_21, gf_770200_8, n_109_24, n_109_26, ri_V, rc_60_9, n_109_29, ric_20, n_109_31, rc_85, n_109_34, n_109_36, ri_iload_5, n_109_38, ric_m9, n_109_40, ri_icmp_eq, tn_71, n_109_43, n_109_45, n_109_46, n_109_49, n_109_50, rc_72, n_109_53, ri_icmp_gt, n_109_56, ri_lload_2, n_109_57, n_109_58, n_109_61, n_109_64, n_109_66, rc_62_9, n_109_69, ri_lor, n_109_70, n_109_71, rin_4_1, n_109_74, ri_goto, tn_5, n_109_77, n_109_78, rt_109, ent_n, ent_i, ent_l, ent_r, ent_u, tL_n, tL_s, ap_n, ap_c, b01, b01L, ite_not, z10, cA0, cB0, cC0, cD0, cE0, cF0, cA1, cB1, cC1, cD1, cE1, cF1, cA2, cB2, cC2, cD2, cE2, cF2, cA3, cB3, cC3, cD3, cE3, cF3, vinT, vinN, li_clamp, iN_clamp, ↓reduceIte, if_true, if_false, iN_add1, iL_add, lI_add, iN_add, lI_mul, iL_mul, iN_mul, iN_sub, iL_sub, lI_sub, and_self, and_true, true_and, and_false, false_and, z10L, lc_eq, lc_lt, lc_le, lc_ge, lc_gt, q3, n9, j39, fe]
          exact r
        · have okf : ¬ opK I c k = true := by
            rw [ok, q3, decide_eq_true h0, Bool.true_and, decide_eq_true_eq, iN_le (by omega) (by omega)]
            exact le
          rw [ob, if_neg okf] at r
          simp (maxSteps := 2000000) (disch := first | rfl | exact Nat.le_of_ble_eq_true rfl | assumption | omega) only [n_109_0, rlc_0, n_109_1, ri_lstore, s1_i1, s2_in, s2_io, s2_it, s1_r1, s2_rn, s2_ro, s2_rt, s1_n1, s2_nn, s2_no, s2_nt, s1_j1, s2_jn, s2_jo, s2_jt, sto1_1l, sto1_z, sto2_z0, sto2_z1, sto2_z2, s1_2, s2_2, s1_3, s2_3, s1_4, s2_4, s1_5, s2_5, s1_6, s2_6, s1_7, s2_7, s1_8, s2_8, s1_9, s2_9, s1_10, s2_10, s1_11, s2_11, s1_12, s2_12, s1_13, s2_13, s1_14, s2_14, s1_15, s2_15, tl_c, tl_n, n_109_2, ric_0, n_109_3, ri_istore, n_109_5, ri_ret, tk_0, tk_1, tk_2, tk_3, tk_4, tk_5, tk_6, tk_7, tk_8, tk_9, tk_10, tk_11, tk_12, tk_13, ri_iload_4, n_109_7, ric_8, n_109_9, ri_icmp_ge, tn_77, n_109_12, ri_aload_0, ri_aloadN_0, n_109_13, gf_320301_48, n_109_16, ri_iload_1, n_109_17, n_109_18, gf_310300_48, n_109_21, gf_770200_8, n_109_24, n_109_26, ri_V, rc_60_9, n_109_29, ric_20, n_109_31, rc_85, n_109_34, n_109_36, ri_iload_5, n_109_38, ric_m9, n_109_40, ri_icmp_eq, tn_71, n_109_43, n_109_45, n_109_46, n_109_49, n_109_50, rc_72, n_109_53, ri_icmp_gt, n_109_56, ri_lload_2, n_109_57, n_109_58, n_109_61, n_109_64, n_109_66, rc_62_9, n_109_69, ri_lor, n_109_70, n_109_71, rin_4_1, n_109_74, ri_goto, tn_5, n_109_77, n_109_78, rt_109, ent_n, ent_i, ent_l, ent_r, ent_u, tL_n, tL_s, ap_n, ap_c, b01, b01L, ite_not, z10, cA0, cB0, cC0, cD0, cE0, cF0, cA1, cB1, cC1, cD1, cE1, cF1, cA2, cB2, cC2, cD2, cE2, cF2, cA3, cB3, cC3, cD3, cE3, cF3, vinT, vinN, li_clamp, iN_clamp, ↓reduceIte, if_true, if_false, iN_add1, iL_add, lI_add, iN_add, lI_mul, iL_mul, iN_mul, iN_sub, iL_sub, lI_sub, and_self, and_true, true_and, and_false, false_and, z10L, lc_eq, lc_lt, lc_le, lc_ge, lc_gt, q3, n9, j39]
          exact r
    · have m1 : min k nc = nc := Nat.min_eq_right (by omega)
      have m2 : min (k + 1) nc = nc := Nat.min_eq_right (by omega)
      have r := nx J M w
      rw [m2] at r
      rw [m1, n_109_10005]
      simp (maxSteps := 2000000) (disch := first | rfl | exact Nat.le_of_ble_eq_true rfl | assumption | omega) only [n_109_0, rlc_0, n_109_1, ri_lstore, s1_i1, s2_in, s2_io, s2_it, s1_r1, s2_rn, s2_ro, s2_rt, s1_n1, s2_nn, s2_no, s2_nt, s1_j1, s2_jn, s2_jo, s2_jt, sto1_1l, sto1_z, sto2_z0, sto2_z1, sto2_z2, s1_2, s2_2, s1_3, s2_3, s1_4, s2_4, s1_5, s2_5, s1_6, s2_6, s1_7, s2_7, s1_8, s2_8, s1_9, s2_9, s1_10, s2_10, s1_11, s2_11, s1_12, s2_12, s1_13, s2_13, s1_14, s2_14, s1_15, s2_15, tl_c, tl_n, n_109_2, ric_0, n_109_3, ri_istore, n_109_5, ri_ret, tk_0, tk_1, tk_2, tk_3, tk_4, tk_5, tk_6, tk_7, tk_8, tk_9, tk_10, tk_11, tk_12, tk_13, ri_iload_4, n_109_7, ric_8, n_109_9, ri_icmp_ge, tn_77, n_109_12, ri_aload_0, ri_aloadN_0, n_109_13, gf_320301_48, n_109_16, ri_iload_1, n_109_17, n_109_18, gf_310300_48, n_109_21, gf_770200_8, n_109_24, n_109_26, ri_V, rc_60_9, n_109_29, ric_20, n_109_31, rc_85, n_109_34, n_109_36, ri_iload_5, n_109_38, ric_m9, n_109_40, ri_icmp_eq, tn_71, n_109_43, n_109_45, n_109_46, n_109_49, n_109_50, rc_72, n_109_53, ri_icmp_gt, n_109_56, ri_lload_2, n_109_57, n_109_58, n_109_61, n_109_64, n_109_66, rc_62_9, n_109_69, ri_lor, n_109_70, n_109_71, rin_4_1, n_109_74, ri_goto, tn_5, n_109_77, n_109_78, rt_109, ent_n, ent_i, ent_l, ent_r, ent_u, tL_n, tL_s, ap_n, ap_c, b01, b01L, ite_not, z10, cA0, cB0, cC0, cD0, cE0, cF0, cA1, cB1, cC1, cD1, cE1, cF1, cA2, cB2, cC2, cD2, cE2, cF2, cA3, cB3, cC3, cD3, cE3, cF3, vinT, vinN, li_clamp, iN_clamp, ↓reduceIte, if_true, if_false, iN_add1, iL_add, lI_add, iN_add, lI_mul, iL_mul, iN_mul, iN_sub, iL_sub, lI_sub, and_self, and_true, true_and, and_false, false_and, z10L, lc_eq, lc_lt, lc_le, lc_ge, lc_gt, j93, rc_85]
      exact r
theorem sp_109 (inv : Inv I L) {c nc : Nat} (hc : c < 48) (iy : InvY nc I L) (K : ∀ J M, WX I J L M → Q (some (.long (opN I L c nc))) (K0, J, M)) : Rn (EE N xs) 109 0 [.ref 48, .int (Int32.ofNat c)] [] (K0, I, L) Q := by
  have r := lp_109 (N := N) (xs := xs) inv hc iy K 8 0 I L rfl (WX.rf inv.2.2.2.1)
  rw [show min 0 nc = 0 from Nat.zero_min nc] at r
  simp (maxSteps := 2000000) (disch := first | rfl | exact Nat.le_of_ble_eq_true rfl | assumption | omega) only [n_109_0, rlc_0, n_109_1, ri_lstore, s1_i1, s2_in, s2_io, s2_it, s1_r1, s2_rn, s2_ro, s2_rt, s1_n1, s2_nn, s2_no, s2_nt, s1_j1, s2_jn, s2_jo, s2_jt, sto1_1l, sto1_z, sto2_z0, sto2_z1, sto2_z2, s1_2, s2_2, s1_3, s2_3, s1_4, s2_4, s1_5, s2_5, s1_6, s2_6, s1_7, s2_7, s1_8, s2_8, s1_9, s2_9, s1_10, s2_10, s1_11, s2_11, s1_12, s2_12, s1_13, s2_13, s1_14, s2_14, s1_15, s2_15, tl_c, tl_n, n_109_2, ric_0, n_109_3, ri_istore, n_109_5, ri_ret, tk_0, tk_1, tk_2, tk_3, tk_4, tk_5, tk_6, tk_7, tk_8, tk_9, tk_10, tk_11, tk_12, tk_13, ri_iload_4, n_109_7, ric_8, n_109_9, ri_icmp_ge, tn_77, n_109_12, ri_aload_0, ri_aloadN_0, n_109_13, gf_320301_48, n_109_16, ri_iload_1, n_109_17, n_109_18, gf_310300_48, n_109_21, gf_770200_8, n_109_24, n_109_26, ri_V, rc_60_9, n_109_29, ric_20, n_109_31, rc_85, n_109_34, n_109_36, ri_iload_5, n_109_38, ric_m9, n_109_40, ri_icmp_eq, tn_71, n_109_43, n_109_45, n_109_46, n_109_49, n_109_50, rc_72, n_109_53, ri_icmp_gt, n_109_56, ri_lload_2, n_109_57, n_109_58, n_109_61, n_109_64, n_109_66, rc_62_9, n_109_69, ri_lor, n_109_70, n_109_71, rin_4_1, n_109_74, ri_goto, tn_5, n_109_77, n_109_78, rt_109, ent_n, ent_i, ent_l, ent_r, ent_u, tL_n, tL_s, ap_n, ap_c, b01, b01L, ite_not, z10, cA0, cB0, cC0, cD0, cE0, cF0, cA1, cB1, cC1, cD1, cE1, cF1, cA2, cB2, cC2, cD2, cE2, cF2, cA3, cB3, cC3, cD3, cE3, cF3, vinT, vinN, li_clamp, iN_clamp, ↓reduceIte, if_true, if_false, iN_add1, iL_add, lI_add, iN_add, lI_mul, iL_mul, iN_mul, iN_sub, iL_sub, lI_sub, and_self, and_true, true_and, and_false, false_and, z10L, lc_eq, lc_lt, lc_le, lc_ge, lc_gt]
  exact r
end S62
