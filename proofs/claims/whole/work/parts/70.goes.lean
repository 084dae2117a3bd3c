/-! STORES: the model's nights, and its row -/
theorem or_z {x : Int64} : x ||| 0 = x := by
  apply tb_ext
  intro i hi
  rw [tb_or, tb_zero, Bool.or_false]
def FR (I J : Nat → Nat → Int32) : Prop := ∀ x y, x ≠ 115 → x ≠ 116 → J x y = I x y
def HM (L M : Nat → Nat → Int64) (v : Int64) : Prop := M 106 27 = v ∧ ∀ x k, ¬ (x = 106 ∧ k = 27) → M x k = L x k
theorem HM.inv {I J : Nat → Nat → Int32} {L M : Nat → Nat → Int64} {v : Int64} (hm : HM L M v) (inv : Inv I L) (fr : FR I J) : Inv J M := Inv_ag AgI.rf (fun a k z => hm.2 a k (fun e => by
  rw [e.1, e.2, show relL 106 27 = false from rfl] at z
  cases z)) (inv_far inv fr)
section S70
variable {N : Nat} {xs : Nat → Int32} {I : Nat → Nat → Int32} {L : Nat → Nat → Int64} {Q : Option Value → AH → Prop}
theorem lp_197n (inv : Inv I L) {c nc : Nat} (hc : c < 48) (iy : InvY nc I L) {a2 a3 a4 a5 : Int32} (K : ∀ J M, FR I J → HM L M (opN I L c nc) → Rn (EE N xs) 197 112 [.ref 106, .int (Int32.ofNat c), .int a2, .int a3, .int a4, .int a5, .int (Int32.ofNat nc)] [] (K0, J, M) Q) : ∀ m k J M, k + m = nc → FR I J → HM L M (opN I L c k) → Rn (EE N xs) 197 10060 [.ref 106, .int (Int32.ofNat c), .int a2, .int a3, .int a4, .int a5, .int (Int32.ofNat k)] [] (K0, J, M) Q
  | 0, k, J, M, q, fr, hm => by
    have q : k = nc := q
    subst q
    obtain ⟨y0, y1, y2, y3, y4, y5, y6⟩ := id iy
    have j14 : J 106 14 = Int32.ofNat k := (fr 106 14 (by decide) (by decide)).trans y2
    have K2 := K J M fr hm
    rw [n_197_10060]
    simp (maxSteps := 2000000) (disch := first | rfl | exact Nat.le_of_ble_eq_true rfl | assumption | omega) only [n_197_57, ric_0, n_197_58, ri_istore, s1_i1, s2_in, s2_io, s2_it, s1_r1, s2_rn, s2_ro, s2_rt, s1_n1, s2_nn, s2_no, s2_nt, s1_j1, s2_jn, s2_jo, s2_jt, sto1_1l, sto1_z, sto2_z0, sto2_z1, sto2_z2, s1_2, s2_2, s1_3, s2_3, s1_4, s2_4, s1_5, s2_5, s1_6, s2_6, s1_7, s2_7, s1_8, s2_8, s1_9, s2_9, s1_10, s2_10, s1_11, s2_11, s1_12, s2_12, s1_13, s2_13, s1_14, s2_14, s1_15, s2_15, tl_c, tl_n, n_197_60, ri_ret, tk_0, tk_1, tk_2, tk_3, tk_4, tk_5, tk_6, tk_7, tk_8, tk_9, tk_10, tk_11, tk_12, tk_13, ri_iload_6, n_197_62, ri_aload_0, ri_aloadN_0, n_197_63, gf_1221114_106, n_197_66, ri_icmp_ge, tn_112, n_197_69, n_197_70, ri_dupI, ri_dupR, ri_dupN, n_197_71, gf_1241127_106, n_197_74, n_197_75, ri_iload_1, n_197_76, n_197_78, ric_20, n_197_80, ri_V, n_197_83, n_197_84, gf_1041119_106, n_197_87, n_197_88, al_2, al_3, al_5, al_6, al_7, al_10, al_11, al_12, al_39, al_41, al_44, al_45, al_46, al_47, al_49, al_51, al_53, al_107, al_108, al_109, al_110, al_111, al_112, al_113, al_114, al_115, al_116, al_117, al_118, al_119, al_120, al_121, al_122, al_c, al_d, al_14, al_bk, al_52, al_x0, al_x1, al_x2, al_x3, n_197_89, ri_icmp_gt, tn_101, n_197_92, n_197_93, n_197_95, rc_170, n_197_98, ri_goto, tn_102, n_197_101, rlc_0, n_197_102, ri_lor, n_197_103, pf_1241127_106, n_197_106, rin_6_1, n_197_109, tn_60, ent_n, ent_i, ent_l, ent_r, ent_u, tL_n, tL_s, ap_n, ap_c, b01, b01L, ite_not, z10, cA0, cB0, cC0, cD0, cE0, cF0, cA1, cB1, cC1, cD1, cE1, cF1, cA2, cB2, cC2, cD2, cE2, cF2, cA3, cB3, cC3, cD3, cE3, cF3, vinT, vinN, li_clamp, iN_clamp, ↓reduceIte, if_true, if_false, iN_add1, iL_add, lI_add, iN_add, lI_mul, iL_mul, iN_mul, iN_sub, iL_sub, lI_sub, and_self, and_true, true_and, and_false, false_and, z10L, lc_eq, lc_lt, lc_le, lc_ge, lc_gt, u2_s, u2_k, u2_a, u2_T1, u2_T2, u2_T3, u2_T4, u2_T5, u2_T6, u2_T7, u2_T8, j14]
    exact K2
  | m + 1, k, J, M, q, fr, hm => by
    have hk : k < nc := by omega
    obtain ⟨it, ⟨nc2, iy2, ib, im⟩, ⟨u, u1, us⟩, iw, ia⟩ := id inv
    obtain ⟨v1, v2⟩ := u1 0 (by decide)
    obtain ⟨y0, y1, y2, y3, y4, y5, y6⟩ := id iy
    obtain ⟨b, hb, w1, w2⟩ := y3 k hk
    have hu : u 0 ≤ 99 := us.1.2
    have j14 : J 106 14 = Int32.ofNat nc := (fr 106 14 (by decide) (by decide)).trans y2
    have iJ := hm.inv inv fr
    have cJ : J 112 k = Int32.ofNat b := (fr 112 k (by decide) (by decide)).trans w2
    have gJ : grI J = grI I := by
      funext d
      unfold grI
      rw [fr 111 d (by decide) (by decide)]
    rw [n_197_10060]
    simp (maxSteps := 2000000) (disch := first | rfl | exact Nat.le_of_ble_eq_true rfl | assumption | omega) only [n_197_57, ric_0, n_197_58, ri_istore, s1_i1, s2_in, s2_io, s2_it, s1_r1, s2_rn, s2_ro, s2_rt, s1_n1, s2_nn, s2_no, s2_nt, s1_j1, s2_jn, s2_jo, s2_jt, sto1_1l, sto1_z, sto2_z0, sto2_z1, sto2_z2, s1_2, s2_2, s1_3, s2_3, s1_4, s2_4, s1_5, s2_5, s1_6, s2_6, s1_7, s2_7, s1_8, s2_8, s1_9, s2_9, s1_10, s2_10, s1_11, s2_11, s1_12, s2_12, s1_13, s2_13, s1_14, s2_14, s1_15, s2_15, tl_c, tl_n, n_197_60, ri_ret, tk_0, tk_1, tk_2, tk_3, tk_4, tk_5, tk_6, tk_7, tk_8, tk_9, tk_10, tk_11, tk_12, tk_13, ri_iload_6, n_197_62, ri_aload_0, ri_aloadN_0, n_197_63, gf_1221114_106, n_197_66, ri_icmp_ge, tn_112, n_197_69, n_197_70, ri_dupI, ri_dupR, ri_dupN, n_197_71, gf_1241127_106, n_197_74, n_197_75, ri_iload_1, n_197_76, n_197_78, ric_20, n_197_80, ri_V, n_197_83, n_197_84, gf_1041119_106, n_197_87, n_197_88, al_2, al_3, al_5, al_6, al_7, al_10, al_11, al_12, al_39, al_41, al_44, al_45, al_46, al_47, al_49, al_51, al_53, al_107, al_108, al_109, al_110, al_111, al_112, al_113, al_114, al_115, al_116, al_117, al_118, al_119, al_120, al_121, al_122, al_c, al_d, al_14, al_bk, al_52, al_x0, al_x1, al_x2, al_x3, n_197_89, ri_icmp_gt, tn_101, n_197_92, n_197_93, n_197_95, rc_170, n_197_98, ri_goto, tn_102, n_197_101, rlc_0, n_197_102, ri_lor, n_197_103, pf_1241127_106, n_197_106, rin_6_1, n_197_109, tn_60, ent_n, ent_i, ent_l, ent_r, ent_u, tL_n, tL_s, ap_n, ap_c, b01, b01L, ite_not, z10, cA0, cB0, cC0, cD0, cE0, cF0, cA1, cB1, cC1, cD1, cE1, cF1, cA2, cB2, cC2, cD2, cE2, cF2, cA3, cB3, cC3, cD3, cE3, cF3, vinT, vinN, li_clamp, iN_clamp, ↓reduceIte, if_true, if_false, iN_add1, iL_add, lI_add, iN_add, lI_mul, iL_mul, iN_mul, iN_sub, iL_sub, lI_sub, and_self, and_true, true_and, and_false, false_and, z10L, lc_eq, lc_lt, lc_le, lc_ge, lc_gt, u2_s, u2_k, u2_a, u2_T1, u2_T2, u2_T3, u2_T4, u2_T5, u2_T6, u2_T7, u2_T8, j14]
    refine ic_188 iJ hc hb (by omega) (by decide) cJ rfl (Nat.le_of_ble_eq_true rfl) (fun J2 i2 f2 => ?_)
    have fr2 : FR I J2 := fun x y h1 h2 => (f2 x y h1 h2).trans (fr x y h1 h2)
    rw [gJ]
    have j0 : J2 114 0 = Int32.ofNat (u 0) := (fr2 114 0 (by decide) (by decide)).trans v2
    have m17 : M 106 17 = L 106 17 := hm.2 106 17 (by decide)
    have m113 : M 113 k = L 113 k := hm.2 113 k (fun e => absurd e.1 (by decide))
    have m27 := hm.1
    have nx := fun (v : Int64) (hv : v = opN I L c (k + 1)) => lp_197n inv hc iy (a2 := a2) (a3 := a3) (a4 := a4) (a5 := a5) K m (k + 1) J2 (u2 M 106 27 v) (by omega) fr2 ⟨u2_s.trans hv, fun x y z => (if_neg z : (if x = 106 ∧ y = 27 then v else M x y) = M x y).trans (hm.2 x y z)⟩
    have ob : opN I L c (k + 1) = if opK I c k = true then opN I L c k ||| (L 106 17 &&& (L 113 k ^^^ (-1))) else opN I L c k := rfl
    have ok : opK I c k = (decide (¬ wayF (grI I) c b = -9) && decide (trI (grI I) c b 20 ≤ Int32.ofNat (u 0))) := by
      unfold opK
      rw [w2, v1, iN_clamp (by omega)]
    rcases tr_nn (fun c hc => (inv_g inv c hc).1) (l := 20) hc hb (by decide) with ⟨q1, q2⟩ | ⟨q1, t, q2, q3⟩
    · have r := nx (opN I L c k ||| 0) (by rw [ob, ok, q1, decide_eq_false (by simp), Bool.false_and, if_neg (by decide), or_z])
      rw [if_pos q1]
      have lt : Int32.ofNat (u 0) < 1000000 := by
        rw [show (1000000 : Int32) = Int32.ofNat 1000000 from rfl, iN_lt (by omega) (by omega)]
        omega
      simp (maxSteps := 2000000) (disch := first | rfl | exact Nat.le_of_ble_eq_true rfl | assumption | omega) only [n_197_57, ric_0, n_197_58, ri_istore, s1_i1, s2_in, s2_io, s2_it, s1_r1, s2_rn, s2_ro, s2_rt, s1_n1, s2_nn, s2_no, s2_nt, s1_j1, s2_jn, s2_jo, s2_jt, sto1_1l, sto1_z, sto2_z0, sto2_z1, sto2_z2, s1_2, s2_2, s1_3, s2_3, s1_4, s2_4, s1_5, s2_5, s1_6, s2_6, s1_7, s2_7, s1_8, s2_8, s1_9, s2_9, s1_10, s2_10, s1_11, s2_11, s1_12, s2_12, s1_13, s2_13, s1_14, s2_14, s1_15, s2_15, tl_c, tl_n, n_197_60, ri_ret, tk_0, tk_1, tk_2, tk_3, tk_4, tk_5, tk_6, tk_7, tk_8, tk_9, tk_10, tk_11, tk_12, tk_13, ri_iload_6, n_197_62, ri_aload_0, ri_aloadN_0, n_197_63, gf_1221114_106, n_197_66, ri_icmp_ge, tn_112, n_197_69, n_197_70, ri_dupI, ri_dupR, ri_dupN, n_197_71, gf_1241127_106, n_197_74, n_197_75, ri_iload_1, n_197_76, n_197_78, ric_20, n_197_80, ri_V, n_197_83, n_197_84, gf_1041119_106, n_197_87, n_197_88, al_2, al_3, al_5, al_6, al_7, al_10, al_11, al_12, al_39, al_41, al_44, al_45, al_46, al_47, al_49, al_51, al_53, al_107, al_108, al_109, al_110, al_111, al_112, al_113, al_114, al_115, al_116, al_117, al_118, al_119, al_120, al_121, al_122, al_c, al_d, al_14, al_bk, al_52, al_x0, al_x1, al_x2, al_x3, n_197_89, ri_icmp_gt, tn_101, n_197_92, n_197_93, n_197_95, rc_170, n_197_98, ri_goto, tn_102, n_197_101, rlc_0, n_197_102, ri_lor, n_197_103, pf_1241127_106, n_197_106, rin_6_1, n_197_109, tn_60, ent_n, ent_i, ent_l, ent_r, ent_u, tL_n, tL_s, ap_n, ap_c, b01, b01L, ite_not, z10, cA0, cB0, cC0, cD0, cE0, cF0, cA1, cB1, cC1, cD1, cE1, cF1, cA2, cB2, cC2, cD2, cE2, cF2, cA3, cB3, cC3, cD3, cE3, cF3, vinT, vinN, li_clamp, iN_clamp, ↓reduceIte, if_true, if_false, iN_add1, iL_add, lI_add, iN_add, lI_mul, iL_mul, iN_mul, iN_sub, iL_sub, lI_sub, and_self, and_true, true_and, and_false, false_and, z10L, lc_eq, lc_lt, lc_le, lc_ge, lc_gt, u2_s, u2_k, u2_a, u2_T1, u2_T2, u2_T3, u2_T4, u2_T5, u2_T6, u2_T7, u2_T8, j0, lt, m27]
      exact r
    · rw [if_neg q1, q3]
      by_cases le : t ≤ u 0
      · have okt : opK I c k = true := by
          rw [ok, q3, decide_eq_true q1, Bool.true_and, decide_eq_true_eq, iN_le (by omega) (by omega)]
          exact le
        have r := nx (opN I L c k ||| (L 106 17 &&& (L 113 k ^^^ (-1)))) (by rw [ob, if_pos okt])
        simp (maxSteps := 2000000) (disch := first | rfl | exact Nat.le_of_ble_eq_true rfl | assumption | omega) only [n_197_57, ric_0, n_197_58, ri_istore, s1_i1, s2_in, s2_io, s2_it, s1_r1, s2_rn, s2_ro, s2_rt, s1_n1, s2_nn, s2_no, s2_nt, s1_j1, s2_jn, s2_jo, s2_jt, sto1_1l, sto1_z, sto2_z0, sto2_z1, sto2_z2, s1_2, s2_2, s1_3, s2_3, s1_4, s2_4, s1_5, s2_5, s1_6, s2_6, s1_7, s2_7, s1_8, s2_8, s1_9, s2_9, s1_10, s2_10, s1_11, s2_11, s1_12, s2_12, s1_13, s2_13, s1_14, s2_14, s1_15, s2_15, tl_c, tl_n, n_197_60, ri_ret, tk_0, tk_1, tk_2, tk_3, tk_4, tk_5, tk_6, tk_7, tk_8, tk_9, tk_10, tk_11, tk_12, tk_13, ri_iload_6, n_197_62, ri_aload_0, ri_aloadN_0, n_197_63, gf_1221114_106, n_197_66, ri_icmp_ge, tn_112, n_197_69, n_197_70, ri_dupI, ri_dupR, ri_dupN, n_197_71, gf_1241127_106, n_197_74, n_197_75, ri_iload_1, n_197_76, n_197_78, ric_20, n_197_80, ri_V, n_197_83, n_197_84, gf_1041119_106, n_197_87, n_197_88, al_2, al_3, al_5, al_6, al_7, al_10, al_11, al_12, al_39, al_41, al_44, al_45, al_46, al_47, al_49, al_51, al_53, al_107, al_108, al_109, al_110, al_111, al_112, al_113, al_114, al_115, al_116, al_117, al_118, al_119, al_120, al_121, al_122, al_c, al_d, al_14, al_bk, al_52, al_x0, al_x1, al_x2, al_x3, n_197_89, ri_icmp_gt, tn_101, n_197_92, n_197_93, n_197_95, rc_170, n_197_98, ri_goto, tn_102, n_197_101, rlc_0, n_197_102, ri_lor, n_197_103, pf_1241127_106, n_197_106, rin_6_1, n_197_109, tn_60, ent_n, ent_i, ent_l, ent_r, ent_u, tL_n, tL_s, ap_n, ap_c, b01, b01L, ite_not, z10, cA0, cB0, cC0, cD0, cE0, cF0, cA1, cB1, cC1, cD1, cE1, cF1, cA2, cB2, cC2, cD2, cE2, cF2, cA3, cB3, cC3, cD3, cE3, cF3, vinT, vinN, li_clamp, iN_clamp, ↓reduceIte, if_true, if_false, iN_add1, iL_add, lI_add, iN_add, lI_mul, iL_mul, iN_mul, iN_sub, iL_sub, lI_sub, and_self, and_true, true_and, and_false, false_and, z10L, lc_eq, lc_lt, lc_le, lc_ge, lc_gt, u2_s, u2_k, u2_a, u2_T1, u2_T2, u2_T3, u2_T4, u2_T5, u2_T6, u2_T7, u2_T8, j0, m27, m17, m113]
        exact r
      · have okf : ¬ opK I c k = true := by
          rw [ok, q3, decide_eq_true q1, Bool.true_and, decide_eq_true_eq, iN_le (by omega) (by omega)]
          exact le
        have r := nx (opN I L c k ||| 0) (by rw [ob, if_neg okf, or_z])
        simp (maxSteps := 2000000) (disch := first | rfl | exact Nat.le_of_ble_eq_true rfl | assumption | omega) only [n_197_57, ric_0, n_197_58, ri_istore, s1_i1, s2_in, s2_io, s2_it, s1_r1, s2_rn, s2_ro, s2_rt, s1_n1, s2_nn, s2_no, s2_nt, s1_j1, s2_jn, s2_jo, s2_jt, sto1_1l, sto1_z, sto2_z0, sto2_z1, sto2_z2, s1_2, s2_2, s1_3, s2_3, s1_4, s2_4, s1_5, s2_5, s1_6, s2_6, s1_7, s2_7, s1_8, s2_8, s1_9, s2_9, s1_10, s2_10, s1_11, s2_11, s1_12, s2_12, s1_13, s2_13, s1_14, s2_14, s1_15, s2_15, tl_c, tl_n, n_197_60, ri_ret, tk_0, tk_1, tk_2, tk_3, tk_4, tk_5, tk_6, tk_7, tk_8, tk_9, tk_10, tk_11, tk_12, tk_13, ri_iload_6, n_197_62, ri_aload_0, ri_aloadN_0, n_197_63, gf_1221114_106, n_197_66, ri_icmp_ge, tn_112, n_197_69, n_197_70, ri_dupI, ri_dupR, ri_dupN, n_197_71, gf_1241127_106, n_197_74, n_197_75, ri_iload_1, n_197_76, n_197_78, ric_20, n_197_80, ri_V, n_197_83, n_197_84, gf_1041119_106, n_197_87, n_197_88, al_2, al_3, al_5, al_6, al_7, al_10, al_11, al_12, al_39, al_41, al_44, al_45, al_46, al_47, al_49, al_51, al_53, al_107, al_108, al_109, al_110, al_111, al_112, al_113, al_114, al_115, al_116, al_117, al_118, al_119, al_120, al_121, al_122, al_c, al_d, al_14, al_bk, al_52, al_x0, al_x1, al_x2, al_x3, n_197_89, ri_icmp_gt, tn_101, n_197_92, n_197_93, n_197_95, rc_170, n_197_98, ri_goto, tn_102, n_197_101, rlc_0, n_197_102, ri_lor, n_197_103, pf_1241127_106, n_197_106, rin_6_1, n_197_109, tn_60, ent_n, ent_i, ent_l, ent_r, ent_u, tL_n, tL_s, ap_n, ap_c, b01, b01L, ite_not, z10, cA0, cB0, cC0, cD0, cE0, cF0, cA1, cB1, cC1, cD1, cE1, cF1, cA2, cB2, cC2, cD2, cE2, cF2, cA3, cB3, cC3, cD3, cE3, cF3, vinT, vinN, li_clamp, iN_clamp, ↓reduceIte, if_true, if_false, iN_add1, iL_add, lI_add, iN_add, lI_mul, iL_mul, iN_mul, iN_sub, iL_sub, lI_sub, and_self, and_true, true_and, and_false, false_and, z10L, lc_eq, lc_lt, lc_le, lc_ge, lc_gt, u2_s, u2_k, u2_a, u2_T1, u2_T2, u2_T3, u2_T4, u2_T5, u2_T6, u2_T7, u2_T8, j0, m27]
        exact r
theorem lp_197r {a1 a4 a6 : Int32} {d e k ea ho : Nat} {o : Nat → Bool} (h1 : I 114 2 = Int32.ofNat ea) (h2 : I 114 3 = Int32.ofNat ho) (he : 1 ≤ ea ∧ ea ≤ 9) (hh : 1 ≤ ho ∧ ho ≤ 60) (hd2 : e ≤ 59) (hde : d ≤ e) (nr : NM I ea ho o e (e + 1 - d)) (hk : k < 100) : ∀ r x j n day gone, day + r = e + 1 → d ≤ day → x ≤ ho → gone + j = k → ndO ea ho o e r x = some n → j < n → Rn (EE N xs) 197 10161 [.ref 106, .int a1, .int (Int32.ofNat d), .int (Int32.ofNat e), .int a4, .int (Int32.ofNat k), .int a6, .int (Int32.ofNat x), .int (Int32.ofNat gone), .int (Int32.ofNat day)] [] (K0, I, L) Q = Q (some (.int (Int32.ofNat (rwO ea ho o e r x j)))) (K0, I, L)
  | 0, x, j, n, day, gone, q1, q2, q3, q4, q5, q6 => by
    cases q5
    omega
  | r + 1, x, j, n, day, gone, q1, q2, q3, q4, q5, q6 => by
    have g1 := nr (r + 1) (by omega) x q3
    rw [show e + 1 - (r + 1) = day by omega, q5] at g1
    have nb := ndO_le _ _ _ q5
    obtain ⟨s1, s2⟩ := ndO_step q5
    have g2 := nr r (by omega) (x - ea) (by omega)
    rw [show e + 1 - r = day + 1 by omega] at g2
    have g3 : I 121 (64 * day + x) = Int32.ofNat n := g1
    by_cases st : ndO ea ho o e r (x - ea) = some n
    · have u : rwO ea ho o e (r + 1) x j = rwO ea ho o e r (x - ea) j := by
        conv => lhs; unfold rwO
        rw [if_pos (st.trans q5.symm)]
      have rr := lp_197r (a1 := a1) (a4 := a4) (a6 := a6) h1 h2 he hh hd2 hde nr hk r (x - ea) j n (day + 1) gone (by omega) (by omega) (by omega) q4 st q6
      rw [u]
      rw [st] at g2
      have g2 : I 121 (64 * (day + 1) + (x - ea)) = Int32.ofNat n := g2
      rw [n_197_10161]
      simp (maxSteps := 2000000) (disch := first | rfl | exact Nat.le_of_ble_eq_true rfl | assumption | omega) only [n_197_158, ri_iload_2, n_197_159, ri_istore, s1_i1, s2_in, s2_io, s2_it, s1_r1, s2_rn, s2_ro, s2_rt, s1_n1, s2_nn, s2_no, s2_nt, s1_j1, s2_jn, s2_jo, s2_jt, sto1_1l, sto1_z, sto2_z0, sto2_z1, sto2_z2, s1_2, s2_2, s1_3, s2_3, s1_4, s2_4, s1_5, s2_5, s1_6, s2_6, s1_7, s2_7, s1_8, s2_8, s1_9, s2_9, s1_10, s2_10, s1_11, s2_11, s1_12, s2_12, s1_13, s2_13, s1_14, s2_14, s1_15, s2_15, tl_c, tl_n, n_197_161, ri_ret, tk_0, tk_1, tk_2, tk_3, tk_4, tk_5, tk_6, tk_7, tk_8, tk_9, tk_10, tk_11, tk_12, tk_13, ri_iload_5, n_197_163, ri_if_lt, tn_239, n_197_166, ri_aload_0, ri_aloadN_0, n_197_167, gf_1111126_106, n_197_170, ric_64, n_197_172, ri_iload_9, n_197_174, ri_imul, n_197_175, ri_iload_7, n_197_177, ri_iadd, n_197_178, al_2, al_3, al_5, al_6, al_7, al_10, al_11, al_12, al_39, al_41, al_44, al_45, al_46, al_47, al_49, al_51, al_53, al_107, al_108, al_109, al_110, al_111, al_112, al_113, al_114, al_115, al_116, al_117, al_118, al_119, al_120, al_121, al_122, al_c, al_d, al_14, al_bk, al_52, al_x0, al_x1, al_x2, al_x3, n_197_179, n_197_181, n_197_183, n_197_184, gf_1041119_106, n_197_187, ric_2, n_197_188, n_197_189, ri_isub, n_197_190, n_197_192, n_197_193, n_197_196, n_197_198, n_197_200, ric_1, n_197_201, n_197_202, n_197_203, n_197_205, n_197_206, n_197_207, ri_iload_10, n_197_209, ri_icmp_eq, tn_233, n_197_212, ri_iload_8, n_197_214, n_197_216, ri_icmp_ne, tn_222, n_197_219, n_197_221, rt_197, n_197_222, rin_8_1, n_197_225, n_197_226, n_197_228, ri_V, rc_200, n_197_231, n_197_233, rin_9_1, n_197_236, ri_goto, tn_161, n_197_239, ri_iload_6, n_197_241, ent_n, ent_i, ent_l, ent_r, ent_u, tL_n, tL_s, ap_n, ap_c, b01, b01L, ite_not, z10, cA0, cB0, cC0, cD0, cE0, cF0, cA1, cB1, cC1, cD1, cE1, cF1, cA2, cB2, cC2, cD2, cE2, cF2, cA3, cB3, cC3, cD3, cE3, cF3, vinT, vinN, li_clamp, iN_clamp, ↓reduceIte, if_true, if_false, iN_add1, iL_add, lI_add, iN_add, lI_mul, iL_mul, iN_mul, iN_sub, iL_sub, lI_sub, and_self, and_true, true_and, and_false, false_and, z10L, lc_eq, lc_lt, lc_le, lc_ge, lc_gt, h1, g3, g2, rr]
    · obtain ⟨m, m1, m2⟩ := (s2.resolve_left st).2
      have ne : ¬ ndO ea ho o e r (x - ea) = ndO ea ho o e (r + 1) x := fun q => st (q.trans q5)
      have ne2 : ¬ eM (ndO ea ho o e r (x - ea)) = Int32.ofNat n := by
        intro q
        cases w : ndO ea ho o e r (x - ea) with
        | none =>
          rw [w] at q
          have q : Int32.ofNat 1000000 = Int32.ofNat n := q
          have := (iN_eq (by omega) (by omega)).mp q
          omega
        | some v =>
          have := ndO_le _ _ _ w
          rw [w] at q
          have q : Int32.ofNat v = Int32.ofNat n := q
          have := (iN_eq (by omega) (by omega)).mp q
          exact st (by rw [w, this])
      cases j with
      | zero =>
        have u : rwO ea ho o e (r + 1) x 0 = day := by
          conv => lhs; unfold rwO
          rw [if_neg ne]
          show e - r = day
          omega
        have q4 : gone = k := q4
        rw [u]
        rw [n_197_10161]
        simp (maxSteps := 2000000) (disch := first | rfl | exact Nat.le_of_ble_eq_true rfl | assumption | omega) only [n_197_158, ri_iload_2, n_197_159, ri_istore, s1_i1, s2_in, s2_io, s2_it, s1_r1, s2_rn, s2_ro, s2_rt, s1_n1, s2_nn, s2_no, s2_nt, s1_j1, s2_jn, s2_jo, s2_jt, sto1_1l, sto1_z, sto2_z0, sto2_z1, sto2_z2, s1_2, s2_2, s1_3, s2_3, s1_4, s2_4, s1_5, s2_5, s1_6, s2_6, s1_7, s2_7, s1_8, s2_8, s1_9, s2_9, s1_10, s2_10, s1_11, s2_11, s1_12, s2_12, s1_13, s2_13, s1_14, s2_14, s1_15, s2_15, tl_c, tl_n, n_197_161, ri_ret, tk_0, tk_1, tk_2, tk_3, tk_4, tk_5, tk_6, tk_7, tk_8, tk_9, tk_10, tk_11, tk_12, tk_13, ri_iload_5, n_197_163, ri_if_lt, tn_239, n_197_166, ri_aload_0, ri_aloadN_0, n_197_167, gf_1111126_106, n_197_170, ric_64, n_197_172, ri_iload_9, n_197_174, ri_imul, n_197_175, ri_iload_7, n_197_177, ri_iadd, n_197_178, al_2, al_3, al_5, al_6, al_7, al_10, al_11, al_12, al_39, al_41, al_44, al_45, al_46, al_47, al_49, al_51, al_53, al_107, al_108, al_109, al_110, al_111, al_112, al_113, al_114, al_115, al_116, al_117, al_118, al_119, al_120, al_121, al_122, al_c, al_d, al_14, al_bk, al_52, al_x0, al_x1, al_x2, al_x3, n_197_179, n_197_181, n_197_183, n_197_184, gf_1041119_106, n_197_187, ric_2, n_197_188, n_197_189, ri_isub, n_197_190, n_197_192, n_197_193, n_197_196, n_197_198, n_197_200, ric_1, n_197_201, n_197_202, n_197_203, n_197_205, n_197_206, n_197_207, ri_iload_10, n_197_209, ri_icmp_eq, tn_233, n_197_212, ri_iload_8, n_197_214, n_197_216, ri_icmp_ne, tn_222, n_197_219, n_197_221, rt_197, n_197_222, rin_8_1, n_197_225, n_197_226, n_197_228, ri_V, rc_200, n_197_231, n_197_233, rin_9_1, n_197_236, ri_goto, tn_161, n_197_239, ri_iload_6, n_197_241, ent_n, ent_i, ent_l, ent_r, ent_u, tL_n, tL_s, ap_n, ap_c, b01, b01L, ite_not, z10, cA0, cB0, cC0, cD0, cE0, cF0, cA1, cB1, cC1, cD1, cE1, cF1, cA2, cB2, cC2, cD2, cE2, cF2, cA3, cB3, cC3, cD3, cE3, cF3, vinT, vinN, li_clamp, iN_clamp, ↓reduceIte, if_true, if_false, iN_add1, iL_add, lI_add, iN_add, lI_mul, iL_mul, iN_mul, iN_sub, iL_sub, lI_sub, and_self, and_true, true_and, and_false, false_and, z10L, lc_eq, lc_lt, lc_le, lc_ge, lc_gt, h1, g3, g2, ne2, q4, eq_self]
      | succ j =>
        have u : rwO ea ho o e (r + 1) x (j + 1) = rwO ea ho o e r (min ho (x - ea + 12)) j := by
          conv => lhs; unfold rwO
          rw [if_neg ne]
        have rr := lp_197r (a1 := a1) (a4 := a4) (a6 := a6) h1 h2 he hh hd2 hde nr hk r (min ho (x - ea + 12)) j m (day + 1) (gone + 1) (by omega) (by omega) (by omega) (by omega) m2 (by omega)
        rw [u]
        have gk : ¬ gone = k := by omega
        by_cases z : ho < x - ea + 12
        · rw [Nat.min_eq_left (by omega)] at rr ⊢
          rw [n_197_10161]
          simp (maxSteps := 2000000) (disch := first | rfl | exact Nat.le_of_ble_eq_true rfl | assumption | omega) only [n_197_158, ri_iload_2, n_197_159, ri_istore, s1_i1, s2_in, s2_io, s2_it, s1_r1, s2_rn, s2_ro, s2_rt, s1_n1, s2_nn, s2_no, s2_nt, s1_j1, s2_jn, s2_jo, s2_jt, sto1_1l, sto1_z, sto2_z0, sto2_z1, sto2_z2, s1_2, s2_2, s1_3, s2_3, s1_4, s2_4, s1_5, s2_5, s1_6, s2_6, s1_7, s2_7, s1_8, s2_8, s1_9, s2_9, s1_10, s2_10, s1_11, s2_11, s1_12, s2_12, s1_13, s2_13, s1_14, s2_14, s1_15, s2_15, tl_c, tl_n, n_197_161, ri_ret, tk_0, tk_1, tk_2, tk_3, tk_4, tk_5, tk_6, tk_7, tk_8, tk_9, tk_10, tk_11, tk_12, tk_13, ri_iload_5, n_197_163, ri_if_lt, tn_239, n_197_166, ri_aload_0, ri_aloadN_0, n_197_167, gf_1111126_106, n_197_170, ric_64, n_197_172, ri_iload_9, n_197_174, ri_imul, n_197_175, ri_iload_7, n_197_177, ri_iadd, n_197_178, al_2, al_3, al_5, al_6, al_7, al_10, al_11, al_12, al_39, al_41, al_44, al_45, al_46, al_47, al_49, al_51, al_53, al_107, al_108, al_109, al_110, al_111, al_112, al_113, al_114, al_115, al_116, al_117, al_118, al_119, al_120, al_121, al_122, al_c, al_d, al_14, al_bk, al_52, al_x0, al_x1, al_x2, al_x3, n_197_179, n_197_181, n_197_183, n_197_184, gf_1041119_106, n_197_187, ric_2, n_197_188, n_197_189, ri_isub, n_197_190, n_197_192, n_197_193, n_197_196, n_197_198, n_197_200, ric_1, n_197_201, n_197_202, n_197_203, n_197_205, n_197_206, n_197_207, ri_iload_10, n_197_209, ri_icmp_eq, tn_233, n_197_212, ri_iload_8, n_197_214, n_197_216, ri_icmp_ne, tn_222, n_197_219, n_197_221, rt_197, n_197_222, rin_8_1, n_197_225, n_197_226, n_197_228, ri_V, rc_200, n_197_231, n_197_233, rin_9_1, n_197_236, ri_goto, tn_161, n_197_239, ri_iload_6, n_197_241, ent_n, ent_i, ent_l, ent_r, ent_u, tL_n, tL_s, ap_n, ap_c, b01, b01L, ite_not, z10, cA0, cB0, cC0, cD0, cE0, cF0, cA1, cB1, cC1, cD1, cE1, cF1, cA2, cB2, cC2, cD2, cE2, cF2, cA3, cB3, cC3, cD3, cE3, cF3, vinT, vinN, li_clamp, iN_clamp, ↓reduceIte, if_true, if_false, iN_add1, iL_add, lI_add, iN_add, lI_mul, iL_mul, iN_mul, iN_sub, iL_sub, lI_sub, and_self, and_true, true_and, and_false, false_and, z10L, lc_eq, lc_lt, lc_le, lc_ge, lc_gt, h1, h2, g3, g2, ne2, gk, rr]
        · rw [Nat.min_eq_right (by omega)] at rr ⊢
          rw [n_197_10161]
          simp (maxSteps := 2000000) (disch := first | rfl | exact Nat.le_of_ble_eq_true rfl | assumption | omega) only [n_197_158, ri_iload_2, n_197_159, ri_istore, s1_i1, s2_in, s2_io, s2_it, s1_r1, s2_rn, s2_ro, s2_rt, s1_n1, s2_nn, s2_no, s2_nt, s1_j1, s2_jn, s2_jo, s2_jt, sto1_1l, sto1_z, sto2_z0, sto2_z1, sto2_z2, s1_2, s2_2, s1_3, s2_3, s1_4, s2_4, s1_5, s2_5, s1_6, s2_6, s1_7, s2_7, s1_8, s2_8, s1_9, s2_9, s1_10, s2_10, s1_11, s2_11, s1_12, s2_12, s1_13, s2_13, s1_14, s2_14, s1_15, s2_15, tl_c, tl_n, n_197_161, ri_ret, tk_0, tk_1, tk_2, tk_3, tk_4, tk_5, tk_6, tk_7, tk_8, tk_9, tk_10, tk_11, tk_12, tk_13, ri_iload_5, n_197_163, ri_if_lt, tn_239, n_197_166, ri_aload_0, ri_aloadN_0, n_197_167, gf_1111126_106, n_197_170, ric_64, n_197_172, ri_iload_9, n_197_174, ri_imul, n_197_175, ri_iload_7, n_197_177, ri_iadd, n_197_178, al_2, al_3, al_5, al_6, al_7, al_10, al_11, al_12, al_39, al_41, al_44, al_45, al_46, al_47, al_49, al_51, al_53, al_107, al_108, al_109, al_110, al_111, al_112, al_113, al_114, al_115, al_116, al_117, al_118, al_119, al_120, al_121, al_122, al_c, al_d, al_14, al_bk, al_52, al_x0, al_x1, al_x2, al_x3, n_197_179, n_197_181, n_197_183, n_197_184, gf_1041119_106, n_197_187, ric_2, n_197_188, n_197_189, ri_isub, n_197_190, n_197_192, n_197_193, n_197_196, n_197_198, n_197_200, ric_1, n_197_201, n_197_202, n_197_203, n_197_205, n_197_206, n_197_207, ri_iload_10, n_197_209, ri_icmp_eq, tn_233, n_197_212, ri_iload_8, n_197_214, n_197_216, ri_icmp_ne, tn_222, n_197_219, n_197_221, rt_197, n_197_222, rin_8_1, n_197_225, n_197_226, n_197_228, ri_V, rc_200, n_197_231, n_197_233, rin_9_1, n_197_236, ri_goto, tn_161, n_197_239, ri_iload_6, n_197_241, ent_n, ent_i, ent_l, ent_r, ent_u, tL_n, tL_s, ap_n, ap_c, b01, b01L, ite_not, z10, cA0, cB0, cC0, cD0, cE0, cF0, cA1, cB1, cC1, cD1, cE1, cF1, cA2, cB2, cC2, cD2, cE2, cF2, cA3, cB3, cC3, cD3, cE3, cF3, vinT, vinN, li_clamp, iN_clamp, ↓reduceIte, if_true, if_false, iN_add1, iL_add, lI_add, iN_add, lI_mul, iL_mul, iN_mul, iN_sub, iL_sub, lI_sub, and_self, and_true, true_and, and_false, false_and, z10L, lc_eq, lc_lt, lc_le, lc_ge, lc_gt, h1, h2, g3, g2, ne2, gk, rr]
end S70
