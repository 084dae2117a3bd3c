/-! TYPE -/
theorem tb_255 : ∀ i : Nat, i < 64 → tb 255 i = decide (i < 8) := by decide +kernel
theorem tb_sshr {x : Int64} {n i : Nat} (h : n < 64) (hi : n + i < 64) : tb (x >>> ((Int32.ofNat n).toInt64 &&& 63)) i = tb x (n + i) := by
  unfold tb
  rw [sshr_bv h, BitVec.getLsbD_sshiftRight]
  simp [hi]
  omega
/-- the byte at n -/
def byF (v : Int64) (n : Nat) : Nat := tn (ush v (Int32.ofNat n) &&& 255)
theorem byF_lt {v : Int64} {n : Nat} : byF v n < 256 := by
  unfold byF
  rw [tn_and]
  have e : tn 255 = 255 := by decide
  rw [e]
  exact Nat.lt_of_le_of_lt Nat.and_le_right (by decide)
theorem by_model {v : Int64} {n : Nat} (h : n + 7 < 64) : ((v >>> ((Int32.ofNat n).toInt64 &&& 63)) &&& 255).toInt32 = Int32.ofNat (byF v n) := by
  have e : (v >>> ((Int32.ofNat n).toInt64 &&& 63)) &&& 255 = ush v (Int32.ofNat n) &&& 255 := by
    apply tb_ext
    intro i hi
    rw [tb_and, tb_and, tb_255 i hi]
    by_cases z : i < 8
    · rw [tb_sshr (by omega) (by omega)]
      have : tb (ush v (Int32.ofNat n)) i = tb v (n + i) := tb_ushr (by omega)
      rw [this]
    · rw [decide_eq_false z, Bool.and_false, Bool.and_false]
  rw [e]
  have lt := byF_lt (v := v) (n := n)
  unfold byF at *
  generalize ush v (Int32.ofNat n) &&& 255 = w at *
  apply Int32.toBitVec_inj.mp
  apply BitVec.eq_of_toNat_eq
  rw [Int64.toBitVec_toInt32]
  have e2 : (Int32.ofNat (tn w)).toBitVec.toNat = tn w := by
    show (BitVec.ofNat 32 (tn w)).toNat = _
    rw [BitVec.toNat_ofNat]
    omega
  rw [e2]
  unfold tn at *
  unfold BitVec.signExtend
  rw [BitVec.toNat_ofInt, BitVec.toInt_eq_toNat_cond]
  split <;> omega
theorem by_class {v : Int64} {n : Nat} : vp_nar .byte ((ush v (Int32.ofNat n)).toInt32.toInt8.toInt32) &&& 255 = Int32.ofNat (byF v n) := by
  unfold byF
  generalize ush v (Int32.ofNat n) = w
  have e : (vp_nar .byte (w.toInt32.toInt8.toInt32)).toBitVec = BitVec.signExtend 32 (BitVec.signExtend 8 (BitVec.signExtend 32 (BitVec.signExtend 8 (BitVec.signExtend 32 w.toBitVec)))) := rfl
  have lt : tn (w &&& 255) < 256 := by
    rw [tn_and]
    have e : tn 255 = 255 := by decide
    rw [e]
    exact Nat.lt_of_le_of_lt Nat.and_le_right (by decide)
  apply Int32.toBitVec_inj.mp
  apply BitVec.eq_of_getLsbD_eq
  intro i hi
  rw [Int32.toBitVec_and, BitVec.getLsbD_and, e]
  have e2 : (Int32.ofNat (tn (w &&& 255))).toBitVec.getLsbD i = (tn w &&& 255).testBit i := by
    show (BitVec.ofNat 32 (tn (w &&& 255))).toNat.testBit i = _
    rw [BitVec.toNat_ofNat, Nat.mod_eq_of_lt (by omega), tn_and]
    rfl
  have e3 : ∀ i : Nat, i < 32 → (255 : Int32).toBitVec.getLsbD i = decide (i < 8) := by decide
  have e4 : (255 : Nat).testBit i = decide (i < 8) := by
    rw [show (255 : Nat) = 2 ^ 8 - 1 from rfl, Nat.testBit_two_pow_sub_one]
  rw [e2, e3 i hi, Nat.testBit_and, e4]
  by_cases z : i < 8
  · have e5 : (tn w).testBit i = w.toBitVec.getLsbD i := rfl
    rw [decide_eq_true z, Bool.and_true, Bool.and_true, e5]
    have h32 : i < 32 := by omega
    have h64 : i < 64 := by omega
    simp only [BitVec.getLsbD_signExtend, z, h32, h64, decide_true, if_true, Bool.true_and]
  · rw [decide_eq_false z, Bool.and_false, Bool.and_false]
section S52
variable {N : Nat} {xs : Nat → Int32} {I : Nat → Nat → Int32} {L : Nat → Nat → Int64} {Q : Option Value → AH → Prop}
def typC (I : Nat → Nat → Int32) (v : Int64) (tl n m : Nat) (J : Nat → Nat → Int32) : Prop := J 1 2 = Int32.ofNat (tl + (n - m)) ∧ (∀ j, j < tl → J 2 j = I 2 j) ∧ (∀ j, tl ≤ j → j < tl + (n - m) → J 2 j &&& 255 = Int32.ofNat (byF v (8 * (tl + n - 1 - j)))) ∧ ∀ a k, a ≠ 2 → ¬ (a = 1 ∧ k = 2) → J a k = I a k
def typM (I : Nat → Nat → Int32) (v : Int64) (tl n m : Nat) (J : Nat → Nat → Int32) : Prop := J 106 6 = Int32.ofNat (tl + (n - m)) ∧ (∀ j, j < tl → J 110 j = I 110 j) ∧ (∀ j, tl ≤ j → j < tl + (n - m) → J 110 j = Int32.ofNat (byF v (8 * (tl + n - 1 - j)))) ∧ ∀ a k, a ≠ 110 → ¬ (a = 106 ∧ k = 6) → J a k = I a k
theorem lp_13 {v : Int64} {tl n : Nat} (hn : n ≤ 8) (hl : tl + n ≤ 400) (K : ∀ J, typC I v tl n 0 J → Q (some (.int (Int32.ofNat (tl + n)))) (K0, J, L)) : ∀ m J, m ≤ n → typC I v tl n m J → Rn (EE N xs) 13 10032 [.ref 1, .long v, jk, .int (Int32.ofNat n), .int (Int32.ofNat m + (-1))] [] (K0, J, L) Q
  | 0, J, h, t => by
    have K2 := K J t
    obtain ⟨t1, t2, t3, t4⟩ := t
    have lt : (Int32.ofNat 0 + (-1) : Int32) < 0 := by decide
    rw [n_13_10032]
    simp (maxSteps := 2000000) (disch := first | rfl | exact Nat.le_of_ble_eq_true rfl | assumption | omega) only [n_13_0, ri_iload_3, n_13_1, ric_1, n_13_2, ric_8, n_13_4, ri_S, rc_14, n_13_7, ri_if_ne, tn_12, n_13_10, ric_m1, n_13_11, rt_13, n_13_12, ri_aload_0, ri_aloadN_0, n_13_13, gf_350502_1, n_13_16, n_13_17, ri_iadd, n_13_18, ric_400, n_13_21, ri_icmp_le, tn_27, n_13_24, ric_m3, n_13_26, n_13_27, n_13_28, n_13_29, ri_isub, n_13_30, ri_istore, s1_i1, s2_in, s2_io, s2_it, s1_r1, s2_rn, s2_ro, s2_rt, s1_n1, s2_nn, s2_no, s2_nt, s1_j1, s2_jn, s2_jo, s2_jt, sto1_1l, sto1_z, sto2_z0, sto2_z1, sto2_z2, s1_2, s2_2, s1_3, s2_3, s1_4, s2_4, s1_5, s2_5, s1_6, s2_6, s1_7, s2_7, s1_8, s2_8, s1_9, s2_9, s1_10, s2_10, s1_11, s2_11, s1_12, s2_12, s1_13, s2_13, s1_14, s2_14, s1_15, s2_15, tl_c, tl_n, n_13_32, ri_ret, tk_0, tk_1, tk_2, tk_3, tk_4, tk_5, tk_6, tk_7, tk_8, tk_9, tk_10, tk_11, tk_12, tk_13, ri_iload_4, n_13_34, ri_if_lt, tn_81, n_13_37, n_13_38, n_13_41, n_13_44, ri_icmp_ge, n_13_47, n_13_48, gf_110500_1, n_13_51, n_13_52, n_13_55, ri_lload_1, n_13_56, n_13_58, n_13_60, ri_imul, n_13_61, ri_lushr, n_13_62, ri_l2i, n_13_63, ri_i2b, n_13_64, as_2, as_3, as_5, as_6, as_7, as_10, as_11, as_12, as_39, as_41, as_44, as_45, as_46, as_47, as_49, as_51, as_53, as_107, as_108, as_109, as_110, as_111, as_112, as_113, as_114, as_115, as_116, as_117, as_118, as_119, as_120, as_121, as_122, as_c, as_d, n_13_65, n_13_66, ri_dupI, ri_dupR, ri_dupN, n_13_67, n_13_70, n_13_71, n_13_72, pf_350502_1, n_13_75, rin_4_m1, n_13_78, ri_goto, tn_32, n_13_81, n_13_82, n_13_85, ent_n, ent_i, ent_l, ent_r, ent_u, tL_n, tL_s, ap_n, ap_c, b01, b01L, ite_not, z10, cA0, cB0, cC0, cD0, cE0, cF0, cA1, cB1, cC1, cD1, cE1, cF1, cA2, cB2, cC2, cD2, cE2, cF2, cA3, cB3, cC3, cD3, cE3, cF3, vinT, vinN, li_clamp, iN_clamp, ↓reduceIte, if_true, if_false, iN_add1, iL_add, lI_add, iN_add, lI_mul, iL_mul, iN_mul, iN_sub, iL_sub, lI_sub, and_self, and_true, true_and, and_false, false_and, z10L, lc_eq, lc_lt, lc_le, lc_ge, lc_gt, u2_s, u2_k, u2_a, u2_T1, u2_T2, u2_T3, u2_T4, u2_T5, u2_T6, u2_T7, u2_T8, lt, t1]
    exact K2
  | m + 1, J, h, t => by
    obtain ⟨t1, t2, t3, t4⟩ := t
    have hlt : tl + (n - (m + 1)) < 400 := by omega
    rw [n_13_10032, iN_dec]
    simp (maxSteps := 2000000) (disch := first | rfl | exact Nat.le_of_ble_eq_true rfl | assumption | omega) only [n_13_0, ri_iload_3, n_13_1, ric_1, n_13_2, ric_8, n_13_4, ri_S, rc_14, n_13_7, ri_if_ne, tn_12, n_13_10, ric_m1, n_13_11, rt_13, n_13_12, ri_aload_0, ri_aloadN_0, n_13_13, gf_350502_1, n_13_16, n_13_17, ri_iadd, n_13_18, ric_400, n_13_21, ri_icmp_le, tn_27, n_13_24, ric_m3, n_13_26, n_13_27, n_13_28, n_13_29, ri_isub, n_13_30, ri_istore, s1_i1, s2_in, s2_io, s2_it, s1_r1, s2_rn, s2_ro, s2_rt, s1_n1, s2_nn, s2_no, s2_nt, s1_j1, s2_jn, s2_jo, s2_jt, sto1_1l, sto1_z, sto2_z0, sto2_z1, sto2_z2, s1_2, s2_2, s1_3, s2_3, s1_4, s2_4, s1_5, s2_5, s1_6, s2_6, s1_7, s2_7, s1_8, s2_8, s1_9, s2_9, s1_10, s2_10, s1_11, s2_11, s1_12, s2_12, s1_13, s2_13, s1_14, s2_14, s1_15, s2_15, tl_c, tl_n, n_13_32, ri_ret, tk_0, tk_1, tk_2, tk_3, tk_4, tk_5, tk_6, tk_7, tk_8, tk_9, tk_10, tk_11, tk_12, tk_13, ri_iload_4, n_13_34, ri_if_lt, tn_81, n_13_37, n_13_38, n_13_41, n_13_44, ri_icmp_ge, n_13_47, n_13_48, gf_110500_1, n_13_51, n_13_52, n_13_55, ri_lload_1, n_13_56, n_13_58, n_13_60, ri_imul, n_13_61, ri_lushr, n_13_62, ri_l2i, n_13_63, ri_i2b, n_13_64, as_2, as_3, as_5, as_6, as_7, as_10, as_11, as_12, as_39, as_41, as_44, as_45, as_46, as_47, as_49, as_51, as_53, as_107, as_108, as_109, as_110, as_111, as_112, as_113, as_114, as_115, as_116, as_117, as_118, as_119, as_120, as_121, as_122, as_c, as_d, n_13_65, n_13_66, ri_dupI, ri_dupR, ri_dupN, n_13_67, n_13_70, n_13_71, n_13_72, pf_350502_1, n_13_75, rin_4_m1, n_13_78, ri_goto, tn_32, n_13_81, n_13_82, n_13_85, ent_n, ent_i, ent_l, ent_r, ent_u, tL_n, tL_s, ap_n, ap_c, b01, b01L, ite_not, z10, cA0, cB0, cC0, cD0, cE0, cF0, cA1, cB1, cC1, cD1, cE1, cF1, cA2, cB2, cC2, cD2, cE2, cF2, cA3, cB3, cC3, cD3, cE3, cF3, vinT, vinN, li_clamp, iN_clamp, ↓reduceIte, if_true, if_false, iN_add1, iL_add, lI_add, iN_add, lI_mul, iL_mul, iN_mul, iN_sub, iL_sub, lI_sub, and_self, and_true, true_and, and_false, false_and, z10L, lc_eq, lc_lt, lc_le, lc_ge, lc_gt, u2_s, u2_k, u2_a, u2_T1, u2_T2, u2_T3, u2_T4, u2_T5, u2_T6, u2_T7, u2_T8, t1]
    refine lp_13 hn hl K m _ (by omega) ⟨?_, fun j hj => ?_, fun j h1 h2 => ?_, fun a k ha hk => ?_⟩
    · rw [u2_s, show tl + (n - (m + 1)) + 1 = tl + (n - m) by omega]
    · rw [u2_a (by decide), u2_k (by omega)]
      exact t2 j hj
    · rw [u2_a (by decide)]
      by_cases z : j = tl + (n - (m + 1))
      · subst z
        rw [u2_s, show tl + n - 1 - (tl + (n - (m + 1))) = m by omega]
        exact by_class
      · rw [u2_k z]
        exact t3 j h1 (by omega)
    · show (if a = 1 ∧ k = 2 then _ else u2 J 2 _ _ a k) = I a k
      rw [if_neg hk, u2_a ha]
      exact t4 a k ha hk
theorem lp_149 {v : Int64} {tl n : Nat} (hn : n ≤ 8) (hl : tl + n ≤ 400) (K : ∀ J, typM I v tl n 0 J → Q (some (.int (Int32.ofNat (tl + n)))) (K0, J, L)) : ∀ m J, m ≤ n → typM I v tl n m J → Rn (EE N xs) 149 10037 [.ref 106, .long v, jk, .int (Int32.ofNat n), .int (Int32.ofNat m + (-1))] [] (K0, J, L) Q
  | 0, J, h, t => by
    have K2 := K J t
    obtain ⟨t1, t2, t3, t4⟩ := t
    have lt : (Int32.ofNat 0 + (-1) : Int32) < 0 := by decide
    rw [n_149_10037]
    simp (maxSteps := 2000000) (disch := first | rfl | exact Nat.le_of_ble_eq_true rfl | assumption | omega) only [n_149_0, ri_aload_0, ri_aloadN_0, n_149_1, ric_0, n_149_2, pf_1141100_106, n_149_5, ri_iload_3, n_149_6, ric_1, n_149_7, ric_8, n_149_9, ri_S, rc_150, n_149_12, ri_if_ne, tn_17, n_149_15, ric_m1, n_149_16, rt_149, n_149_17, n_149_18, gf_1151106_106, n_149_21, n_149_22, ri_iadd, n_149_23, ric_400, n_149_26, ri_icmp_le, tn_32, n_149_29, ric_m3, n_149_31, n_149_32, n_149_33, n_149_34, ri_isub, n_149_35, ri_istore, s1_i1, s2_in, s2_io, s2_it, s1_r1, s2_rn, s2_ro, s2_rt, s1_n1, s2_nn, s2_no, s2_nt, s1_j1, s2_jn, s2_jo, s2_jt, sto1_1l, sto1_z, sto2_z0, sto2_z1, sto2_z2, s1_2, s2_2, s1_3, s2_3, s1_4, s2_4, s1_5, s2_5, s1_6, s2_6, s1_7, s2_7, s1_8, s2_8, s1_9, s2_9, s1_10, s2_10, s1_11, s2_11, s1_12, s2_12, s1_13, s2_13, s1_14, s2_14, s1_15, s2_15, tl_c, tl_n, n_149_37, ri_ret, tk_0, tk_1, tk_2, tk_3, tk_4, tk_5, tk_6, tk_7, tk_8, tk_9, tk_10, tk_11, tk_12, tk_13, ri_iload_4, n_149_39, ri_if_lt, tn_79, n_149_42, n_149_43, gf_1001105_106, n_149_46, n_149_47, n_149_50, ri_lload_1, n_149_51, n_149_53, n_149_55, ri_imul, n_149_56, ri_lshr, n_149_57, rd2_18, n_149_60, ri_land, n_149_61, ri_l2i, n_149_62, as_2, as_3, as_5, as_6, as_7, as_10, as_11, as_12, as_39, as_41, as_44, as_45, as_46, as_47, as_49, as_51, as_53, as_107, as_108, as_109, as_110, as_111, as_112, as_113, as_114, as_115, as_116, as_117, as_118, as_119, as_120, as_121, as_122, as_c, as_d, n_149_63, n_149_64, ri_dupI, ri_dupR, ri_dupN, n_149_65, n_149_68, n_149_69, n_149_70, pf_1151106_106, n_149_73, rin_4_m1, n_149_76, ri_goto, tn_37, n_149_79, n_149_80, n_149_83, ent_n, ent_i, ent_l, ent_r, ent_u, tL_n, tL_s, ap_n, ap_c, b01, b01L, ite_not, z10, cA0, cB0, cC0, cD0, cE0, cF0, cA1, cB1, cC1, cD1, cE1, cF1, cA2, cB2, cC2, cD2, cE2, cF2, cA3, cB3, cC3, cD3, cE3, cF3, vinT, vinN, li_clamp, iN_clamp, ↓reduceIte, if_true, if_false, iN_add1, iL_add, lI_add, iN_add, lI_mul, iL_mul, iN_mul, iN_sub, iL_sub, lI_sub, and_self, and_true, true_and, and_false, false_and, z10L, lc_eq, lc_lt, lc_le, lc_ge, lc_gt, u2_s, u2_k, u2_a, u2_T1, u2_T2, u2_T3, u2_T4, u2_T5, u2_T6, u2_T7, u2_T8, lt, t1]
    exact K2
  | m + 1, J, h, t => by
    obtain ⟨t1, t2, t3, t4⟩ := t
    have hlt : tl + (n - (m + 1)) < 400 := by omega
    have bm := by_model (v := v) (n := 8 * m) (by omega)
    rw [n_149_10037, iN_dec]
    simp (maxSteps := 2000000) (disch := first | rfl | exact Nat.le_of_ble_eq_true rfl | assumption | omega) only [n_149_0, ri_aload_0, ri_aloadN_0, n_149_1, ric_0, n_149_2, pf_1141100_106, n_149_5, ri_iload_3, n_149_6, ric_1, n_149_7, ric_8, n_149_9, ri_S, rc_150, n_149_12, ri_if_ne, tn_17, n_149_15, ric_m1, n_149_16, rt_149, n_149_17, n_149_18, gf_1151106_106, n_149_21, n_149_22, ri_iadd, n_149_23, ric_400, n_149_26, ri_icmp_le, tn_32, n_149_29, ric_m3, n_149_31, n_149_32, n_149_33, n_149_34, ri_isub, n_149_35, ri_istore, s1_i1, s2_in, s2_io, s2_it, s1_r1, s2_rn, s2_ro, s2_rt, s1_n1, s2_nn, s2_no, s2_nt, s1_j1, s2_jn, s2_jo, s2_jt, sto1_1l, sto1_z, sto2_z0, sto2_z1, sto2_z2, s1_2, s2_2, s1_3, s2_3, s1_4, s2_4, s1_5, s2_5, s1_6, s2_6, s1_7, s2_7, s1_8, s2_8, s1_9, s2_9, s1_10, s2_10, s1_11, s2_11, s1_12, s2_12, s1_13, s2_13, s1_14, s2_14, s1_15, s2_15, tl_c, tl_n, n_149_37, ri_ret, tk_0, tk_1, tk_2, tk_3, tk_4, tk_5, tk_6, tk_7, tk_8, tk_9, tk_10, tk_11, tk_12, tk_13, ri_iload_4, n_149_39, ri_if_lt, tn_79, n_149_42, n_149_43, gf_1001105_106, n_149_46, n_149_47, n_149_50, ri_lload_1, n_149_51, n_149_53, n_149_55, ri_imul, n_149_56, ri_lshr, n_149_57, rd2_18, n_149_60, ri_land, n_149_61, ri_l2i, n_149_62, as_2, as_3, as_5, as_6, as_7, as_10, as_11, as_12, as_39, as_41, as_44, as_45, as_46, as_47, as_49, as_51, as_53, as_107, as_108, as_109, as_110, as_111, as_112, as_113, as_114, as_115, as_116, as_117, as_118, as_119, as_120, as_121, as_122, as_c, as_d, n_149_63, n_149_64, ri_dupI, ri_dupR, ri_dupN, n_149_65, n_149_68, n_149_69, n_149_70, pf_1151106_106, n_149_73, rin_4_m1, n_149_76, ri_goto, tn_37, n_149_79, n_149_80, n_149_83, ent_n, ent_i, ent_l, ent_r, ent_u, tL_n, tL_s, ap_n, ap_c, b01, b01L, ite_not, z10, cA0, cB0, cC0, cD0, cE0, cF0, cA1, cB1, cC1, cD1, cE1, cF1, cA2, cB2, cC2, cD2, cE2, cF2, cA3, cB3, cC3, cD3, cE3, cF3, vinT, vinN, li_clamp, iN_clamp, ↓reduceIte, if_true, if_false, iN_add1, iL_add, lI_add, iN_add, lI_mul, iL_mul, iN_mul, iN_sub, iL_sub, lI_sub, and_self, and_true, true_and, and_false, false_and, z10L, lc_eq, lc_lt, lc_le, lc_ge, lc_gt, u2_s, u2_k, u2_a, u2_T1, u2_T2, u2_T3, u2_T4, u2_T5, u2_T6, u2_T7, u2_T8, t1, bm]
    refine lp_149 hn hl K m _ (by omega) ⟨?_, fun j hj => ?_, fun j h1 h2 => ?_, fun a k ha hk => ?_⟩
    · rw [u2_s, show tl + (n - (m + 1)) + 1 = tl + (n - m) by omega]
    · rw [u2_a (by decide), u2_k (by omega)]
      exact t2 j hj
    · rw [u2_a (by decide)]
      by_cases z : j = tl + (n - (m + 1))
      · subst z
        rw [u2_s, show tl + n - 1 - (tl + (n - (m + 1))) = m by omega]
      · rw [u2_k z]
        exact t3 j h1 (by omega)
    · show (if a = 106 ∧ k = 6 then _ else u2 J 110 _ _ a k) = I a k
      rw [if_neg hk, u2_a ha]
      exact t4 a k ha hk
theorem relP_n0 {p a k : Nat} (hp : p ≠ 0) (h : relP p a k = true) : a ≠ 2 ∧ ¬ (a = 1 ∧ k = 2) ∧ a ≠ 110 ∧ ¬ (a = 106 ∧ k = 6) ∧ ¬ (a = 106 ∧ k = 0) := by
  match p, hp, h with
  | 0, hp, _ => exact absurd rfl hp
  | 1, _, q => simp only [relP, Bool.or_eq_true, Bool.and_eq_true, decide_eq_true_eq] at q; omega
  | 2, _, q => simp only [relP, Bool.or_eq_true, Bool.and_eq_true, decide_eq_true_eq] at q; omega
  | 3, _, q => simp only [relP, Bool.or_eq_true, Bool.and_eq_true, decide_eq_true_eq] at q; omega
  | 4, _, q => simp only [relP, Bool.or_eq_true, Bool.and_eq_true, decide_eq_true_eq] at q; omega
  | 5, _, q => simp only [relP, Bool.or_eq_true, Bool.and_eq_true, decide_eq_true_eq] at q; omega
  | p + 6, _, q => cases q
theorem op_12 (inv : Inv I L) {v : Int64} {a : Int32} : Op (EE N xs) 12 149 [.long v, .int a] I L := by
  obtain ⟨it, ⟨nc, iy, ib, im⟩, iu, iw, ia⟩ := id inv
  obtain ⟨nt, hnt, t1, t2, t3⟩ := id it
  obtain ⟨y0, y1, y2, y3, y4, y5, y6⟩ := id iy
  obtain ⟨h, h12, b1, b2, b3⟩ := InvB_get ib
  obtain ⟨u, u1, ⟨u2a, u2b⟩, u3q, ⟨u4a, u4b⟩, ⟨u5a, u5b⟩, u6q⟩ := id iu
  by_cases z : 1 ≤ a ∧ a ≤ 8
  · obtain ⟨n, hn, rfl⟩ := nn_of (Int32.le_trans (show (0 : Int32) ≤ 1 by decide) z.1) (n := 8) (by decide) z.2
    have hn1 : 1 ≤ n := by
      have := z.1
      rw [show (1 : Int32) = Int32.ofNat 1 from rfl, iN_le (by decide) (by omega)] at this
      exact this
    have dec : Int32.ofNat (n - 1) = Int32.ofNat n + (-1) := by
      have := iN_dec (a := n - 1)
      rw [show n - 1 + 1 = n by omega] at this
      exact this.symm
    by_cases full : nt + n ≤ 400
    · refine op_im (v := Int32.ofNat (nt + n)) (P := fun J M => M = L ∧ typC I v nt n 0 J) (fun Q K => ?_) (fun J M w Q K => ?_)
      · simp (maxSteps := 2000000) (disch := first | rfl | exact Nat.le_of_ble_eq_true rfl | assumption | omega) only [n_12_0, ri_aload_0, ri_aloadN_0, n_12_1, gf_1000_0, n_12_4, ri_lload_1, n_12_5, ri_iload_3, n_12_6, ri_V, in_13, n_12_9, rt_12, n_13_0, n_13_1, ric_1, n_13_2, ric_8, n_13_4, ri_S, rc_14, n_13_7, ri_if_ne, tn_12, n_13_10, ric_m1, n_13_11, rt_13, n_13_12, n_13_13, gf_350502_1, n_13_16, n_13_17, ri_iadd, n_13_18, ric_400, n_13_21, ri_icmp_le, tn_27, n_13_24, ric_m3, n_13_26, n_13_27, n_13_28, n_13_29, ri_isub, n_13_30, ri_istore, s1_i1, s2_in, s2_io, s2_it, s1_r1, s2_rn, s2_ro, s2_rt, s1_n1, s2_nn, s2_no, s2_nt, s1_j1, s2_jn, s2_jo, s2_jt, sto1_1l, sto1_z, sto2_z0, sto2_z1, sto2_z2, s1_2, s2_2, s1_3, s2_3, s1_4, s2_4, s1_5, s2_5, s1_6, s2_6, s1_7, s2_7, s1_8, s2_8, s1_9, s2_9, s1_10, s2_10, s1_11, s2_11, s1_12, s2_12, s1_13, s2_13, s1_14, s2_14, s1_15, s2_15, tl_c, tl_n, n_13_32, ri_ret, tk_0, tk_1, tk_2, tk_3, tk_4, tk_5, tk_6, tk_7, tk_8, tk_9, tk_10, tk_11, tk_12, tk_13, ri_iload_4, n_13_34, ri_if_lt, tn_81, n_13_37, n_13_38, n_13_41, n_13_44, ri_icmp_ge, n_13_47, n_13_48, gf_110500_1, n_13_51, n_13_52, n_13_55, n_13_56, n_13_58, n_13_60, ri_imul, n_13_61, ri_lushr, n_13_62, ri_l2i, n_13_63, ri_i2b, n_13_64, as_2, as_3, as_5, as_6, as_7, as_10, as_11, as_12, as_39, as_41, as_44, as_45, as_46, as_47, as_49, as_51, as_53, as_107, as_108, as_109, as_110, as_111, as_112, as_113, as_114, as_115, as_116, as_117, as_118, as_119, as_120, as_121, as_122, as_c, as_d, n_13_65, n_13_66, ri_dupI, ri_dupR, ri_dupN, n_13_67, n_13_70, n_13_71, n_13_72, pf_350502_1, n_13_75, rin_4_m1, n_13_78, ri_goto, tn_32, n_13_81, n_13_82, n_13_85, ent_n, ent_i, ent_l, ent_r, ent_u, tL_n, tL_s, ap_n, ap_c, b01, b01L, ite_not, z10, cA0, cB0, cC0, cD0, cE0, cF0, cA1, cB1, cC1, cD1, cE1, cF1, cA2, cB2, cC2, cD2, cE2, cF2, cA3, cB3, cC3, cD3, cE3, cF3, vinT, vinN, li_clamp, iN_clamp, ↓reduceIte, if_true, if_false, iN_add1, iL_add, lI_add, iN_add, lI_mul, iL_mul, iN_mul, iN_sub, iL_sub, lI_sub, and_self, and_true, true_and, and_false, false_and, z10L, lc_eq, lc_lt, lc_le, lc_ge, lc_gt, u2_s, u2_k, u2_a, u2_T1, u2_T2, u2_T3, u2_T4, u2_T5, u2_T6, u2_T7, u2_T8, t1]
        rw [dec]
        refine lp_13 hn full (fun J t => ?_) n I (Nat.le_refl _) ⟨by rw [Nat.sub_self]; exact t1, fun _ _ => rfl, fun j h1 h2 => by omega, fun _ _ _ _ => rfl⟩
        simp (maxSteps := 2000000) (disch := first | rfl | exact Nat.le_of_ble_eq_true rfl | assumption | omega) only [n_12_0, ri_aload_0, ri_aloadN_0, n_12_1, gf_1000_0, n_12_4, ri_lload_1, n_12_5, ri_iload_3, n_12_6, ri_V, n_12_9, rt_12, ent_n, ent_i, ent_l, ent_r, ent_u, tL_n, tL_s, ap_n, ap_c, b01, b01L, ite_not, z10, cA0, cB0, cC0, cD0, cE0, cF0, cA1, cB1, cC1, cD1, cE1, cF1, cA2, cB2, cC2, cD2, cE2, cF2, cA3, cB3, cC3, cD3, cE3, cF3, vinT, vinN, li_clamp, iN_clamp, ↓reduceIte, if_true, if_false, iN_add1, iL_add, lI_add, iN_add, lI_mul, iL_mul, iN_mul, iN_sub, iL_sub, lI_sub, and_self, and_true, true_and, and_false, false_and, z10L, lc_eq, lc_lt, lc_le, lc_ge, lc_gt]
        exact K J L ⟨rfl, t⟩
      · obtain ⟨rfl, c1, c2, c3, c4⟩ := w
        have j6 : J 106 6 = Int32.ofNat nt := (c4 106 6 (by decide) (by omega)).trans t2
        simp (maxSteps := 2000000) (disch := first | rfl | exact Nat.le_of_ble_eq_true rfl | assumption | omega) only [n_149_0, ri_aload_0, ri_aloadN_0, n_149_1, ric_0, n_149_2, pf_1141100_106, n_149_5, ri_iload_3, n_149_6, ric_1, n_149_7, ric_8, n_149_9, ri_S, rc_150, n_149_12, ri_if_ne, tn_17, n_149_15, ric_m1, n_149_16, rt_149, n_149_17, n_149_18, gf_1151106_106, n_149_21, n_149_22, ri_iadd, n_149_23, ric_400, n_149_26, ri_icmp_le, tn_32, n_149_29, ric_m3, n_149_31, n_149_32, n_149_33, n_149_34, ri_isub, n_149_35, ri_istore, s1_i1, s2_in, s2_io, s2_it, s1_r1, s2_rn, s2_ro, s2_rt, s1_n1, s2_nn, s2_no, s2_nt, s1_j1, s2_jn, s2_jo, s2_jt, sto1_1l, sto1_z, sto2_z0, sto2_z1, sto2_z2, s1_2, s2_2, s1_3, s2_3, s1_4, s2_4, s1_5, s2_5, s1_6, s2_6, s1_7, s2_7, s1_8, s2_8, s1_9, s2_9, s1_10, s2_10, s1_11, s2_11, s1_12, s2_12, s1_13, s2_13, s1_14, s2_14, s1_15, s2_15, tl_c, tl_n, n_149_37, ri_ret, tk_0, tk_1, tk_2, tk_3, tk_4, tk_5, tk_6, tk_7, tk_8, tk_9, tk_10, tk_11, tk_12, tk_13, ri_iload_4, n_149_39, ri_if_lt, tn_79, n_149_42, n_149_43, gf_1001105_106, n_149_46, n_149_47, n_149_50, ri_lload_1, n_149_51, n_149_53, n_149_55, ri_imul, n_149_56, ri_lshr, n_149_57, rd2_18, n_149_60, ri_land, n_149_61, ri_l2i, n_149_62, as_2, as_3, as_5, as_6, as_7, as_10, as_11, as_12, as_39, as_41, as_44, as_45, as_46, as_47, as_49, as_51, as_53, as_107, as_108, as_109, as_110, as_111, as_112, as_113, as_114, as_115, as_116, as_117, as_118, as_119, as_120, as_121, as_122, as_c, as_d, n_149_63, n_149_64, ri_dupI, ri_dupR, ri_dupN, n_149_65, n_149_68, n_149_69, n_149_70, pf_1151106_106, n_149_73, rin_4_m1, n_149_76, ri_goto, tn_37, n_149_79, n_149_80, n_149_83, ent_n, ent_i, ent_l, ent_r, ent_u, tL_n, tL_s, ap_n, ap_c, b01, b01L, ite_not, z10, cA0, cB0, cC0, cD0, cE0, cF0, cA1, cB1, cC1, cD1, cE1, cF1, cA2, cB2, cC2, cD2, cE2, cF2, cA3, cB3, cC3, cD3, cE3, cF3, vinT, vinN, li_clamp, iN_clamp, ↓reduceIte, if_true, if_false, iN_add1, iL_add, lI_add, iN_add, lI_mul, iL_mul, iN_mul, iN_sub, iL_sub, lI_sub, and_self, and_true, true_and, and_false, false_and, z10L, lc_eq, lc_lt, lc_le, lc_ge, lc_gt, u2_s, u2_k, u2_a, u2_T1, u2_T2, u2_T3, u2_T4, u2_T5, u2_T6, u2_T7, u2_T8, j6]
        rw [dec]
        refine lp_149 (I := u2 J 106 0 0) hn full (fun J2 t => ?_) n _ (Nat.le_refl _) ⟨by rw [Nat.sub_self, u2_k (by decide)]; exact j6, fun _ _ => rfl, fun j h1 h2 => by omega, fun _ _ _ _ => rfl⟩
        refine K J2 M ?_
        obtain ⟨m1, m2, m3, m4⟩ := t
        have ag : ∀ p, p ≠ 0 → Ag p I J2 := by
          intro p hp a k hr
          obtain ⟨n1, n2, n3, n4, n5⟩ := relP_n0 hp hr
          rw [m4 a k n3 n4]
          show (if a = 106 ∧ k = 0 then 0 else J a k) = I a k
          rw [if_neg n5]
          exact c4 a k n1 n2
        refine ⟨⟨nt + n, full, ?_, m1, fun i hi => ?_⟩, ⟨nc, iy.fr (ag 1 (by decide)) Al.rf, ib.fr (ag 2 (by decide)), im.fr (ag 3 (by decide))⟩, iu.fr (ag 4 (by decide)), iw.fr (ag 5 (by decide)) Al.rf, ia⟩
        · rw [m4 1 2 (by decide) (by omega), u2_a (by decide)]
          exact c1
        · have e2 : J2 2 i = J 2 i := by
            rw [m4 2 i (by decide) (by omega), u2_a (by decide)]
          rw [e2]
          by_cases y : i < nt
          · obtain ⟨b, hb, w1, w2⟩ := t3 i y
            refine ⟨b, hb, ?_, ?_⟩
            · rw [c2 i y]
              exact w1
            · rw [m2 i y, u2_a (by decide), c4 110 i (by decide) (by omega)]
              exact w2
          · exact ⟨_, byF_lt, c3 i (by omega) (by omega), m3 i (by omega) (by omega)⟩
    · apply op_of
      · intro Q
        simp (maxSteps := 2000000) (disch := first | rfl | exact Nat.le_of_ble_eq_true rfl | assumption | omega) only [n_12_0, ri_aload_0, ri_aloadN_0, n_12_1, gf_1000_0, n_12_4, ri_lload_1, n_12_5, ri_iload_3, n_12_6, ri_V, in_13, n_12_9, rt_12, n_13_0, n_13_1, ric_1, n_13_2, ric_8, n_13_4, ri_S, rc_14, n_13_7, ri_if_ne, tn_12, n_13_10, ric_m1, n_13_11, rt_13, n_13_12, n_13_13, gf_350502_1, n_13_16, n_13_17, ri_iadd, n_13_18, ric_400, n_13_21, ri_icmp_le, tn_27, n_13_24, ric_m3, n_13_26, n_13_27, n_13_28, n_13_29, ri_isub, n_13_30, ri_istore, s1_i1, s2_in, s2_io, s2_it, s1_r1, s2_rn, s2_ro, s2_rt, s1_n1, s2_nn, s2_no, s2_nt, s1_j1, s2_jn, s2_jo, s2_jt, sto1_1l, sto1_z, sto2_z0, sto2_z1, sto2_z2, s1_2, s2_2, s1_3, s2_3, s1_4, s2_4, s1_5, s2_5, s1_6, s2_6, s1_7, s2_7, s1_8, s2_8, s1_9, s2_9, s1_10, s2_10, s1_11, s2_11, s1_12, s2_12, s1_13, s2_13, s1_14, s2_14, s1_15, s2_15, tl_c, tl_n, n_13_32, ri_ret, tk_0, tk_1, tk_2, tk_3, tk_4, tk_5, tk_6, tk_7, tk_8, tk_9, tk_10, tk_11, tk_12, tk_13, ri_iload_4, n_13_34, ri_if_lt, tn_81, n_13_37, n_13_38, n_13_41, n_13_44, ri_icmp_ge, n_13_47, n_13_48, gf_110500_1, n_13_51, n_13_52, n_13_55, n_13_56, n_13_58, n_13_60, ri_imul, n_13_61, ri_lushr, n_13_62, ri_l2i, n_13_63, ri_i2b, n_13_64, as_2, as_3, as_5, as_6, as_7, as_10, as_11, as_12, as_39, as_41, as_44, as_45, as_46, as_47, as_49, as_51, as_53, as_107, as_108, as_109, as_110, as_111, as_112, as_113, as_114, as_115, as_116, as_117, as_118, as_119, as_120, as_121, as_122, as_c, as_d, n_13_65, n_13_66, ri_dupI, ri_dupR, ri_dupN, n_13_67, n_13_70, n_13_71, n_13_72, pf_350502_1, n_13_75, rin_4_m1, n_13_78, ri_goto, tn_32, n_13_81, n_13_82, n_13_85, ent_n, ent_i, ent_l, ent_r, ent_u, tL_n, tL_s, ap_n, ap_c, b01, b01L, ite_not, z10, cA0, cB0, cC0, cD0, cE0, cF0, cA1, cB1, cC1, cD1, cE1, cF1, cA2, cB2, cC2, cD2, cE2, cF2, cA3, cB3, cC3, cD3, cE3, cF3, vinT, vinN, li_clamp, iN_clamp, ↓reduceIte, if_true, if_false, iN_add1, iL_add, lI_add, iN_add, lI_mul, iL_mul, iN_mul, iN_sub, iL_sub, lI_sub, and_self, and_true, true_and, and_false, false_and, z10L, lc_eq, lc_lt, lc_le, lc_ge, lc_gt, u2_s, u2_k, u2_a, u2_T1, u2_T2, u2_T3, u2_T4, u2_T5, u2_T6, u2_T7, u2_T8, t1]
        rfl
      · intro Q
        simp (maxSteps := 2000000) (disch := first | rfl | exact Nat.le_of_ble_eq_true rfl | assumption | omega) only [n_149_0, ri_aload_0, ri_aloadN_0, n_149_1, ric_0, n_149_2, pf_1141100_106, n_149_5, ri_iload_3, n_149_6, ric_1, n_149_7, ric_8, n_149_9, ri_S, rc_150, n_149_12, ri_if_ne, tn_17, n_149_15, ric_m1, n_149_16, rt_149, n_149_17, n_149_18, gf_1151106_106, n_149_21, n_149_22, ri_iadd, n_149_23, ric_400, n_149_26, ri_icmp_le, tn_32, n_149_29, ric_m3, n_149_31, n_149_32, n_149_33, n_149_34, ri_isub, n_149_35, ri_istore, s1_i1, s2_in, s2_io, s2_it, s1_r1, s2_rn, s2_ro, s2_rt, s1_n1, s2_nn, s2_no, s2_nt, s1_j1, s2_jn, s2_jo, s2_jt, sto1_1l, sto1_z, sto2_z0, sto2_z1, sto2_z2, s1_2, s2_2, s1_3, s2_3, s1_4, s2_4, s1_5, s2_5, s1_6, s2_6, s1_7, s2_7, s1_8, s2_8, s1_9, s2_9, s1_10, s2_10, s1_11, s2_11, s1_12, s2_12, s1_13, s2_13, s1_14, s2_14, s1_15, s2_15, tl_c, tl_n, n_149_37, ri_ret, tk_0, tk_1, tk_2, tk_3, tk_4, tk_5, tk_6, tk_7, tk_8, tk_9, tk_10, tk_11, tk_12, tk_13, ri_iload_4, n_149_39, ri_if_lt, tn_79, n_149_42, n_149_43, gf_1001105_106, n_149_46, n_149_47, n_149_50, ri_lload_1, n_149_51, n_149_53, n_149_55, ri_imul, n_149_56, ri_lshr, n_149_57, rd2_18, n_149_60, ri_land, n_149_61, ri_l2i, n_149_62, as_2, as_3, as_5, as_6, as_7, as_10, as_11, as_12, as_39, as_41, as_44, as_45, as_46, as_47, as_49, as_51, as_53, as_107, as_108, as_109, as_110, as_111, as_112, as_113, as_114, as_115, as_116, as_117, as_118, as_119, as_120, as_121, as_122, as_c, as_d, n_149_63, n_149_64, ri_dupI, ri_dupR, ri_dupN, n_149_65, n_149_68, n_149_69, n_149_70, pf_1151106_106, n_149_73, rin_4_m1, n_149_76, ri_goto, tn_37, n_149_79, n_149_80, n_149_83, ent_n, ent_i, ent_l, ent_r, ent_u, tL_n, tL_s, ap_n, ap_c, b01, b01L, ite_not, z10, cA0, cB0, cC0, cD0, cE0, cF0, cA1, cB1, cC1, cD1, cE1, cF1, cA2, cB2, cC2, cD2, cE2, cF2, cA3, cB3, cC3, cD3, cE3, cF3, vinT, vinN, li_clamp, iN_clamp, ↓reduceIte, if_true, if_false, iN_add1, iL_add, lI_add, iN_add, lI_mul, iL_mul, iN_mul, iN_sub, iL_sub, lI_sub, and_self, and_true, true_and, and_false, false_and, z10L, lc_eq, lc_lt, lc_le, lc_ge, lc_gt, u2_s, u2_k, u2_a, u2_T1, u2_T2, u2_T3, u2_T4, u2_T5, u2_T6, u2_T7, u2_T8, t2]
        rfl
      · exact thr_ok inv
  · apply op_of
    · intro Q
      simp (maxSteps := 2000000) (disch := first | rfl | exact Nat.le_of_ble_eq_true rfl | assumption | omega) only [n_12_0, ri_aload_0, ri_aloadN_0, n_12_1, gf_1000_0, n_12_4, ri_lload_1, n_12_5, ri_iload_3, n_12_6, ri_V, in_13, n_12_9, rt_12, n_13_0, n_13_1, ric_1, n_13_2, ric_8, n_13_4, ri_S, rc_14, n_13_7, ri_if_ne, tn_12, n_13_10, ric_m1, n_13_11, rt_13, n_13_12, n_13_13, gf_350502_1, n_13_16, n_13_17, ri_iadd, n_13_18, ric_400, n_13_21, ri_icmp_le, tn_27, n_13_24, ric_m3, n_13_26, n_13_27, n_13_28, n_13_29, ri_isub, n_13_30, ri_istore, s1_i1, s2_in, s2_io, s2_it, s1_r1, s2_rn, s2_ro, s2_rt, s1_n1, s2_nn, s2_no, s2_nt, s1_j1, s2_jn, s2_jo, s2_jt, sto1_1l, sto1_z, sto2_z0, sto2_z1, sto2_z2, s1_2, s2_2, s1_3, s2_3, s1_4, s2_4, s1_5, s2_5, s1_6, s2_6, s1_7, s2_7, s1_8, s2_8, s1_9, s2_9, s1_10, s2_10, s1_11, s2_11, s1_12, s2_12, s1_13, s2_13, s1_14, s2_14, s1_15, s2_15, tl_c, tl_n, n_13_32, ri_ret, tk_0, tk_1, tk_2, tk_3, tk_4, tk_5, tk_6, tk_7, tk_8, tk_9, tk_10, tk_11, tk_12, tk_13, ri_iload_4, n_13_34, ri_if_lt, tn_81, n_13_37, n_13_38, n_13_41, n_13_44, ri_icmp_ge, n_13_47, n_13_48, gf_110500_1, n_13_51, n_13_52, n_13_55, n_13_56, n_13_58, n_13_60, ri_imul, n_13_61, ri_lushr, n_13_62, ri_l2i, n_13_63, ri_i2b, n_13_64, as_2, as_3, as_5, as_6, as_7, as_10, as_11, as_12, as_39, as_41, as_44, as_45, as_46, as_47, as_49, as_51, as_53, as_107, as_108, as_109, as_110, as_111, as_112, as_113, as_114, as_115, as_116, as_117, as_118, as_119, as_120, as_121, as_122, as_c, as_d, n_13_65, n_13_66, ri_dupI, ri_dupR, ri_dupN, n_13_67, n_13_70, n_13_71, n_13_72, pf_350502_1, n_13_75, rin_4_m1, n_13_78, ri_goto, tn_32, n_13_81, n_13_82, n_13_85, ent_n, ent_i, ent_l, ent_r, ent_u, tL_n, tL_s, ap_n, ap_c, b01, b01L, ite_not, z10, cA0, cB0, cC0, cD0, cE0, cF0, cA1, cB1, cC1, cD1, cE1, cF1, cA2, cB2, cC2, cD2, cE2, cF2, cA3, cB3, cC3, cD3, cE3, cF3, vinT, vinN, li_clamp, iN_clamp, ↓reduceIte, if_true, if_false, iN_add1, iL_add, lI_add, iN_add, lI_mul, iL_mul, iN_mul, iN_sub, iL_sub, lI_sub, and_self, and_true, true_and, and_false, false_and, z10L, lc_eq, lc_lt, lc_le, lc_ge, lc_gt, u2_s, u2_k, u2_a, u2_T1, u2_T2, u2_T3, u2_T4, u2_T5, u2_T6, u2_T7, u2_T8, z]
      rfl
    · intro Q
      simp (maxSteps := 2000000) (disch := first | rfl | exact Nat.le_of_ble_eq_true rfl | assumption | omega) only [n_149_0, ri_aload_0, ri_aloadN_0, n_149_1, ric_0, n_149_2, pf_1141100_106, n_149_5, ri_iload_3, n_149_6, ric_1, n_149_7, ric_8, n_149_9, ri_S, rc_150, n_149_12, ri_if_ne, tn_17, n_149_15, ric_m1, n_149_16, rt_149, n_149_17, n_149_18, gf_1151106_106, n_149_21, n_149_22, ri_iadd, n_149_23, ric_400, n_149_26, ri_icmp_le, tn_32, n_149_29, ric_m3, n_149_31, n_149_32, n_149_33, n_149_34, ri_isub, n_149_35, ri_istore, s1_i1, s2_in, s2_io, s2_it, s1_r1, s2_rn, s2_ro, s2_rt, s1_n1, s2_nn, s2_no, s2_nt, s1_j1, s2_jn, s2_jo, s2_jt, sto1_1l, sto1_z, sto2_z0, sto2_z1, sto2_z2, s1_2, s2_2, s1_3, s2_3, s1_4, s2_4, s1_5, s2_5, s1_6, s2_6, s1_7, s2_7, s1_8, s2_8, s1_9, s2_9, s1_10, s2_10, s1_11, s2_11, s1_12, s2_12, s1_13, s2_13, s1_14, s2_14, s1_15, s2_15, tl_c, tl_n, n_149_37, ri_ret, tk_0, tk_1, tk_2, tk_3, tk_4, tk_5, tk_6, tk_7, tk_8, tk_9, tk_10, tk_11, tk_12, tk_13, ri_iload_4, n_149_39, ri_if_lt, tn_79, n_149_42, n_149_43, gf_1001105_106, n_149_46, n_149_47, n_149_50, ri_lload_1, n_149_51, n_149_53, n_149_55, ri_imul, n_149_56, ri_lshr, n_149_57, rd2_18, n_149_60, ri_land, n_149_61, ri_l2i, n_149_62, as_2, as_3, as_5, as_6, as_7, as_10, as_11, as_12, as_39, as_41, as_44, as_45, as_46, as_47, as_49, as_51, as_53, as_107, as_108, as_109, as_110, as_111, as_112, as_113, as_114, as_115, as_116, as_117, as_118, as_119, as_120, as_121, as_122, as_c, as_d, n_149_63, n_149_64, ri_dupI, ri_dupR, ri_dupN, n_149_65, n_149_68, n_149_69, n_149_70, pf_1151106_106, n_149_73, rin_4_m1, n_149_76, ri_goto, tn_37, n_149_79, n_149_80, n_149_83, ent_n, ent_i, ent_l, ent_r, ent_u, tL_n, tL_s, ap_n, ap_c, b01, b01L, ite_not, z10, cA0, cB0, cC0, cD0, cE0, cF0, cA1, cB1, cC1, cD1, cE1, cF1, cA2, cB2, cC2, cD2, cE2, cF2, cA3, cB3, cC3, cD3, cE3, cF3, vinT, vinN, li_clamp, iN_clamp, ↓reduceIte, if_true, if_false, iN_add1, iL_add, lI_add, iN_add, lI_mul, iL_mul, iN_mul, iN_sub, iL_sub, lI_sub, and_self, and_true, true_and, and_false, false_and, z10L, lc_eq, lc_lt, lc_le, lc_ge, lc_gt, u2_s, u2_k, u2_a, u2_T1, u2_T2, u2_T3, u2_T4, u2_T5, u2_T6, u2_T7, u2_T8, z]
      rfl
    · exact thr_ok inv
end S52
