/-! THEFT, KEEP, BACK -/
theorem thx (i b j : Nat) : ¬ thd (bk b) j = thd 13 i ∧ ¬ thd (bk b) j + 1 = thd 13 i ∧ ¬ thd (bk b) j = thd 13 i + 1 ∧ ¬ thd (bk b) j + 1 = thd 13 i + 1 := by
  have h1 := thd_lo i
  have h2 := thb_lo b j
  omega
theorem u2_X1 {f : Nat → Nat → Int32} {i b j k : Nat} {v : Int32} : u2 f (thd 13 i) k v (thd (bk b) j) = f (thd (bk b) j) := u2_a (thx i b j).1
theorem u2_X2 {f : Nat → Nat → Int32} {i b j k : Nat} {v : Int32} : u2 f (thd 13 i) k v (thd (bk b) j + 1) = f (thd (bk b) j + 1) := u2_a (thx i b j).2.1
theorem u2_X3 {f : Nat → Nat → Int32} {i b j k : Nat} {v : Int32} : u2 f (thd (bk b) j) k v (thd 13 i) = f (thd 13 i) := u2_a (Ne.symm (thx i b j).1)
theorem u2_X4 {f : Nat → Nat → Int32} {i b j k : Nat} {v : Int32} : u2 f (thd (bk b) j) k v (thd 13 i + 1) = f (thd 13 i + 1) := u2_a (Ne.symm (thx i b j).2.2.1)
theorem u2_X5 {f : Nat → Nat → Int32} {b j k : Nat} {v : Int32} : u2 f (thd (bk b) j) k v (thd (bk b) j + 1) = f (thd (bk b) j + 1) := u2_a (by omega)
/-- the first n thefts of a book are the other's -/
def cpP (dst src n : Nat) (I J : Nat → Nat → Int32) : Prop := (∀ t, t < n → (∀ f, f ≤ 6 → J (thd dst t) f = I (thd src t) f) ∧ ∀ j, j < 5 → J (thd dst t + 1) j = I (thd src t + 1) j) ∧ J dst 1 = I src 1 ∧ ∀ a k, ¬ (dst ≤ a ∧ a ≤ dst + 25) → J a k = I a k
section S41
variable {N : Nat} {xs : Nat → Int32} {I : Nat → Nat → Int32} {L : Nat → Nat → Int64} {Q : Option Value → AH → Prop}
theorem sp_142_f {b i j : Nat} : Rn (EE N xs) 142 0 [.ref (thd 13 i), .ref (thd (bk b) j)] [] (K0, I, L) Q = Q none (K0, u1 (u2 (u2 (u2 (u2 (u2 (u2 (u2 I (thd 13 i) 0 (I (thd (bk b) j) 0)) (thd 13 i) 1 (I (thd (bk b) j) 1)) (thd 13 i) 2 (I (thd (bk b) j) 2)) (thd 13 i) 3 (I (thd (bk b) j) 3)) (thd 13 i) 4 (I (thd (bk b) j) 4)) (thd 13 i) 5 (I (thd (bk b) j) 5)) (thd 13 i) 6 (I (thd (bk b) j) 6)) (thd 13 i + 1) (va_cpy (I (thd (bk b) j + 1)) (I (thd 13 i + 1)) 0 0 5), L) := by
  simp (maxSteps := 2000000) (disch := first | rfl | exact Nat.le_of_ble_eq_true rfl | assumption | omega) only [n_142_0, ri_aload_0, ri_aloadN_0, n_142_1, ri_aload_1, ri_aloadN_1, n_142_2, gf_920600_t, gf_920600_u, n_142_5, pf_920600_t, pf_920600_u, n_142_8, n_142_9, n_142_10, gf_930601_t, gf_930601_u, n_142_13, pf_930601_t, pf_930601_u, n_142_16, n_142_17, n_142_18, gf_940602_t, gf_940602_u, n_142_21, pf_940602_t, pf_940602_u, n_142_24, n_142_25, n_142_26, gf_610603_t, gf_610603_u, n_142_29, pf_610603_t, pf_610603_u, n_142_32, n_142_33, n_142_34, gf_950604_t, gf_950604_u, n_142_37, pf_950604_t, pf_950604_u, n_142_40, n_142_41, n_142_42, gf_600605_t, gf_600605_u, n_142_45, pf_600605_t, pf_600605_u, n_142_48, n_142_49, n_142_50, gf_890606_t, gf_890606_u, n_142_53, pf_890606_t, pf_890606_u, n_142_56, n_142_57, gf_200607_t, gf_200607_u, n_142_60, ric_0, n_142_61, n_142_62, n_142_65, n_142_66, ric_5, n_142_67, cp_5, cp_6, cp_7, cp_t, cp_u, n_142_70, rt_142, ent_n, ent_i, ent_l, ent_r, ent_u, tL_n, tL_s, ap_n, ap_c, b01, b01L, ite_not, z10, cA0, cB0, cC0, cD0, cE0, cF0, cA1, cB1, cC1, cD1, cE1, cF1, cA2, cB2, cC2, cD2, cE2, cF2, cA3, cB3, cC3, cD3, cE3, cF3, vinT, vinN, li_clamp, iN_clamp, ↓reduceIte, if_true, if_false, iN_add1, iL_add, lI_add, iN_add, lI_mul, iL_mul, iN_mul, iN_sub, iL_sub, lI_sub, and_self, and_true, true_and, and_false, false_and, z10L, lc_eq, lc_lt, lc_le, lc_ge, lc_gt, u2_s, u2_k, u2_a, u2_T1, u2_T2, u2_T3, u2_T4, u2_T5, u2_T6, u2_T7, u2_T8, u2_X1, u2_X2, u2_X3, u2_X4, u2_X5, u2_T8]
theorem rc_142_f {M n nx : Nat} {ls r : List Value} {b i j : Nat} (hn : n % 1000 = 142) (hc : cs r ≤ 8) : RnC (EE N xs) 0 M n nx ls (.ref (thd (bk b) j) :: .ref (thd 13 i) :: r) (K0, I, L) Q = Rn (EE N xs) M nx ls (r) (K0, u1 (u2 (u2 (u2 (u2 (u2 (u2 (u2 I (thd 13 i) 0 (I (thd (bk b) j) 0)) (thd 13 i) 1 (I (thd (bk b) j) 1)) (thd 13 i) 2 (I (thd (bk b) j) 2)) (thd 13 i) 3 (I (thd (bk b) j) 3)) (thd 13 i) 4 (I (thd (bk b) j) 4)) (thd 13 i) 5 (I (thd (bk b) j) 5)) (thd 13 i) 6 (I (thd (bk b) j) 6)) (thd 13 i + 1) (va_cpy (I (thd (bk b) j + 1)) (I (thd 13 i + 1)) 0 0 5), L) Q := by
  have e := RnC_V (E := EE N xs) (M := M) (nx := nx) (a := (thd 13 i)) (ls := ls) (as := [.ref (thd (bk b) j)]) (r := r) (h := (K0, I, L)) (Q := Q) hn rfl (show K0[(thd 13 i)]? = some (.inl (ciM 142, _)) from (K0_t13 _)) (show (2 : Nat) ≤ mlM 142 by decide) hc
  exact e.trans (sp_142_f)
theorem cp_step_f {b i n : Nat} {I J : Nat → Nat → Int32} (hn : n < 12) (p : cpP 13 (bk b) n I J) : cpP 13 (bk b) (n + 1) I (u1 (u2 (u2 (u2 (u2 (u2 (u2 (u2 J (thd 13 n) 0 (J (thd (bk b) n) 0)) (thd 13 n) 1 (J (thd (bk b) n) 1)) (thd 13 n) 2 (J (thd (bk b) n) 2)) (thd 13 n) 3 (J (thd (bk b) n) 3)) (thd 13 n) 4 (J (thd (bk b) n) 4)) (thd 13 n) 5 (J (thd (bk b) n) 5)) (thd 13 n) 6 (J (thd (bk b) n) 6)) (thd 13 n + 1) (va_cpy (J (thd (bk b) n + 1)) (J (thd 13 n + 1)) 0 0 5)) := by
  obtain ⟨p1, p2, p3⟩ := p
  have l1 := thd_lo n
  have l2 := thb_lo b n
  have rd : ∀ a k, ¬ a = thd 13 n → ¬ a = thd 13 n + 1 → u1 (u2 (u2 (u2 (u2 (u2 (u2 (u2 J (thd 13 n) 0 (J (thd (bk b) n) 0)) (thd 13 n) 1 (J (thd (bk b) n) 1)) (thd 13 n) 2 (J (thd (bk b) n) 2)) (thd 13 n) 3 (J (thd (bk b) n) 3)) (thd 13 n) 4 (J (thd (bk b) n) 4)) (thd 13 n) 5 (J (thd (bk b) n) 5)) (thd 13 n) 6 (J (thd (bk b) n) 6)) (thd 13 n + 1) (va_cpy (J (thd (bk b) n + 1)) (J (thd 13 n + 1)) 0 0 5) a k = J a k := by
    intro a k h1 h2
    show (if a = thd 13 n + 1 then (_ : Nat → Int32) else _) k = _
    rw [if_neg h2, u2_a h1, u2_a h1, u2_a h1, u2_a h1, u2_a h1, u2_a h1, u2_a h1]
  have s0 : ∀ k, J (thd (bk b) n) k = I (thd (bk b) n) k := fun k => p3 _ _ (by omega)
  have s1 : ∀ k, J (thd (bk b) n + 1) k = I (thd (bk b) n + 1) k := fun k => p3 _ _ (by omega)
  refine ⟨fun t ht => ?_, ?_, fun a k h => ?_⟩
  · by_cases z : t = n
    · have z2 := z.symm
      subst z2
      constructor
      · intro f hf
        have e : u1 (u2 (u2 (u2 (u2 (u2 (u2 (u2 J (thd 13 n) 0 (J (thd (bk b) n) 0)) (thd 13 n) 1 (J (thd (bk b) n) 1)) (thd 13 n) 2 (J (thd (bk b) n) 2)) (thd 13 n) 3 (J (thd (bk b) n) 3)) (thd 13 n) 4 (J (thd (bk b) n) 4)) (thd 13 n) 5 (J (thd (bk b) n) 5)) (thd 13 n) 6 (J (thd (bk b) n) 6)) (thd 13 n + 1) (va_cpy (J (thd (bk b) n + 1)) (J (thd 13 n + 1)) 0 0 5) (thd 13 n) f = (u2 (u2 (u2 (u2 (u2 (u2 (u2 J (thd 13 n) 0 (J (thd (bk b) n) 0)) (thd 13 n) 1 (J (thd (bk b) n) 1)) (thd 13 n) 2 (J (thd (bk b) n) 2)) (thd 13 n) 3 (J (thd (bk b) n) 3)) (thd 13 n) 4 (J (thd (bk b) n) 4)) (thd 13 n) 5 (J (thd (bk b) n) 5)) (thd 13 n) 6 (J (thd (bk b) n) 6)) (thd 13 n) f := by
          show (if thd 13 n = thd 13 n + 1 then (_ : Nat → Int32) else _) f = _
          rw [if_neg (by omega)]
        rw [e]
        match f, hf with
        | 0, _ => simp (disch := omega) only [u2_k, u2_s]; exact s0 0
        | 1, _ => simp (disch := omega) only [u2_k, u2_s]; exact s0 1
        | 2, _ => simp (disch := omega) only [u2_k, u2_s]; exact s0 2
        | 3, _ => simp (disch := omega) only [u2_k, u2_s]; exact s0 3
        | 4, _ => simp (disch := omega) only [u2_k, u2_s]; exact s0 4
        | 5, _ => simp (disch := omega) only [u2_k, u2_s]; exact s0 5
        | 6, _ => simp (disch := omega) only [u2_k, u2_s]; exact s0 6
        | f + 7, hf => omega
      · intro j hj
        show (if thd 13 n + 1 = thd 13 n + 1 then (_ : Nat → Int32) else _) j = _
        rw [if_pos rfl]
        show (if 0 ≤ j ∧ j < 0 + 5 then J (thd (bk b) n + 1) (0 + (j - 0)) else _) = _
        rw [if_pos (by omega), show 0 + (j - 0) = j by omega]
        exact s1 j
    · have hl : t < n := by omega
      obtain ⟨q1, q2⟩ := p1 t hl
      have ne : ¬ thd 13 t = thd 13 n ∧ ¬ thd 13 t = thd 13 n + 1 ∧ ¬ thd 13 t + 1 = thd 13 n := by
        unfold thd
        rw [Nat.mod_eq_of_lt (by omega : t < 12), Nat.mod_eq_of_lt hn]
        omega
      constructor
      · intro f hf
        rw [rd _ _ ne.1 ne.2.1]
        exact q1 f hf
      · intro j hj
        rw [rd _ _ ne.2.2 (by omega)]
        exact q2 j hj
  · rw [rd _ _ (by omega) (by omega)]
    exact p2
  · rw [rd _ _ (by omega) (by omega)]
    exact p3 a k h
theorem lp_141_f {b : Nat} : ∀ d n J, n + d = 12 → cpP 13 (bk b) n I J → (∀ J, cpP 13 (bk b) 12 I J → Q none (K0, J, L)) → Rn (EE N xs) 141 10010 [.ref 13, .ref (bk b), .int (Int32.ofNat n)] [] (K0, J, L) Q
  | 0, n, J, e, p, k => by
    have e : n = 12 := e
    subst e
    rw [n_141_10010]
    simp (maxSteps := 2000000) (disch := first | rfl | exact Nat.le_of_ble_eq_true rfl | assumption | omega) only [n_141_0, ri_aload_0, ri_aloadN_0, n_141_1, ri_aload_1, ri_aloadN_1, n_141_2, gf_450001_13, gf_450001_b, n_141_5, pf_450001_13, pf_450001_b, n_141_8, ric_0, n_141_9, ri_istore, s1_i1, s2_in, s2_io, s2_it, s1_r1, s2_rn, s2_ro, s2_rt, s1_n1, s2_nn, s2_no, s2_nt, s1_j1, s2_jn, s2_jo, s2_jt, sto1_1l, sto1_z, sto2_z0, sto2_z1, sto2_z2, s1_2, s2_2, s1_3, s2_3, s1_4, s2_4, s1_5, s2_5, s1_6, s2_6, s1_7, s2_7, s1_8, s2_8, s1_9, s2_9, s1_10, s2_10, s1_11, s2_11, s1_12, s2_12, s1_13, s2_13, s1_14, s2_14, s1_15, s2_15, tl_c, tl_n, n_141_10, ri_ret, tk_0, tk_1, tk_2, tk_3, tk_4, tk_5, tk_6, tk_7, tk_8, tk_9, tk_10, tk_11, tk_12, tk_13, ri_iload_2, n_141_11, ric_12, n_141_13, ri_icmp_ge, tn_55, n_141_16, n_141_17, gf_190000_13, gf_190000_b, n_141_20, n_141_21, al_2, al_3, al_5, al_6, al_7, al_10, al_11, al_12, al_39, al_41, al_44, al_45, al_46, al_47, al_49, al_51, al_53, al_107, al_108, al_109, al_110, al_111, al_112, al_113, al_114, al_115, al_116, al_117, al_118, al_119, al_120, al_121, al_122, al_c, al_d, al_14, al_bk, al_52, al_x0, al_x1, al_x2, al_x3, n_141_22, ri_ifnullN, ri_ifnullR, tn_49, n_141_25, n_141_26, n_141_29, n_141_30, n_141_31, n_141_34, n_141_35, n_141_38, n_141_39, n_141_40, n_141_41, n_141_44, n_141_45, n_141_46, ri_V, rc_142_f, n_141_49, rin_2_1, n_141_52, ri_goto, tn_10, n_141_55, rt_141, ent_n, ent_i, ent_l, ent_r, ent_u, tL_n, tL_s, ap_n, ap_c, b01, b01L, ite_not, z10, cA0, cB0, cC0, cD0, cE0, cF0, cA1, cB1, cC1, cD1, cE1, cF1, cA2, cB2, cC2, cD2, cE2, cF2, cA3, cB3, cC3, cD3, cE3, cF3, vinT, vinN, li_clamp, iN_clamp, ↓reduceIte, if_true, if_false, iN_add1, iL_add, lI_add, iN_add, lI_mul, iL_mul, iN_mul, iN_sub, iL_sub, lI_sub, and_self, and_true, true_and, and_false, false_and, z10L, lc_eq, lc_lt, lc_le, lc_ge, lc_gt, u2_s, u2_k, u2_a, u2_T1, u2_T2, u2_T3, u2_T4, u2_T5, u2_T6, u2_T7, u2_T8]
    exact k J p
  | d + 1, n, J, e, p, k => by
    rw [n_141_10010]
    simp (maxSteps := 2000000) (disch := first | rfl | exact Nat.le_of_ble_eq_true rfl | assumption | omega) only [n_141_0, ri_aload_0, ri_aloadN_0, n_141_1, ri_aload_1, ri_aloadN_1, n_141_2, gf_450001_13, gf_450001_b, n_141_5, pf_450001_13, pf_450001_b, n_141_8, ric_0, n_141_9, ri_istore, s1_i1, s2_in, s2_io, s2_it, s1_r1, s2_rn, s2_ro, s2_rt, s1_n1, s2_nn, s2_no, s2_nt, s1_j1, s2_jn, s2_jo, s2_jt, sto1_1l, sto1_z, sto2_z0, sto2_z1, sto2_z2, s1_2, s2_2, s1_3, s2_3, s1_4, s2_4, s1_5, s2_5, s1_6, s2_6, s1_7, s2_7, s1_8, s2_8, s1_9, s2_9, s1_10, s2_10, s1_11, s2_11, s1_12, s2_12, s1_13, s2_13, s1_14, s2_14, s1_15, s2_15, tl_c, tl_n, n_141_10, ri_ret, tk_0, tk_1, tk_2, tk_3, tk_4, tk_5, tk_6, tk_7, tk_8, tk_9, tk_10, tk_11, tk_12, tk_13, ri_iload_2, n_141_11, ric_12, n_141_13, ri_icmp_ge, tn_55, n_141_16, n_141_17, gf_190000_13, gf_190000_b, n_141_20, n_141_21, al_2, al_3, al_5, al_6, al_7, al_10, al_11, al_12, al_39, al_41, al_44, al_45, al_46, al_47, al_49, al_51, al_53, al_107, al_108, al_109, al_110, al_111, al_112, al_113, al_114, al_115, al_116, al_117, al_118, al_119, al_120, al_121, al_122, al_c, al_d, al_14, al_bk, al_52, al_x0, al_x1, al_x2, al_x3, n_141_22, ri_ifnullN, ri_ifnullR, tn_49, n_141_25, n_141_26, n_141_29, n_141_30, n_141_31, n_141_34, n_141_35, n_141_38, n_141_39, n_141_40, n_141_41, n_141_44, n_141_45, n_141_46, ri_V, rc_142_f, n_141_49, rin_2_1, n_141_52, ri_goto, tn_10, n_141_55, rt_141, ent_n, ent_i, ent_l, ent_r, ent_u, tL_n, tL_s, ap_n, ap_c, b01, b01L, ite_not, z10, cA0, cB0, cC0, cD0, cE0, cF0, cA1, cB1, cC1, cD1, cE1, cF1, cA2, cB2, cC2, cD2, cE2, cF2, cA3, cB3, cC3, cD3, cE3, cF3, vinT, vinN, li_clamp, iN_clamp, ↓reduceIte, if_true, if_false, iN_add1, iL_add, lI_add, iN_add, lI_mul, iL_mul, iN_mul, iN_sub, iL_sub, lI_sub, and_self, and_true, true_and, and_false, false_and, z10L, lc_eq, lc_lt, lc_le, lc_ge, lc_gt, u2_s, u2_k, u2_a, u2_T1, u2_T2, u2_T3, u2_T4, u2_T5, u2_T6, u2_T7, u2_T8]
    exact lp_141_f d (n + 1) _ (by omega) (cp_step_f (i := 0) (by omega) p) k
theorem sp_141_f {b : Nat} (k : ∀ J, cpP 13 (bk b) 12 I J → Q none (K0, J, L)) : Rn (EE N xs) 141 0 [.ref 13, .ref (bk b)] [] (K0, I, L) Q := by
  simp (maxSteps := 2000000) (disch := first | rfl | exact Nat.le_of_ble_eq_true rfl | assumption | omega) only [n_141_0, ri_aload_0, ri_aloadN_0, n_141_1, ri_aload_1, ri_aloadN_1, n_141_2, gf_450001_13, gf_450001_b, n_141_5, pf_450001_13, pf_450001_b, n_141_8, ric_0, n_141_9, ri_istore, s1_i1, s2_in, s2_io, s2_it, s1_r1, s2_rn, s2_ro, s2_rt, s1_n1, s2_nn, s2_no, s2_nt, s1_j1, s2_jn, s2_jo, s2_jt, sto1_1l, sto1_z, sto2_z0, sto2_z1, sto2_z2, s1_2, s2_2, s1_3, s2_3, s1_4, s2_4, s1_5, s2_5, s1_6, s2_6, s1_7, s2_7, s1_8, s2_8, s1_9, s2_9, s1_10, s2_10, s1_11, s2_11, s1_12, s2_12, s1_13, s2_13, s1_14, s2_14, s1_15, s2_15, tl_c, tl_n, n_141_10, ri_ret, tk_0, tk_1, tk_2, tk_3, tk_4, tk_5, tk_6, tk_7, tk_8, tk_9, tk_10, tk_11, tk_12, tk_13, ri_iload_2, n_141_11, ric_12, n_141_13, ri_icmp_ge, tn_55, n_141_16, n_141_17, gf_190000_13, gf_190000_b, n_141_20, n_141_21, al_2, al_3, al_5, al_6, al_7, al_10, al_11, al_12, al_39, al_41, al_44, al_45, al_46, al_47, al_49, al_51, al_53, al_107, al_108, al_109, al_110, al_111, al_112, al_113, al_114, al_115, al_116, al_117, al_118, al_119, al_120, al_121, al_122, al_c, al_d, al_14, al_bk, al_52, al_x0, al_x1, al_x2, al_x3, n_141_22, ri_ifnullN, ri_ifnullR, tn_49, n_141_25, n_141_26, n_141_29, n_141_30, n_141_31, n_141_34, n_141_35, n_141_38, n_141_39, n_141_40, n_141_41, n_141_44, n_141_45, n_141_46, ri_V, rc_142_f, n_141_49, rin_2_1, n_141_52, ri_goto, tn_10, n_141_55, rt_141, ent_n, ent_i, ent_l, ent_r, ent_u, tL_n, tL_s, ap_n, ap_c, b01, b01L, ite_not, z10, cA0, cB0, cC0, cD0, cE0, cF0, cA1, cB1, cC1, cD1, cE1, cF1, cA2, cB2, cC2, cD2, cE2, cF2, cA3, cB3, cC3, cD3, cE3, cF3, vinT, vinN, li_clamp, iN_clamp, ↓reduceIte, if_true, if_false, iN_add1, iL_add, lI_add, iN_add, lI_mul, iL_mul, iN_mul, iN_sub, iL_sub, lI_sub, and_self, and_true, true_and, and_false, false_and, z10L, lc_eq, lc_lt, lc_le, lc_ge, lc_gt, u2_s, u2_k, u2_a, u2_T1, u2_T2, u2_T3, u2_T4, u2_T5, u2_T6, u2_T7, u2_T8]
  refine lp_141_f (b := b) 12 0 _ rfl ⟨fun t ht => by omega, ?_, fun a j h => ?_⟩ k
  · rw [u2_s]
  · exact congrFun (u2_a (by omega)) j
theorem sp_142_g {b i j : Nat} : Rn (EE N xs) 142 0 [.ref (thd (bk b) i), .ref (thd 13 j)] [] (K0, I, L) Q = Q none (K0, u1 (u2 (u2 (u2 (u2 (u2 (u2 (u2 I (thd (bk b) i) 0 (I (thd 13 j) 0)) (thd (bk b) i) 1 (I (thd 13 j) 1)) (thd (bk b) i) 2 (I (thd 13 j) 2)) (thd (bk b) i) 3 (I (thd 13 j) 3)) (thd (bk b) i) 4 (I (thd 13 j) 4)) (thd (bk b) i) 5 (I (thd 13 j) 5)) (thd (bk b) i) 6 (I (thd 13 j) 6)) (thd (bk b) i + 1) (va_cpy (I (thd 13 j + 1)) (I (thd (bk b) i + 1)) 0 0 5), L) := by
  simp (maxSteps := 2000000) (disch := first | rfl | exact Nat.le_of_ble_eq_true rfl | assumption | omega) only [n_142_0, ri_aload_0, ri_aloadN_0, n_142_1, ri_aload_1, ri_aloadN_1, n_142_2, gf_920600_t, gf_920600_u, n_142_5, pf_920600_t, pf_920600_u, n_142_8, n_142_9, n_142_10, gf_930601_t, gf_930601_u, n_142_13, pf_930601_t, pf_930601_u, n_142_16, n_142_17, n_142_18, gf_940602_t, gf_940602_u, n_142_21, pf_940602_t, pf_940602_u, n_142_24, n_142_25, n_142_26, gf_610603_t, gf_610603_u, n_142_29, pf_610603_t, pf_610603_u, n_142_32, n_142_33, n_142_34, gf_950604_t, gf_950604_u, n_142_37, pf_950604_t, pf_950604_u, n_142_40, n_142_41, n_142_42, gf_600605_t, gf_600605_u, n_142_45, pf_600605_t, pf_600605_u, n_142_48, n_142_49, n_142_50, gf_890606_t, gf_890606_u, n_142_53, pf_890606_t, pf_890606_u, n_142_56, n_142_57, gf_200607_t, gf_200607_u, n_142_60, ric_0, n_142_61, n_142_62, n_142_65, n_142_66, ric_5, n_142_67, cp_5, cp_6, cp_7, cp_t, cp_u, n_142_70, rt_142, ent_n, ent_i, ent_l, ent_r, ent_u, tL_n, tL_s, ap_n, ap_c, b01, b01L, ite_not, z10, cA0, cB0, cC0, cD0, cE0, cF0, cA1, cB1, cC1, cD1, cE1, cF1, cA2, cB2, cC2, cD2, cE2, cF2, cA3, cB3, cC3, cD3, cE3, cF3, vinT, vinN, li_clamp, iN_clamp, ↓reduceIte, if_true, if_false, iN_add1, iL_add, lI_add, iN_add, lI_mul, iL_mul, iN_mul, iN_sub, iL_sub, lI_sub, and_self, and_true, true_and, and_false, false_and, z10L, lc_eq, lc_lt, lc_le, lc_ge, lc_gt, u2_s, u2_k, u2_a, u2_T1, u2_T2, u2_T3, u2_T4, u2_T5, u2_T6, u2_T7, u2_T8, u2_X1, u2_X2, u2_X3, u2_X4, u2_X5, u2_T8]
theorem rc_142_g {M n nx : Nat} {ls r : List Value} {b i j : Nat} (hn : n % 1000 = 142) (hc : cs r ≤ 8) : RnC (EE N xs) 0 M n nx ls (.ref (thd 13 j) :: .ref (thd (bk b) i) :: r) (K0, I, L) Q = Rn (EE N xs) M nx ls (r) (K0, u1 (u2 (u2 (u2 (u2 (u2 (u2 (u2 I (thd (bk b) i) 0 (I (thd 13 j) 0)) (thd (bk b) i) 1 (I (thd 13 j) 1)) (thd (bk b) i) 2 (I (thd 13 j) 2)) (thd (bk b) i) 3 (I (thd 13 j) 3)) (thd (bk b) i) 4 (I (thd 13 j) 4)) (thd (bk b) i) 5 (I (thd 13 j) 5)) (thd (bk b) i) 6 (I (thd 13 j) 6)) (thd (bk b) i + 1) (va_cpy (I (thd 13 j + 1)) (I (thd (bk b) i + 1)) 0 0 5), L) Q := by
  have e := RnC_V (E := EE N xs) (M := M) (nx := nx) (a := (thd (bk b) i)) (ls := ls) (as := [.ref (thd 13 j)]) (r := r) (h := (K0, I, L)) (Q := Q) hn rfl (show K0[(thd (bk b) i)]? = some (.inl (ciM 142, _)) from (K0_tb _ _)) (show (2 : Nat) ≤ mlM 142 by decide) hc
  exact e.trans (sp_142_g)
theorem cp_step_g {b i n : Nat} {I J : Nat → Nat → Int32} (hn : n < 12) (p : cpP (bk b) 13 n I J) : cpP (bk b) 13 (n + 1) I (u1 (u2 (u2 (u2 (u2 (u2 (u2 (u2 J (thd (bk b) n) 0 (J (thd 13 n) 0)) (thd (bk b) n) 1 (J (thd 13 n) 1)) (thd (bk b) n) 2 (J (thd 13 n) 2)) (thd (bk b) n) 3 (J (thd 13 n) 3)) (thd (bk b) n) 4 (J (thd 13 n) 4)) (thd (bk b) n) 5 (J (thd 13 n) 5)) (thd (bk b) n) 6 (J (thd 13 n) 6)) (thd (bk b) n + 1) (va_cpy (J (thd 13 n + 1)) (J (thd (bk b) n + 1)) 0 0 5)) := by
  obtain ⟨p1, p2, p3⟩ := p
  have l1 := thd_lo n
  have l2 := thb_lo b n
  have rd : ∀ a k, ¬ a = thd (bk b) n → ¬ a = thd (bk b) n + 1 → u1 (u2 (u2 (u2 (u2 (u2 (u2 (u2 J (thd (bk b) n) 0 (J (thd 13 n) 0)) (thd (bk b) n) 1 (J (thd 13 n) 1)) (thd (bk b) n) 2 (J (thd 13 n) 2)) (thd (bk b) n) 3 (J (thd 13 n) 3)) (thd (bk b) n) 4 (J (thd 13 n) 4)) (thd (bk b) n) 5 (J (thd 13 n) 5)) (thd (bk b) n) 6 (J (thd 13 n) 6)) (thd (bk b) n + 1) (va_cpy (J (thd 13 n + 1)) (J (thd (bk b) n + 1)) 0 0 5) a k = J a k := by
    intro a k h1 h2
    show (if a = thd (bk b) n + 1 then (_ : Nat → Int32) else _) k = _
    rw [if_neg h2, u2_a h1, u2_a h1, u2_a h1, u2_a h1, u2_a h1, u2_a h1, u2_a h1]
  have s0 : ∀ k, J (thd 13 n) k = I (thd 13 n) k := fun k => p3 _ _ (by omega)
  have s1 : ∀ k, J (thd 13 n + 1) k = I (thd 13 n + 1) k := fun k => p3 _ _ (by omega)
  refine ⟨fun t ht => ?_, ?_, fun a k h => ?_⟩
  · by_cases z : t = n
    · have z2 := z.symm
      subst z2
      constructor
      · intro f hf
        have e : u1 (u2 (u2 (u2 (u2 (u2 (u2 (u2 J (thd (bk b) n) 0 (J (thd 13 n) 0)) (thd (bk b) n) 1 (J (thd 13 n) 1)) (thd (bk b) n) 2 (J (thd 13 n) 2)) (thd (bk b) n) 3 (J (thd 13 n) 3)) (thd (bk b) n) 4 (J (thd 13 n) 4)) (thd (bk b) n) 5 (J (thd 13 n) 5)) (thd (bk b) n) 6 (J (thd 13 n) 6)) (thd (bk b) n + 1) (va_cpy (J (thd 13 n + 1)) (J (thd (bk b) n + 1)) 0 0 5) (thd (bk b) n) f = (u2 (u2 (u2 (u2 (u2 (u2 (u2 J (thd (bk b) n) 0 (J (thd 13 n) 0)) (thd (bk b) n) 1 (J (thd 13 n) 1)) (thd (bk b) n) 2 (J (thd 13 n) 2)) (thd (bk b) n) 3 (J (thd 13 n) 3)) (thd (bk b) n) 4 (J (thd 13 n) 4)) (thd (bk b) n) 5 (J (thd 13 n) 5)) (thd (bk b) n) 6 (J (thd 13 n) 6)) (thd (bk b) n) f := by
          show (if thd (bk b) n = thd (bk b) n + 1 then (_ : Nat → Int32) else _) f = _
          rw [if_neg (by omega)]
        rw [e]
        match f, hf with
        | 0, _ => simp (disch := omega) only [u2_k, u2_s]; exact s0 0
        | 1, _ => simp (disch := omega) only [u2_k, u2_s]; exact s0 1
        | 2, _ => simp (disch := omega) only [u2_k, u2_s]; exact s0 2
        | 3, _ => simp (disch := omega) only [u2_k, u2_s]; exact s0 3
        | 4, _ => simp (disch := omega) only [u2_k, u2_s]; exact s0 4
        | 5, _ => simp (disch := omega) only [u2_k, u2_s]; exact s0 5
        | 6, _ => simp (disch := omega) only [u2_k, u2_s]; exact s0 6
        | f + 7, hf => omega
      · intro j hj
        show (if thd (bk b) n + 1 = thd (bk b) n + 1 then (_ : Nat → Int32) else _) j = _
        rw [if_pos rfl]
        show (if 0 ≤ j ∧ j < 0 + 5 then J (thd 13 n + 1) (0 + (j - 0)) else _) = _
        rw [if_pos (by omega), show 0 + (j - 0) = j by omega]
        exact s1 j
    · have hl : t < n := by omega
      obtain ⟨q1, q2⟩ := p1 t hl
      have ne : ¬ thd (bk b) t = thd (bk b) n ∧ ¬ thd (bk b) t = thd (bk b) n + 1 ∧ ¬ thd (bk b) t + 1 = thd (bk b) n := by
        unfold thd
        rw [Nat.mod_eq_of_lt (by omega : t < 12), Nat.mod_eq_of_lt hn]
        omega
      constructor
      · intro f hf
        rw [rd _ _ ne.1 ne.2.1]
        exact q1 f hf
      · intro j hj
        rw [rd _ _ ne.2.2 (by omega)]
        exact q2 j hj
  · rw [rd _ _ (by omega) (by omega)]
    exact p2
  · rw [rd _ _ (by omega) (by omega)]
    exact p3 a k h
theorem lp_141_g {b : Nat} : ∀ d n J, n + d = 12 → cpP (bk b) 13 n I J → (∀ J, cpP (bk b) 13 12 I J → Q none (K0, J, L)) → Rn (EE N xs) 141 10010 [.ref (bk b), .ref 13, .int (Int32.ofNat n)] [] (K0, J, L) Q
  | 0, n, J, e, p, k => by
    have e : n = 12 := e
    subst e
    rw [n_141_10010]
    simp (maxSteps := 2000000) (disch := first | rfl | exact Nat.le_of_ble_eq_true rfl | assumption | omega) only [n_141_0, ri_aload_0, ri_aloadN_0, n_141_1, ri_aload_1, ri_aloadN_1, n_141_2, gf_450001_13, gf_450001_b, n_141_5, pf_450001_13, pf_450001_b, n_141_8, ric_0, n_141_9, ri_istore, s1_i1, s2_in, s2_io, s2_it, s1_r1, s2_rn, s2_ro, s2_rt, s1_n1, s2_nn, s2_no, s2_nt, s1_j1, s2_jn, s2_jo, s2_jt, sto1_1l, sto1_z, sto2_z0, sto2_z1, sto2_z2, s1_2, s2_2, s1_3, s2_3, s1_4, s2_4, s1_5, s2_5, s1_6, s2_6, s1_7, s2_7, s1_8, s2_8, s1_9, s2_9, s1_10, s2_10, s1_11, s2_11, s1_12, s2_12, s1_13, s2_13, s1_14, s2_14, s1_15, s2_15, tl_c, tl_n, n_141_10, ri_ret, tk_0, tk_1, tk_2, tk_3, tk_4, tk_5, tk_6, tk_7, tk_8, tk_9, tk_10, tk_11, tk_12, tk_13, ri_iload_2, n_141_11, ric_12, n_141_13, ri_icmp_ge, tn_55, n_141_16, n_141_17, gf_190000_13, gf_190000_b, n_141_20, n_141_21, al_2, al_3, al_5, al_6, al_7, al_10, al_11, al_12, al_39, al_41, al_44, al_45, al_46, al_47, al_49, al_51, al_53, al_107, al_108, al_109, al_110, al_111, al_112, al_113, al_114, al_115, al_116, al_117, al_118, al_119, al_120, al_121, al_122, al_c, al_d, al_14, al_bk, al_52, al_x0, al_x1, al_x2, al_x3, n_141_22, ri_ifnullN, ri_ifnullR, tn_49, n_141_25, n_141_26, n_141_29, n_141_30, n_141_31, n_141_34, n_141_35, n_141_38, n_141_39, n_141_40, n_141_41, n_141_44, n_141_45, n_141_46, ri_V, rc_142_f, rc_142_g, n_141_49, rin_2_1, n_141_52, ri_goto, tn_10, n_141_55, rt_141, ent_n, ent_i, ent_l, ent_r, ent_u, tL_n, tL_s, ap_n, ap_c, b01, b01L, ite_not, z10, cA0, cB0, cC0, cD0, cE0, cF0, cA1, cB1, cC1, cD1, cE1, cF1, cA2, cB2, cC2, cD2, cE2, cF2, cA3, cB3, cC3, cD3, cE3, cF3, vinT, vinN, li_clamp, iN_clamp, ↓reduceIte, if_true, if_false, iN_add1, iL_add, lI_add, iN_add, lI_mul, iL_mul, iN_mul, iN_sub, iL_sub, lI_sub, and_self, and_true, true_and, and_false, false_and, z10L, lc_eq, lc_lt, lc_le, lc_ge, lc_gt, u2_s, u2_k, u2_a, u2_T1, u2_T2, u2_T3, u2_T4, u2_T5, u2_T6, u2_T7, u2_T8]
    exact k J p
  | d + 1, n, J, e, p, k => by
    rw [n_141_10010]
    simp (maxSteps := 2000000) (disch := first | rfl | exact Nat.le_of_ble_eq_true rfl | assumption | omega) only [n_141_0, ri_aload_0, ri_aloadN_0, n_141_1, ri_aload_1, ri_aloadN_1, n_141_2, gf_450001_13, gf_450001_b, n_141_5, pf_450001_13, pf_450001_b, n_141_8, ric_0, n_141_9, ri_istore, s1_i1, s2_in, s2_io, s2_it, s1_r1, s2_rn, s2_ro, s2_rt, s1_n1, s2_nn, s2_no, s2_nt, s1_j1, s2_jn, s2_jo, s2_jt, sto1_1l, sto1_z, sto2_z0, sto2_z1, sto2_z2, s1_2, s2_2, s1_3, s2_3, s1_4, s2_4, s1_5, s2_5, s1_6, s2_6, s1_7, s2_7, s1_8, s2_8, s1_9, s2_9, s1_10, s2_10, s1_11, s2_11, s1_12, s2_12, s1_13, s2_13, s1_14, s2_14, s1_15, s2_15, tl_c, tl_n, n_141_10, ri_ret, tk_0, tk_1, tk_2, tk_3, tk_4, tk_5, tk_6, tk_7, tk_8, tk_9, tk_10, tk_11, tk_12, tk_13, ri_iload_2, n_141_11, ric_12, n_141_13, ri_icmp_ge, tn_55, n_141_16, n_141_17, gf_190000_13, gf_190000_b, n_141_20, n_141_21, al_2, al_3, al_5, al_6, al_7, al_10, al_11, al_12, al_39, al_41, al_44, al_45, al_46, al_47, al_49, al_51, al_53, al_107, al_108, al_109, al_110, al_111, al_112, al_113, al_114, al_115, al_116, al_117, al_118, al_119, al_120, al_121, al_122, al_c, al_d, al_14, al_bk, al_52, al_x0, al_x1, al_x2, al_x3, n_141_22, ri_ifnullN, ri_ifnullR, tn_49, n_141_25, n_141_26, n_141_29, n_141_30, n_141_31, n_141_34, n_141_35, n_141_38, n_141_39, n_141_40, n_141_41, n_141_44, n_141_45, n_141_46, ri_V, rc_142_f, rc_142_g, n_141_49, rin_2_1, n_141_52, ri_goto, tn_10, n_141_55, rt_141, ent_n, ent_i, ent_l, ent_r, ent_u, tL_n, tL_s, ap_n, ap_c, b01, b01L, ite_not, z10, cA0, cB0, cC0, cD0, cE0, cF0, cA1, cB1, cC1, cD1, cE1, cF1, cA2, cB2, cC2, cD2, cE2, cF2, cA3, cB3, cC3, cD3, cE3, cF3, vinT, vinN, li_clamp, iN_clamp, ↓reduceIte, if_true, if_false, iN_add1, iL_add, lI_add, iN_add, lI_mul, iL_mul, iN_mul, iN_sub, iL_sub, lI_sub, and_self, and_true, true_and, and_false, false_and, z10L, lc_eq, lc_lt, lc_le, lc_ge, lc_gt, u2_s, u2_k, u2_a, u2_T1, u2_T2, u2_T3, u2_T4, u2_T5, u2_T6, u2_T7, u2_T8]
    exact lp_141_g d (n + 1) _ (by omega) (cp_step_g (i := 0) (by omega) p) k
theorem sp_141_g {b : Nat} (k : ∀ J, cpP (bk b) 13 12 I J → Q none (K0, J, L)) : Rn (EE N xs) 141 0 [.ref (bk b), .ref 13] [] (K0, I, L) Q := by
  simp (maxSteps := 2000000) (disch := first | rfl | exact Nat.le_of_ble_eq_true rfl | assumption | omega) only [n_141_0, ri_aload_0, ri_aloadN_0, n_141_1, ri_aload_1, ri_aloadN_1, n_141_2, gf_450001_13, gf_450001_b, n_141_5, pf_450001_13, pf_450001_b, n_141_8, ric_0, n_141_9, ri_istore, s1_i1, s2_in, s2_io, s2_it, s1_r1, s2_rn, s2_ro, s2_rt, s1_n1, s2_nn, s2_no, s2_nt, s1_j1, s2_jn, s2_jo, s2_jt, sto1_1l, sto1_z, sto2_z0, sto2_z1, sto2_z2, s1_2, s2_2, s1_3, s2_3, s1_4, s2_4, s1_5, s2_5, s1_6, s2_6, s1_7, s2_7, s1_8, s2_8, s1_9, s2_9, s1_10, s2_10, s1_11, s2_11, s1_12, s2_12, s1_13, s2_13, s1_14, s2_14, s1_15, s2_15, tl_c, tl_n, n_141_10, ri_ret, tk_0, tk_1, tk_2, tk_3, tk_4, tk_5, tk_6, tk_7, tk_8, tk_9, tk_10, tk_11, tk_12, tk_13, ri_iload_2, n_141_11, ric_12, n_141_13, ri_icmp_ge, tn_55, n_141_16, n_141_17, gf_190000_13, gf_190000_b, n_141_20, n_141_21, al_2, al_3, al_5, al_6, al_7, al_10, al_11, al_12, al_39, al_41, al_44, al_45, al_46, al_47, al_49, al_51, al_53, al_107, al_108, al_109, al_110, al_111, al_112, al_113, al_114, al_115, al_116, al_117, al_118, al_119, al_120, al_121, al_122, al_c, al_d, al_14, al_bk, al_52, al_x0, al_x1, al_x2, al_x3, n_141_22, ri_ifnullN, ri_ifnullR, tn_49, n_141_25, n_141_26, n_141_29, n_141_30, n_141_31, n_141_34, n_141_35, n_141_38, n_141_39, n_141_40, n_141_41, n_141_44, n_141_45, n_141_46, ri_V, rc_142_f, rc_142_g, n_141_49, rin_2_1, n_141_52, ri_goto, tn_10, n_141_55, rt_141, ent_n, ent_i, ent_l, ent_r, ent_u, tL_n, tL_s, ap_n, ap_c, b01, b01L, ite_not, z10, cA0, cB0, cC0, cD0, cE0, cF0, cA1, cB1, cC1, cD1, cE1, cF1, cA2, cB2, cC2, cD2, cE2, cF2, cA3, cB3, cC3, cD3, cE3, cF3, vinT, vinN, li_clamp, iN_clamp, ↓reduceIte, if_true, if_false, iN_add1, iL_add, lI_add, iN_add, lI_mul, iL_mul, iN_mul, iN_sub, iL_sub, lI_sub, and_self, and_true, true_and, and_false, false_and, z10L, lc_eq, lc_lt, lc_le, lc_ge, lc_gt, u2_s, u2_k, u2_a, u2_T1, u2_T2, u2_T3, u2_T4, u2_T5, u2_T6, u2_T7, u2_T8]
  refine lp_141_g (b := b) 12 0 _ rfl ⟨fun t ht => by omega, ?_, fun a j h => ?_⟩ k
  · rw [u2_s]
  · exact congrFun (u2_a (by omega)) j
/-- the model's copies -/
def kpP (i n : Nat) (I J : Nat → Nat → Int32) : Prop := (∀ j, j < n → J 108 (145 * i + j) = I 107 j) ∧ (∀ x, ¬ (145 * i ≤ x ∧ x < 145 * i + 145) → J 108 x = I 108 x) ∧ ∀ a k, a ≠ 108 → J a k = I a k
def bkP (i n : Nat) (I J : Nat → Nat → Int32) : Prop := (∀ j, j < n → J 107 j = I 108 (145 * i + j)) ∧ ∀ a k, a ≠ 107 → J a k = I a k
theorem lp_213 {i : Nat} (hi : i < 2) : ∀ d n J, n + d = 145 → kpP i n I J → (∀ J, kpP i 145 I J → Q (some (.int (I 107 0))) (K0, u2 J 109 i 1, L)) → Rn (EE N xs) 213 10018 [.ref 106, .int (Int32.ofNat i), .int (Int32.ofNat n)] [] (K0, J, L) Q
  | 0, n, J, e, p, k => by
    have e : n = 145 := e
    subst e
    rw [n_213_10018]
    simp (maxSteps := 2000000) (disch := first | rfl | exact Nat.le_of_ble_eq_true rfl | assumption | omega) only [n_213_0, ri_aload_0, ri_aloadN_0, n_213_1, ric_0, n_213_2, pf_1141100_106, n_213_5, ri_iload_1, n_213_6, n_213_7, ric_1, n_213_8, ri_S, rc_150, n_213_11, ri_if_ne, tn_16, n_213_14, ric_m1, n_213_15, rt_213, n_213_16, n_213_17, ri_istore, s1_i1, s2_in, s2_io, s2_it, s1_r1, s2_rn, s2_ro, s2_rt, s1_n1, s2_nn, s2_no, s2_nt, s1_j1, s2_jn, s2_jo, s2_jt, sto1_1l, sto1_z, sto2_z0, sto2_z1, sto2_z2, s1_2, s2_2, s1_3, s2_3, s1_4, s2_4, s1_5, s2_5, s1_6, s2_6, s1_7, s2_7, s1_8, s2_8, s1_9, s2_9, s1_10, s2_10, s1_11, s2_11, s1_12, s2_12, s1_13, s2_13, s1_14, s2_14, s1_15, s2_15, tl_c, tl_n, n_213_18, ri_ret, tk_0, tk_1, tk_2, tk_3, tk_4, tk_5, tk_6, tk_7, tk_8, tk_9, tk_10, tk_11, tk_12, tk_13, ri_iload_2, n_213_19, ric_145, n_213_22, ri_icmp_ge, tn_49, n_213_25, n_213_26, gf_981103_106, n_213_29, n_213_32, n_213_33, ri_imul, n_213_34, n_213_35, ri_iadd, n_213_36, n_213_37, gf_971102_106, n_213_40, n_213_41, al_2, al_3, al_5, al_6, al_7, al_10, al_11, al_12, al_39, al_41, al_44, al_45, al_46, al_47, al_49, al_51, al_53, al_107, al_108, al_109, al_110, al_111, al_112, al_113, al_114, al_115, al_116, al_117, al_118, al_119, al_120, al_121, al_122, al_c, al_d, al_14, al_bk, al_52, al_x0, al_x1, al_x2, al_x3, n_213_42, as_2, as_3, as_5, as_6, as_7, as_10, as_11, as_12, as_39, as_41, as_44, as_45, as_46, as_47, as_49, as_51, as_53, as_107, as_108, as_109, as_110, as_111, as_112, as_113, as_114, as_115, as_116, as_117, as_118, as_119, as_120, as_121, as_122, as_c, as_d, n_213_43, rin_2_1, n_213_46, ri_goto, tn_18, n_213_49, n_213_50, gf_991104_106, n_213_53, n_213_54, n_213_55, n_213_56, n_213_57, n_213_60, n_213_61, n_213_62, ent_n, ent_i, ent_l, ent_r, ent_u, tL_n, tL_s, ap_n, ap_c, b01, b01L, ite_not, z10, cA0, cB0, cC0, cD0, cE0, cF0, cA1, cB1, cC1, cD1, cE1, cF1, cA2, cB2, cC2, cD2, cE2, cF2, cA3, cB3, cC3, cD3, cE3, cF3, vinT, vinN, li_clamp, iN_clamp, ↓reduceIte, if_true, if_false, iN_add1, iL_add, lI_add, iN_add, lI_mul, iL_mul, iN_mul, iN_sub, iL_sub, lI_sub, and_self, and_true, true_and, and_false, false_and, z10L, lc_eq, lc_lt, lc_le, lc_ge, lc_gt, u2_s, u2_k, u2_a, u2_T1, u2_T2, u2_T3, u2_T4, u2_T5, u2_T6, u2_T7, u2_T8]
    have := k J p
    have e1 : J 107 0 = I 107 0 := p.2.2 107 0 (by decide)
    rw [e1]
    exact this
  | d + 1, n, J, e, p, k => by
    rw [n_213_10018]
    simp (maxSteps := 2000000) (disch := first | rfl | exact Nat.le_of_ble_eq_true rfl | assumption | omega) only [n_213_0, ri_aload_0, ri_aloadN_0, n_213_1, ric_0, n_213_2, pf_1141100_106, n_213_5, ri_iload_1, n_213_6, n_213_7, ric_1, n_213_8, ri_S, rc_150, n_213_11, ri_if_ne, tn_16, n_213_14, ric_m1, n_213_15, rt_213, n_213_16, n_213_17, ri_istore, s1_i1, s2_in, s2_io, s2_it, s1_r1, s2_rn, s2_ro, s2_rt, s1_n1, s2_nn, s2_no, s2_nt, s1_j1, s2_jn, s2_jo, s2_jt, sto1_1l, sto1_z, sto2_z0, sto2_z1, sto2_z2, s1_2, s2_2, s1_3, s2_3, s1_4, s2_4, s1_5, s2_5, s1_6, s2_6, s1_7, s2_7, s1_8, s2_8, s1_9, s2_9, s1_10, s2_10, s1_11, s2_11, s1_12, s2_12, s1_13, s2_13, s1_14, s2_14, s1_15, s2_15, tl_c, tl_n, n_213_18, ri_ret, tk_0, tk_1, tk_2, tk_3, tk_4, tk_5, tk_6, tk_7, tk_8, tk_9, tk_10, tk_11, tk_12, tk_13, ri_iload_2, n_213_19, ric_145, n_213_22, ri_icmp_ge, tn_49, n_213_25, n_213_26, gf_981103_106, n_213_29, n_213_32, n_213_33, ri_imul, n_213_34, n_213_35, ri_iadd, n_213_36, n_213_37, gf_971102_106, n_213_40, n_213_41, al_2, al_3, al_5, al_6, al_7, al_10, al_11, al_12, al_39, al_41, al_44, al_45, al_46, al_47, al_49, al_51, al_53, al_107, al_108, al_109, al_110, al_111, al_112, al_113, al_114, al_115, al_116, al_117, al_118, al_119, al_120, al_121, al_122, al_c, al_d, al_14, al_bk, al_52, al_x0, al_x1, al_x2, al_x3, n_213_42, as_2, as_3, as_5, as_6, as_7, as_10, as_11, as_12, as_39, as_41, as_44, as_45, as_46, as_47, as_49, as_51, as_53, as_107, as_108, as_109, as_110, as_111, as_112, as_113, as_114, as_115, as_116, as_117, as_118, as_119, as_120, as_121, as_122, as_c, as_d, n_213_43, rin_2_1, n_213_46, ri_goto, tn_18, n_213_49, n_213_50, gf_991104_106, n_213_53, n_213_54, n_213_55, n_213_56, n_213_57, n_213_60, n_213_61, n_213_62, ent_n, ent_i, ent_l, ent_r, ent_u, tL_n, tL_s, ap_n, ap_c, b01, b01L, ite_not, z10, cA0, cB0, cC0, cD0, cE0, cF0, cA1, cB1, cC1, cD1, cE1, cF1, cA2, cB2, cC2, cD2, cE2, cF2, cA3, cB3, cC3, cD3, cE3, cF3, vinT, vinN, li_clamp, iN_clamp, ↓reduceIte, if_true, if_false, iN_add1, iL_add, lI_add, iN_add, lI_mul, iL_mul, iN_mul, iN_sub, iL_sub, lI_sub, and_self, and_true, true_and, and_false, false_and, z10L, lc_eq, lc_lt, lc_le, lc_ge, lc_gt, u2_s, u2_k, u2_a, u2_T1, u2_T2, u2_T3, u2_T4, u2_T5, u2_T6, u2_T7, u2_T8]
    refine lp_213 hi d (n + 1) _ (by omega) ⟨fun j hj => ?_, fun x hx => ?_, fun a q ha => ?_⟩ k
    · by_cases z : j = n
      · subst z
        rw [u2_s]
        exact p.2.2 107 j (by decide)
      · rw [u2_k (by omega)]
        exact p.1 j (by omega)
    · rw [u2_k (by omega)]
      exact p.2.1 x hx
    · rw [u2_a ha]
      exact p.2.2 a q ha
theorem lp_214 {i : Nat} (hi : i < 2) : ∀ d n J, n + d = 145 → bkP i n I J → (∀ J, bkP i 145 I J → Q (some (.int (J 107 0))) (K0, J, L)) → Rn (EE N xs) 214 10030 [.ref 106, .int (Int32.ofNat i), .int (Int32.ofNat n)] [] (K0, J, L) Q
  | 0, n, J, e, p, k => by
    have e : n = 145 := e
    subst e
    rw [n_214_10030]
    simp (maxSteps := 2000000) (disch := first | rfl | exact Nat.le_of_ble_eq_true rfl | assumption | omega) only [n_214_0, ri_aload_0, ri_aloadN_0, n_214_1, ric_0, n_214_2, pf_1141100_106, n_214_5, ri_iload_1, n_214_6, n_214_7, ric_1, n_214_8, ri_S, rc_150, n_214_11, ri_if_ne, tn_16, n_214_14, ric_m1, n_214_15, rt_214, n_214_16, n_214_17, gf_991104_106, n_214_20, n_214_21, al_2, al_3, al_5, al_6, al_7, al_10, al_11, al_12, al_39, al_41, al_44, al_45, al_46, al_47, al_49, al_51, al_53, al_107, al_108, al_109, al_110, al_111, al_112, al_113, al_114, al_115, al_116, al_117, al_118, al_119, al_120, al_121, al_122, al_c, al_d, al_14, al_bk, al_52, al_x0, al_x1, al_x2, al_x3, n_214_22, tn_28, n_214_25, ric_m2, n_214_27, n_214_28, n_214_29, ri_istore, s1_i1, s2_in, s2_io, s2_it, s1_r1, s2_rn, s2_ro, s2_rt, s1_n1, s2_nn, s2_no, s2_nt, s1_j1, s2_jn, s2_jo, s2_jt, sto1_1l, sto1_z, sto2_z0, sto2_z1, sto2_z2, s1_2, s2_2, s1_3, s2_3, s1_4, s2_4, s1_5, s2_5, s1_6, s2_6, s1_7, s2_7, s1_8, s2_8, s1_9, s2_9, s1_10, s2_10, s1_11, s2_11, s1_12, s2_12, s1_13, s2_13, s1_14, s2_14, s1_15, s2_15, tl_c, tl_n, n_214_30, ri_ret, tk_0, tk_1, tk_2, tk_3, tk_4, tk_5, tk_6, tk_7, tk_8, tk_9, tk_10, tk_11, tk_12, tk_13, ri_iload_2, n_214_31, ric_145, n_214_34, ri_icmp_ge, tn_61, n_214_37, n_214_38, gf_971102_106, n_214_41, n_214_42, n_214_43, gf_981103_106, n_214_46, n_214_49, n_214_50, ri_imul, n_214_51, n_214_52, ri_iadd, n_214_53, n_214_54, as_2, as_3, as_5, as_6, as_7, as_10, as_11, as_12, as_39, as_41, as_44, as_45, as_46, as_47, as_49, as_51, as_53, as_107, as_108, as_109, as_110, as_111, as_112, as_113, as_114, as_115, as_116, as_117, as_118, as_119, as_120, as_121, as_122, as_c, as_d, n_214_55, rin_2_1, n_214_58, ri_goto, tn_30, n_214_61, n_214_62, n_214_65, n_214_66, n_214_67, ent_n, ent_i, ent_l, ent_r, ent_u, tL_n, tL_s, ap_n, ap_c, b01, b01L, ite_not, z10, cA0, cB0, cC0, cD0, cE0, cF0, cA1, cB1, cC1, cD1, cE1, cF1, cA2, cB2, cC2, cD2, cE2, cF2, cA3, cB3, cC3, cD3, cE3, cF3, vinT, vinN, li_clamp, iN_clamp, ↓reduceIte, if_true, if_false, iN_add1, iL_add, lI_add, iN_add, lI_mul, iL_mul, iN_mul, iN_sub, iL_sub, lI_sub, and_self, and_true, true_and, and_false, false_and, z10L, lc_eq, lc_lt, lc_le, lc_ge, lc_gt, u2_s, u2_k, u2_a, u2_T1, u2_T2, u2_T3, u2_T4, u2_T5, u2_T6, u2_T7, u2_T8]
    exact k J p
  | d + 1, n, J, e, p, k => by
    rw [n_214_10030]
    simp (maxSteps := 2000000) (disch := first | rfl | exact Nat.le_of_ble_eq_true rfl | assumption | omega) only [n_214_0, ri_aload_0, ri_aloadN_0, n_214_1, ric_0, n_214_2, pf_1141100_106, n_214_5, ri_iload_1, n_214_6, n_214_7, ric_1, n_214_8, ri_S, rc_150, n_214_11, ri_if_ne, tn_16, n_214_14, ric_m1, n_214_15, rt_214, n_214_16, n_214_17, gf_991104_106, n_214_20, n_214_21, al_2, al_3, al_5, al_6, al_7, al_10, al_11, al_12, al_39, al_41, al_44, al_45, al_46, al_47, al_49, al_51, al_53, al_107, al_108, al_109, al_110, al_111, al_112, al_113, al_114, al_115, al_116, al_117, al_118, al_119, al_120, al_121, al_122, al_c, al_d, al_14, al_bk, al_52, al_x0, al_x1, al_x2, al_x3, n_214_22, tn_28, n_214_25, ric_m2, n_214_27, n_214_28, n_214_29, ri_istore, s1_i1, s2_in, s2_io, s2_it, s1_r1, s2_rn, s2_ro, s2_rt, s1_n1, s2_nn, s2_no, s2_nt, s1_j1, s2_jn, s2_jo, s2_jt, sto1_1l, sto1_z, sto2_z0, sto2_z1, sto2_z2, s1_2, s2_2, s1_3, s2_3, s1_4, s2_4, s1_5, s2_5, s1_6, s2_6, s1_7, s2_7, s1_8, s2_8, s1_9, s2_9, s1_10, s2_10, s1_11, s2_11, s1_12, s2_12, s1_13, s2_13, s1_14, s2_14, s1_15, s2_15, tl_c, tl_n, n_214_30, ri_ret, tk_0, tk_1, tk_2, tk_3, tk_4, tk_5, tk_6, tk_7, tk_8, tk_9, tk_10, tk_11, tk_12, tk_13, ri_iload_2, n_214_31, ric_145, n_214_34, ri_icmp_ge, tn_61, n_214_37, n_214_38, gf_971102_106, n_214_41, n_214_42, n_214_43, gf_981103_106, n_214_46, n_214_49, n_214_50, ri_imul, n_214_51, n_214_52, ri_iadd, n_214_53, n_214_54, as_2, as_3, as_5, as_6, as_7, as_10, as_11, as_12, as_39, as_41, as_44, as_45, as_46, as_47, as_49, as_51, as_53, as_107, as_108, as_109, as_110, as_111, as_112, as_113, as_114, as_115, as_116, as_117, as_118, as_119, as_120, as_121, as_122, as_c, as_d, n_214_55, rin_2_1, n_214_58, ri_goto, tn_30, n_214_61, n_214_62, n_214_65, n_214_66, n_214_67, ent_n, ent_i, ent_l, ent_r, ent_u, tL_n, tL_s, ap_n, ap_c, b01, b01L, ite_not, z10, cA0, cB0, cC0, cD0, cE0, cF0, cA1, cB1, cC1, cD1, cE1, cF1, cA2, cB2, cC2, cD2, cE2, cF2, cA3, cB3, cC3, cD3, cE3, cF3, vinT, vinN, li_clamp, iN_clamp, ↓reduceIte, if_true, if_false, iN_add1, iL_add, lI_add, iN_add, lI_mul, iL_mul, iN_mul, iN_sub, iL_sub, lI_sub, and_self, and_true, true_and, and_false, false_and, z10L, lc_eq, lc_lt, lc_le, lc_ge, lc_gt, u2_s, u2_k, u2_a, u2_T1, u2_T2, u2_T3, u2_T4, u2_T5, u2_T6, u2_T7, u2_T8]
    refine lp_214 hi d (n + 1) _ (by omega) ⟨fun j hj => ?_, fun a q ha => ?_⟩ k
    · by_cases z : j = n
      · subst z
        rw [u2_s]
        exact p.2 108 _ (by decide)
      · rw [u2_k (by omega)]
        exact p.1 j (by omega)
    · rw [u2_a ha]
      exact p.2 a q ha
theorem RnC_141 {M n nx a b : Nat} {ls : List Value} (hn : n % 1000 = 141) (ha : ∃ rs, K0[a]? = some (.inl (0, rs))) : RnC (EE N xs) 0 M n nx ls [.ref b, .ref a] (K0, I, L) Q = Rn (EE N xs) 141 0 [.ref a, .ref b] [] (K0, I, L) (fun x h1 => Rn (EE N xs) M nx ls (x.toList ++ []) h1 Q) := by
  obtain ⟨rs, h⟩ := ha
  exact RnC_V (E := EE N xs) (M := M) (nx := nx) (a := a) (ls := ls) (as := [.ref b]) (r := []) (h := (K0, I, L)) (Q := Q) hn rfl (show K0[a]? = some (.inl (ciM 141, rs)) from h) (show (2 : Nat) ≤ mlM 141 by decide) (by decide)
theorem BokR_mv {nc : Nat} {d d2 : Int32} {T C T2 C2 : Nat → Nat → Int32} {S S2 : Nat → Int32} (ib : BokR nc d T C S) (e0 : d2 = d) (eT : ∀ t f, t < 12 → f ≤ 6 → T2 t f = T t f) (eC : ∀ t f, t < 12 → f < 5 → C2 t f = C t f) (eS : ∀ x, x < 145 → S2 x = S x) : BokR nc d2 T2 C2 S2 := by
  obtain ⟨h, h12, b1, b2, b3⟩ := ib
  refine ⟨h, h12, e0.trans b1, (eS 0 (by decide)).trans b2, fun t ht => ?_⟩
  obtain ⟨⟨k, p1, p2, p3⟩, ⟨a, b, p4, p5, p6, p7, p8, p9⟩, ⟨g, q1, q2, q3⟩, ⟨l, q4, q5, q6, q7⟩, ⟨e, r1, r2, r3⟩, n, r4, r5, r6, r7⟩ := b3 t ht
  have et : ∀ f, f ≤ 6 → T2 t f = T t f := fun f hf => eT t f (by omega) hf
  refine ⟨⟨k, p1, (et 0 (by decide)).trans p2, (eS _ (by omega)).trans p3⟩, ⟨a, b, p4, p5, (et 1 (by decide)).trans p6, (eS _ (by omega)).trans p7, (et 2 (by decide)).trans p8, (eS _ (by omega)).trans p9⟩, ⟨g, q1, (et 3 (by decide)).trans q2, (eS _ (by omega)).trans q3⟩, ⟨l, q4, q5, (et 4 (by decide)).trans q6, (eS _ (by omega)).trans q7⟩, ⟨e, r1, (et 5 (by decide)).trans r2, (eS _ (by omega)).trans r3⟩, n, r4, (et 6 (by decide)).trans r5, (eS _ (by omega)).trans r6, fun j hj => ?_⟩
  obtain ⟨m, m1, m2, m3⟩ := r7 j hj
  exact ⟨m, m1, (eC t j (by omega) (by omega)).trans m2, (eS _ (by omega)).trans m3⟩
end S41
