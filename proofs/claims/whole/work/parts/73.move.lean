/-! TAKERS: room is made; those of a night are queued -/
def nt (x : Nat) : Int32 := if x < 60 then Int32.ofNat x else -1
theorem nt_lt {x : Nat} (h : x < 60) : nt x = Int32.ofNat x := if_pos h
theorem nt_ge {x : Nat} (h : ¬ x < 60) : nt x = -1 := if_neg h
theorem nt_eq {x n : Nat} (hn : n < 60) : (nt x = Int32.ofNat n) = (x = n) := by
  unfold nt
  by_cases z : x < 60
  · rw [if_pos z, iN_eq (by omega) (by omega)]
  · rw [if_neg z]
    refine propext ⟨fun q => absurd q.symm (nm1 (by omega)), fun q => by omega⟩
def EN (J : Nat → Nat → Int32) (f : Nat → Nat) : Prop := ∀ t, t < 12 → J 45 t = nt (f t)
def F45 (I J : Nat → Nat → Int32) : Prop := ∀ a k, a ≠ 45 → J a k = I a k
def F46 (I J : Nat → Nat → Int32) : Prop := ∀ a k, a ≠ 46 → J a k = I a k
section S73
variable {N : Nat} {xs : Nat → Int32} {I : Nat → Nat → Int32} {L : Nat → Nat → Int64} {Q : Option Value → AH → Prop}
theorem lp_101 {men m : Nat} {ch : Nat → Nat → Bool} {f q : Nat → Nat} {night : Int32} (hq : ∀ j, j < m → q j < 12) (hi : ∀ j k, j < k → k < m → q j ≠ q k) (h0 : ¬ f (q 0) < 60) (hord : ∀ k, 1 ≤ k → k < m → f (q k) < 60 ∧ ∃ j, j < k ∧ I 47 (f (q k)) = Int32.ofNat (q j) ∧ ch (q j) (f (q k)) = true) (K : ∀ J g, F45 I J → EN J g → PlV men ch g → (∀ t, t < 12 → t ≠ q 0 → (g t < 60 ↔ f t < 60)) → g (q 0) < 60 → Q none (K0, J, L)) : ∀ d p i to g J, p < m → p ≤ d → i + p < 12 → to < 60 → I 47 to = Int32.ofNat (q p) → ch (q p) to = true → (∀ j, j ≤ p → g (q j) = f (q j)) → (∀ t, t < 12 → g t < 60 → ch t (g t) = true) → (∀ n, n < 60 → n ≠ to → cnt g n ≤ men) → cnt g to + 1 ≤ men → (∀ t, t < 12 → t ≠ q 0 → (g t < 60 ↔ f t < 60)) → F45 I J → EN J g → Rn (EE N xs) 101 10004 [.ref 43, .int night, .int (Int32.ofNat to), .int (Int32.ofNat i)] [] (K0, J, L) Q := by
  intro d
  induction d with
  | zero =>
    intro p i to g J hpm hpd hip hto e47 hch hg1 hg2 hg3 hg4 hg5 fr en
    have hp : p = 0 := by omega
    subst hp
    have q0 := hq 0 hpm
    have n60 : ¬ g (q 0) < 60 := by rw [hg1 0 (Nat.le_refl _)]; exact h0
    have ne : g (q 0) ≠ to := fun e => n60 (by omega)
    have j47 : J 47 to = Int32.ofNat (q 0) := (fr 47 to (by decide)).trans e47
    have j45 : J 45 (q 0) = -1 := (en _ q0).trans (nt_ge n60)
    have K2 := K (u2 J 45 (q 0) (Int32.ofNat to)) (pt g (q 0) to) (fun a k z => (congrFun (u2_a z) k).trans (fr a k z)) (fun t ht => by
      by_cases z : t = q 0
      · rw [z, u2_s, pt_s, nt_lt hto]
      · rw [u2_k z, pt_n z]
        exact en t ht) ⟨fun t ht h => by
        by_cases z : t = q 0
        · rw [z, pt_s]
          exact hch
        · rw [pt_n z] at h ⊢
          exact hg2 t ht h, fun n hn => by
        by_cases z : n = to
        · subst z
          rw [cnt_to q0 ne]
          exact hg4
        · rw [cnt_ot (fun e => n60 (by omega)) (Ne.symm z)]
          exact hg3 n hn z⟩ (fun t ht z => by
        rw [pt_n z]
        exact hg5 t ht z) (by rw [pt_s]; exact hto)
    have nm : ¬ ((0 : Int32) ≤ -1 ∧ (-1 : Int32) ≤ 59) := by decide
    rw [n_101_10004]
    simp (maxSteps := 2000000) (disch := first | rfl | exact Nat.le_of_ble_eq_true rfl | assumption | omega) only [n_101_0, ri_iload_1, n_101_1, ri_istore, s1_i1, s2_in, s2_io, s2_it, s1_r1, s2_rn, s2_ro, s2_rt, s1_n1, s2_nn, s2_no, s2_nt, s1_j1, s2_jn, s2_jo, s2_jt, sto1_1l, sto1_z, sto2_z0, sto2_z1, sto2_z2, s1_2, s2_2, s1_3, s2_3, s1_4, s2_4, s1_5, s2_5, s1_6, s2_6, s1_7, s2_7, s1_8, s2_8, s1_9, s2_9, s1_10, s2_10, s1_11, s2_11, s1_12, s2_12, s1_13, s2_13, s1_14, s2_14, s1_15, s2_15, tl_c, tl_n, n_101_2, ric_0, n_101_3, n_101_4, ri_ret, tk_0, tk_1, tk_2, tk_3, tk_4, tk_5, tk_6, tk_7, tk_8, tk_9, tk_10, tk_11, tk_12, tk_13, ri_iload_3, n_101_5, ric_12, n_101_7, ri_icmp_ge, tn_66, n_101_10, ri_iload_2, n_101_11, n_101_12, ric_59, n_101_14, ri_S, rc_14, n_101_17, ri_if_eq, n_101_20, ri_aload_0, ri_aloadN_0, n_101_21, gf_280404_43, n_101_24, n_101_25, al_2, al_3, al_5, al_6, al_7, al_10, al_11, al_12, al_39, al_41, al_44, al_45, al_46, al_47, al_49, al_51, al_53, al_107, al_108, al_109, al_110, al_111, al_112, al_113, al_114, al_115, al_116, al_117, al_118, al_119, al_120, al_121, al_122, al_c, al_d, al_14, al_bk, al_52, al_x0, al_x1, al_x2, al_x3, n_101_26, n_101_28, ri_iload_4, n_101_30, n_101_31, ric_11, n_101_33, n_101_36, ri_if_ne, tn_40, n_101_39, rt_101, n_101_40, n_101_41, gf_260402_43, n_101_44, n_101_46, n_101_47, n_101_49, n_101_50, n_101_53, n_101_55, n_101_56, as_2, as_3, as_5, as_6, as_7, as_10, as_11, as_12, as_39, as_41, as_44, as_45, as_46, as_47, as_49, as_51, as_53, as_107, as_108, as_109, as_110, as_111, as_112, as_113, as_114, as_115, as_116, as_117, as_118, as_119, as_120, as_121, as_122, as_c, as_d, n_101_57, ri_iload_5, n_101_59, n_101_60, rin_3_1, n_101_63, ri_goto, tn_4, n_101_66, ent_n, ent_i, ent_l, ent_r, ent_u, tL_n, tL_s, ap_n, ap_c, b01, b01L, ite_not, z10, cA0, cB0, cC0, cD0, cE0, cF0, cA1, cB1, cC1, cD1, cE1, cF1, cA2, cB2, cC2, cD2, cE2, cF2, cA3, cB3, cC3, cD3, cE3, cF3, vinT, vinN, li_clamp, iN_clamp, ↓reduceIte, if_true, if_false, iN_add1, iL_add, lI_add, iN_add, lI_mul, iL_mul, iN_mul, iN_sub, iL_sub, lI_sub, and_self, and_true, true_and, and_false, false_and, z10L, lc_eq, lc_lt, lc_le, lc_ge, lc_gt, u2_s, u2_k, u2_a, u2_T1, u2_T2, u2_T3, u2_T4, u2_T5, u2_T6, u2_T7, u2_T8, j47, j45]
    rw [n_101_10004]
    by_cases i12 : i + 1 < 12
    · simp (maxSteps := 2000000) (disch := first | rfl | exact Nat.le_of_ble_eq_true rfl | assumption | omega) only [n_101_0, ri_iload_1, n_101_1, ri_istore, s1_i1, s2_in, s2_io, s2_it, s1_r1, s2_rn, s2_ro, s2_rt, s1_n1, s2_nn, s2_no, s2_nt, s1_j1, s2_jn, s2_jo, s2_jt, sto1_1l, sto1_z, sto2_z0, sto2_z1, sto2_z2, s1_2, s2_2, s1_3, s2_3, s1_4, s2_4, s1_5, s2_5, s1_6, s2_6, s1_7, s2_7, s1_8, s2_8, s1_9, s2_9, s1_10, s2_10, s1_11, s2_11, s1_12, s2_12, s1_13, s2_13, s1_14, s2_14, s1_15, s2_15, tl_c, tl_n, n_101_2, ric_0, n_101_3, n_101_4, ri_ret, tk_0, tk_1, tk_2, tk_3, tk_4, tk_5, tk_6, tk_7, tk_8, tk_9, tk_10, tk_11, tk_12, tk_13, ri_iload_3, n_101_5, ric_12, n_101_7, ri_icmp_ge, tn_66, n_101_10, ri_iload_2, n_101_11, n_101_12, ric_59, n_101_14, ri_S, rc_14, n_101_17, ri_if_eq, n_101_20, ri_aload_0, ri_aloadN_0, n_101_21, gf_280404_43, n_101_24, n_101_25, al_2, al_3, al_5, al_6, al_7, al_10, al_11, al_12, al_39, al_41, al_44, al_45, al_46, al_47, al_49, al_51, al_53, al_107, al_108, al_109, al_110, al_111, al_112, al_113, al_114, al_115, al_116, al_117, al_118, al_119, al_120, al_121, al_122, al_c, al_d, al_14, al_bk, al_52, al_x0, al_x1, al_x2, al_x3, n_101_26, n_101_28, ri_iload_4, n_101_30, n_101_31, ric_11, n_101_33, n_101_36, ri_if_ne, tn_40, n_101_39, rt_101, n_101_40, n_101_41, gf_260402_43, n_101_44, n_101_46, n_101_47, n_101_49, n_101_50, n_101_53, n_101_55, n_101_56, as_2, as_3, as_5, as_6, as_7, as_10, as_11, as_12, as_39, as_41, as_44, as_45, as_46, as_47, as_49, as_51, as_53, as_107, as_108, as_109, as_110, as_111, as_112, as_113, as_114, as_115, as_116, as_117, as_118, as_119, as_120, as_121, as_122, as_c, as_d, n_101_57, ri_iload_5, n_101_59, n_101_60, rin_3_1, n_101_63, ri_goto, tn_4, n_101_66, ent_n, ent_i, ent_l, ent_r, ent_u, tL_n, tL_s, ap_n, ap_c, b01, b01L, ite_not, z10, cA0, cB0, cC0, cD0, cE0, cF0, cA1, cB1, cC1, cD1, cE1, cF1, cA2, cB2, cC2, cD2, cE2, cF2, cA3, cB3, cC3, cD3, cE3, cF3, vinT, vinN, li_clamp, iN_clamp, ↓reduceIte, if_true, if_false, iN_add1, iL_add, lI_add, iN_add, lI_mul, iL_mul, iN_mul, iN_sub, iL_sub, lI_sub, and_self, and_true, true_and, and_false, false_and, z10L, lc_eq, lc_lt, lc_le, lc_ge, lc_gt, u2_s, u2_k, u2_a, u2_T1, u2_T2, u2_T3, u2_T4, u2_T5, u2_T6, u2_T7, u2_T8, nm]
      exact K2
    · simp (maxSteps := 2000000) (disch := first | rfl | exact Nat.le_of_ble_eq_true rfl | assumption | omega) only [n_101_0, ri_iload_1, n_101_1, ri_istore, s1_i1, s2_in, s2_io, s2_it, s1_r1, s2_rn, s2_ro, s2_rt, s1_n1, s2_nn, s2_no, s2_nt, s1_j1, s2_jn, s2_jo, s2_jt, sto1_1l, sto1_z, sto2_z0, sto2_z1, sto2_z2, s1_2, s2_2, s1_3, s2_3, s1_4, s2_4, s1_5, s2_5, s1_6, s2_6, s1_7, s2_7, s1_8, s2_8, s1_9, s2_9, s1_10, s2_10, s1_11, s2_11, s1_12, s2_12, s1_13, s2_13, s1_14, s2_14, s1_15, s2_15, tl_c, tl_n, n_101_2, ric_0, n_101_3, n_101_4, ri_ret, tk_0, tk_1, tk_2, tk_3, tk_4, tk_5, tk_6, tk_7, tk_8, tk_9, tk_10, tk_11, tk_12, tk_13, ri_iload_3, n_101_5, ric_12, n_101_7, ri_icmp_ge, tn_66, n_101_10, ri_iload_2, n_101_11, n_101_12, ric_59, n_101_14, ri_S, rc_14, n_101_17, ri_if_eq, n_101_20, ri_aload_0, ri_aloadN_0, n_101_21, gf_280404_43, n_101_24, n_101_25, al_2, al_3, al_5, al_6, al_7, al_10, al_11, al_12, al_39, al_41, al_44, al_45, al_46, al_47, al_49, al_51, al_53, al_107, al_108, al_109, al_110, al_111, al_112, al_113, al_114, al_115, al_116, al_117, al_118, al_119, al_120, al_121, al_122, al_c, al_d, al_14, al_bk, al_52, al_x0, al_x1, al_x2, al_x3, n_101_26, n_101_28, ri_iload_4, n_101_30, n_101_31, ric_11, n_101_33, n_101_36, ri_if_ne, tn_40, n_101_39, rt_101, n_101_40, n_101_41, gf_260402_43, n_101_44, n_101_46, n_101_47, n_101_49, n_101_50, n_101_53, n_101_55, n_101_56, as_2, as_3, as_5, as_6, as_7, as_10, as_11, as_12, as_39, as_41, as_44, as_45, as_46, as_47, as_49, as_51, as_53, as_107, as_108, as_109, as_110, as_111, as_112, as_113, as_114, as_115, as_116, as_117, as_118, as_119, as_120, as_121, as_122, as_c, as_d, n_101_57, ri_iload_5, n_101_59, n_101_60, rin_3_1, n_101_63, ri_goto, tn_4, n_101_66, ent_n, ent_i, ent_l, ent_r, ent_u, tL_n, tL_s, ap_n, ap_c, b01, b01L, ite_not, z10, cA0, cB0, cC0, cD0, cE0, cF0, cA1, cB1, cC1, cD1, cE1, cF1, cA2, cB2, cC2, cD2, cE2, cF2, cA3, cB3, cC3, cD3, cE3, cF3, vinT, vinN, li_clamp, iN_clamp, ↓reduceIte, if_true, if_false, iN_add1, iL_add, lI_add, iN_add, lI_mul, iL_mul, iN_mul, iN_sub, iL_sub, lI_sub, and_self, and_true, true_and, and_false, false_and, z10L, lc_eq, lc_lt, lc_le, lc_ge, lc_gt, u2_s, u2_k, u2_a, u2_T1, u2_T2, u2_T3, u2_T4, u2_T5, u2_T6, u2_T7, u2_T8]
      exact K2
  | succ d ih =>
    intro p i to g J hpm hpd hip hto e47 hch hg1 hg2 hg3 hg4 hg5 fr en
    by_cases hp : p = 0
    · subst hp
      exact ih 0 i to g J hpm (Nat.zero_le _) hip hto e47 hch hg1 hg2 hg3 hg4 hg5 fr en
    · have qp := hq p hpm
      obtain ⟨c1, j, c2, c3, c4⟩ := hord p (by omega) hpm
      have gp : g (q p) = f (q p) := hg1 p (Nat.le_refl _)
      have ne : f (q p) ≠ to := by
        intro e
        rw [e, e47] at c3
        have := (iN_eq (by have := hq p hpm; omega) (by have := hq j (by omega); omega)).mp c3
        exact hi j p c2 hpm this.symm
      have ne0 : q p ≠ q 0 := fun e => hi 0 p (by omega) hpm e.symm
      have j47 : J 47 to = Int32.ofNat (q p) := (fr 47 to (by decide)).trans e47
      have j45 : J 45 (q p) = Int32.ofNat (f (q p)) := by
        rw [en _ qp, gp, nt_lt c1]
      have r := ih j (i + 1) (f (q p)) (pt g (q p) to) (u2 J 45 (q p) (Int32.ofNat to)) (by omega) (by omega) (by omega) c1 c3 c4 (fun j2 h2 => by
        rw [pt_n (hi j2 p (by omega) hpm)]
        exact hg1 j2 (by omega)) (fun t ht h => by
        by_cases z : t = q p
        · rw [z, pt_s]
          exact hch
        · rw [pt_n z] at h ⊢
          exact hg2 t ht h) (fun n hn z2 => by
        by_cases z : n = to
        · subst z
          rw [cnt_to qp (by rw [gp]; exact ne)]
          exact hg4
        · rw [cnt_ot (by rw [gp]; exact Ne.symm z2) (Ne.symm z)]
          exact hg3 n hn z) (by
        have a := cnt_fr (f := g) (t := q p) (n := to) qp (by rw [gp]; exact Ne.symm ne)
        rw [gp] at a
        rw [a]
        exact hg3 _ c1 ne) (fun t ht z => by
        by_cases z2 : t = q p
        · rw [z2, pt_s]
          exact ⟨fun _ => c1, fun _ => hto⟩
        · rw [pt_n z2]
          exact hg5 t ht z) (fun a k z => (congrFun (u2_a z) k).trans (fr a k z)) (fun t ht => by
        by_cases z : t = q p
        · rw [z, u2_s, pt_s, nt_lt hto]
        · rw [u2_k z, pt_n z]
          exact en t ht)
      rw [n_101_10004]
      simp (maxSteps := 2000000) (disch := first | rfl | exact Nat.le_of_ble_eq_true rfl | assumption | omega) only [n_101_0, ri_iload_1, n_101_1, ri_istore, s1_i1, s2_in, s2_io, s2_it, s1_r1, s2_rn, s2_ro, s2_rt, s1_n1, s2_nn, s2_no, s2_nt, s1_j1, s2_jn, s2_jo, s2_jt, sto1_1l, sto1_z, sto2_z0, sto2_z1, sto2_z2, s1_2, s2_2, s1_3, s2_3, s1_4, s2_4, s1_5, s2_5, s1_6, s2_6, s1_7, s2_7, s1_8, s2_8, s1_9, s2_9, s1_10, s2_10, s1_11, s2_11, s1_12, s2_12, s1_13, s2_13, s1_14, s2_14, s1_15, s2_15, tl_c, tl_n, n_101_2, ric_0, n_101_3, n_101_4, ri_ret, tk_0, tk_1, tk_2, tk_3, tk_4, tk_5, tk_6, tk_7, tk_8, tk_9, tk_10, tk_11, tk_12, tk_13, ri_iload_3, n_101_5, ric_12, n_101_7, ri_icmp_ge, tn_66, n_101_10, ri_iload_2, n_101_11, n_101_12, ric_59, n_101_14, ri_S, rc_14, n_101_17, ri_if_eq, n_101_20, ri_aload_0, ri_aloadN_0, n_101_21, gf_280404_43, n_101_24, n_101_25, al_2, al_3, al_5, al_6, al_7, al_10, al_11, al_12, al_39, al_41, al_44, al_45, al_46, al_47, al_49, al_51, al_53, al_107, al_108, al_109, al_110, al_111, al_112, al_113, al_114, al_115, al_116, al_117, al_118, al_119, al_120, al_121, al_122, al_c, al_d, al_14, al_bk, al_52, al_x0, al_x1, al_x2, al_x3, n_101_26, n_101_28, ri_iload_4, n_101_30, n_101_31, ric_11, n_101_33, n_101_36, ri_if_ne, tn_40, n_101_39, rt_101, n_101_40, n_101_41, gf_260402_43, n_101_44, n_101_46, n_101_47, n_101_49, n_101_50, n_101_53, n_101_55, n_101_56, as_2, as_3, as_5, as_6, as_7, as_10, as_11, as_12, as_39, as_41, as_44, as_45, as_46, as_47, as_49, as_51, as_53, as_107, as_108, as_109, as_110, as_111, as_112, as_113, as_114, as_115, as_116, as_117, as_118, as_119, as_120, as_121, as_122, as_c, as_d, n_101_57, ri_iload_5, n_101_59, n_101_60, rin_3_1, n_101_63, ri_goto, tn_4, n_101_66, ent_n, ent_i, ent_l, ent_r, ent_u, tL_n, tL_s, ap_n, ap_c, b01, b01L, ite_not, z10, cA0, cB0, cC0, cD0, cE0, cF0, cA1, cB1, cC1, cD1, cE1, cF1, cA2, cB2, cC2, cD2, cE2, cF2, cA3, cB3, cC3, cD3, cE3, cF3, vinT, vinN, li_clamp, iN_clamp, ↓reduceIte, if_true, if_false, iN_add1, iL_add, lI_add, iN_add, lI_mul, iL_mul, iN_mul, iN_sub, iL_sub, lI_sub, and_self, and_true, true_and, and_false, false_and, z10L, lc_eq, lc_lt, lc_le, lc_ge, lc_gt, u2_s, u2_k, u2_a, u2_T1, u2_T2, u2_T3, u2_T4, u2_T5, u2_T6, u2_T7, u2_T8, j47, j45]
      exact r
theorem ic_101 {M n nx : Nat} {ls s : List Value} {men m p to : Nat} {ch : Nat → Nat → Bool} {f q : Nat → Nat} (hm : m ≤ 12) (hq : ∀ j, j < m → q j < 12) (hi : ∀ j k, j < k → k < m → q j ≠ q k) (h0 : ¬ f (q 0) < 60) (hord : ∀ k, 1 ≤ k → k < m → f (q k) < 60 ∧ ∃ j, j < k ∧ I 47 (f (q k)) = Int32.ofNat (q j) ∧ ch (q j) (f (q k)) = true) (hp : p < m) (hto : to < 60) (e47 : I 47 to = Int32.ofNat (q p)) (hch : ch (q p) to = true) (hf : PlV men ch f) (hc1 : cnt f to + 1 ≤ men) (en : EN I f) (hn : n % 1000 = 101) (hc : cs s ≤ 8) (K : ∀ J g, F45 I J → EN J g → PlV men ch g → (∀ t, t < 12 → t ≠ q 0 → (g t < 60 ↔ f t < 60)) → g (q 0) < 60 → Rn (EE N xs) M nx ls s (K0, J, L) Q) : RnC (EE N xs) 0 M n nx ls (.int (Int32.ofNat to) :: .ref 43 :: s) (K0, I, L) Q := by
  have e := RnC_V (E := EE N xs) (M := M) (nx := nx) (a := 43) (ls := ls) (as := [.int (Int32.ofNat to)]) (r := s) (h := (K0, I, L)) (Q := Q) hn rfl (show K0[43]? = some (.inl (ciM 101, _)) from rfl) (show (2 : Nat) ≤ mlM 101 by decide) hc
  refine e.mpr ?_
  simp (maxSteps := 2000000) (disch := first | rfl | exact Nat.le_of_ble_eq_true rfl | assumption | omega) only [n_101_0, ri_iload_1, n_101_1, ri_istore, s1_i1, s2_in, s2_io, s2_it, s1_r1, s2_rn, s2_ro, s2_rt, s1_n1, s2_nn, s2_no, s2_nt, s1_j1, s2_jn, s2_jo, s2_jt, sto1_1l, sto1_z, sto2_z0, sto2_z1, sto2_z2, s1_2, s2_2, s1_3, s2_3, s1_4, s2_4, s1_5, s2_5, s1_6, s2_6, s1_7, s2_7, s1_8, s2_8, s1_9, s2_9, s1_10, s2_10, s1_11, s2_11, s1_12, s2_12, s1_13, s2_13, s1_14, s2_14, s1_15, s2_15, tl_c, tl_n, n_101_2, ric_0, n_101_3, n_101_4, ri_ret, tk_0, tk_1, tk_2, tk_3, tk_4, tk_5, tk_6, tk_7, tk_8, tk_9, tk_10, tk_11, tk_12, tk_13, ri_iload_3, n_101_5, ric_12, n_101_7, ri_icmp_ge, tn_66, n_101_10, ri_iload_2, n_101_11, n_101_12, ric_59, n_101_14, ri_S, rc_14, n_101_17, ri_if_eq, n_101_20, ri_aload_0, ri_aloadN_0, n_101_21, gf_280404_43, n_101_24, n_101_25, al_2, al_3, al_5, al_6, al_7, al_10, al_11, al_12, al_39, al_41, al_44, al_45, al_46, al_47, al_49, al_51, al_53, al_107, al_108, al_109, al_110, al_111, al_112, al_113, al_114, al_115, al_116, al_117, al_118, al_119, al_120, al_121, al_122, al_c, al_d, al_14, al_bk, al_52, al_x0, al_x1, al_x2, al_x3, n_101_26, n_101_28, ri_iload_4, n_101_30, n_101_31, ric_11, n_101_33, n_101_36, ri_if_ne, tn_40, n_101_39, rt_101, n_101_40, n_101_41, gf_260402_43, n_101_44, n_101_46, n_101_47, n_101_49, n_101_50, n_101_53, n_101_55, n_101_56, as_2, as_3, as_5, as_6, as_7, as_10, as_11, as_12, as_39, as_41, as_44, as_45, as_46, as_47, as_49, as_51, as_53, as_107, as_108, as_109, as_110, as_111, as_112, as_113, as_114, as_115, as_116, as_117, as_118, as_119, as_120, as_121, as_122, as_c, as_d, n_101_57, ri_iload_5, n_101_59, n_101_60, rin_3_1, n_101_63, ri_goto, tn_4, n_101_66, ent_n, ent_i, ent_l, ent_r, ent_u, tL_n, tL_s, ap_n, ap_c, b01, b01L, ite_not, z10, cA0, cB0, cC0, cD0, cE0, cF0, cA1, cB1, cC1, cD1, cE1, cF1, cA2, cB2, cC2, cD2, cE2, cF2, cA3, cB3, cC3, cD3, cE3, cF3, vinT, vinN, li_clamp, iN_clamp, ↓reduceIte, if_true, if_false, iN_add1, iL_add, lI_add, iN_add, lI_mul, iL_mul, iN_mul, iN_sub, iL_sub, lI_sub, and_self, and_true, true_and, and_false, false_and, z10L, lc_eq, lc_lt, lc_le, lc_ge, lc_gt, u2_s, u2_k, u2_a, u2_T1, u2_T2, u2_T3, u2_T4, u2_T5, u2_T6, u2_T7, u2_T8]
  exact lp_101 hq hi h0 hord (fun J g a b c d e => K J g a b c d e) p p 0 to f I hp (Nat.le_refl _) (by omega) hto e47 hch (fun _ _ => rfl) hf.1 (fun n hn _ => hf.2 n hn) hc1 (fun _ _ _ => Iff.rfl) (fun _ _ _ => rfl) en
theorem lp_100 {night m0 : Nat} {f q0 : Nat → Nat} {A : Nat → Bool} (hn : night < 60) (hA : ∀ t, t < 12 → f t = night → A t = false) (hm0 : m0 ≤ 12) (K : ∀ J q m, F46 I J → (∀ j, j < m → J 46 j = Int32.ofNat (q j)) → (∀ j, j < m0 → q j = q0 j) → m0 ≤ m → QU q m (fun t => A t || decide (f t = night)) → Q (some (.int (Int32.ofNat m))) (K0, J, L)) : ∀ d t J q m, t + d = 12 → F46 I J → EN J f → (∀ j, j < m → J 46 j = Int32.ofNat (q j)) → (∀ j, j < m0 → q j = q0 j) → m0 ≤ m → QU q m (fun s => A s || (decide (f s = night) && decide (s < t))) → Rn (EE N xs) 100 10005 [.ref 43, .int (Int32.ofNat night), .int (Int32.ofNat m0), .int (Int32.ofNat m), .int (Int32.ofNat t)] [] (K0, J, L) Q
  | 0, t, J, q, m, e, fr, en, h1, h2, hm, qu => by
    have e : t = 12 := e
    subst e
    have K2 := K J q m fr h1 h2 hm (QU_congr qu (fun t ht => by rw [decide_eq_true ht, Bool.and_true]))
    rw [n_100_10005]
    simp (maxSteps := 2000000) (disch := first | rfl | exact Nat.le_of_ble_eq_true rfl | assumption | omega) only [n_100_0, ri_iload_2, n_100_1, ri_istore, s1_i1, s2_in, s2_io, s2_it, s1_r1, s2_rn, s2_ro, s2_rt, s1_n1, s2_nn, s2_no, s2_nt, s1_j1, s2_jn, s2_jo, s2_jt, sto1_1l, sto1_z, sto2_z0, sto2_z1, sto2_z2, s1_2, s2_2, s1_3, s2_3, s1_4, s2_4, s1_5, s2_5, s1_6, s2_6, s1_7, s2_7, s1_8, s2_8, s1_9, s2_9, s1_10, s2_10, s1_11, s2_11, s1_12, s2_12, s1_13, s2_13, s1_14, s2_14, s1_15, s2_15, tl_c, tl_n, n_100_2, ric_0, n_100_3, n_100_5, ri_ret, tk_0, tk_1, tk_2, tk_3, tk_4, tk_5, tk_6, tk_7, tk_8, tk_9, tk_10, tk_11, tk_12, tk_13, ri_iload_4, n_100_7, ric_12, n_100_9, ri_icmp_ge, tn_50, n_100_12, ri_aload_0, ri_aloadN_0, n_100_13, gf_260402_43, n_100_16, n_100_18, al_2, al_3, al_5, al_6, al_7, al_10, al_11, al_12, al_39, al_41, al_44, al_45, al_46, al_47, al_49, al_51, al_53, al_107, al_108, al_109, al_110, al_111, al_112, al_113, al_114, al_115, al_116, al_117, al_118, al_119, al_120, al_121, al_122, al_c, al_d, al_14, al_bk, al_52, al_x0, al_x1, al_x2, al_x3, n_100_19, ri_iload_1, n_100_20, ri_icmp_ne, tn_44, n_100_23, ri_iload_3, n_100_24, n_100_25, ric_11, n_100_27, ri_S, rc_14, n_100_30, ri_if_eq, n_100_33, n_100_34, gf_270403_43, n_100_37, n_100_38, n_100_40, as_2, as_3, as_5, as_6, as_7, as_10, as_11, as_12, as_39, as_41, as_44, as_45, as_46, as_47, as_49, as_51, as_53, as_107, as_108, as_109, as_110, as_111, as_112, as_113, as_114, as_115, as_116, as_117, as_118, as_119, as_120, as_121, as_122, as_c, as_d, n_100_41, rin_3_1, n_100_44, rin_4_1, n_100_47, ri_goto, tn_5, n_100_50, n_100_51, rt_100, ent_n, ent_i, ent_l, ent_r, ent_u, tL_n, tL_s, ap_n, ap_c, b01, b01L, ite_not, z10, cA0, cB0, cC0, cD0, cE0, cF0, cA1, cB1, cC1, cD1, cE1, cF1, cA2, cB2, cC2, cD2, cE2, cF2, cA3, cB3, cC3, cD3, cE3, cF3, vinT, vinN, li_clamp, iN_clamp, ↓reduceIte, if_true, if_false, iN_add1, iL_add, lI_add, iN_add, lI_mul, iL_mul, iN_mul, iN_sub, iL_sub, lI_sub, and_self, and_true, true_and, and_false, false_and, z10L, lc_eq, lc_lt, lc_le, lc_ge, lc_gt, u2_s, u2_k, u2_a, u2_T1, u2_T2, u2_T3, u2_T4, u2_T5, u2_T6, u2_T7, u2_T8]
    exact K2
  | d + 1, t, J, q, m, e, fr, en, h1, h2, hm, qu => by
    have et := en t (by omega)
    by_cases z : f t = night
    · have j45 : J 45 t = Int32.ofNat night := by rw [et, z, nt_lt hn]
      obtain ⟨m12, qu2⟩ := QU_add qu (show t < 12 by omega) (by rw [hA t (by omega) z, decide_eq_false (Nat.lt_irrefl t), Bool.and_false]; rfl)
      have r := lp_100 hn hA hm0 K d (t + 1) (u2 J 46 m (Int32.ofNat t)) (pt q m t) (m + 1) (by omega) (fun a k w => (congrFun (u2_a w) k).trans (fr a k w)) (fun s hs => by
        rw [u2_a (by decide)]
        exact en s hs) (fun j hj => by
        by_cases w : j = m
        · rw [w, u2_s, pt_s]
        · rw [u2_k w, pt_n w]
          exact h1 j (by omega)) (fun j hj => by
        rw [pt_n (by omega)]
        exact h2 j hj) (by omega) (QU_congr qu2 (fun s hs => by
        by_cases w : s = t
        · subst w
          rw [decide_eq_true z, decide_eq_true (Nat.lt_succ_self s), decide_eq_true rfl]
          simp
        · have a : decide (s < t + 1) = decide (s < t) := decide_eq_decide.mpr (by omega)
          rw [a, decide_eq_false w, Bool.or_false]))
      rw [n_100_10005]
      simp (maxSteps := 2000000) (disch := first | rfl | exact Nat.le_of_ble_eq_true rfl | assumption | omega) only [n_100_0, ri_iload_2, n_100_1, ri_istore, s1_i1, s2_in, s2_io, s2_it, s1_r1, s2_rn, s2_ro, s2_rt, s1_n1, s2_nn, s2_no, s2_nt, s1_j1, s2_jn, s2_jo, s2_jt, sto1_1l, sto1_z, sto2_z0, sto2_z1, sto2_z2, s1_2, s2_2, s1_3, s2_3, s1_4, s2_4, s1_5, s2_5, s1_6, s2_6, s1_7, s2_7, s1_8, s2_8, s1_9, s2_9, s1_10, s2_10, s1_11, s2_11, s1_12, s2_12, s1_13, s2_13, s1_14, s2_14, s1_15, s2_15, tl_c, tl_n, n_100_2, ric_0, n_100_3, n_100_5, ri_ret, tk_0, tk_1, tk_2, tk_3, tk_4, tk_5, tk_6, tk_7, tk_8, tk_9, tk_10, tk_11, tk_12, tk_13, ri_iload_4, n_100_7, ric_12, n_100_9, ri_icmp_ge, tn_50, n_100_12, ri_aload_0, ri_aloadN_0, n_100_13, gf_260402_43, n_100_16, n_100_18, al_2, al_3, al_5, al_6, al_7, al_10, al_11, al_12, al_39, al_41, al_44, al_45, al_46, al_47, al_49, al_51, al_53, al_107, al_108, al_109, al_110, al_111, al_112, al_113, al_114, al_115, al_116, al_117, al_118, al_119, al_120, al_121, al_122, al_c, al_d, al_14, al_bk, al_52, al_x0, al_x1, al_x2, al_x3, n_100_19, ri_iload_1, n_100_20, ri_icmp_ne, tn_44, n_100_23, ri_iload_3, n_100_24, n_100_25, ric_11, n_100_27, ri_S, rc_14, n_100_30, ri_if_eq, n_100_33, n_100_34, gf_270403_43, n_100_37, n_100_38, n_100_40, as_2, as_3, as_5, as_6, as_7, as_10, as_11, as_12, as_39, as_41, as_44, as_45, as_46, as_47, as_49, as_51, as_53, as_107, as_108, as_109, as_110, as_111, as_112, as_113, as_114, as_115, as_116, as_117, as_118, as_119, as_120, as_121, as_122, as_c, as_d, n_100_41, rin_3_1, n_100_44, rin_4_1, n_100_47, ri_goto, tn_5, n_100_50, n_100_51, rt_100, ent_n, ent_i, ent_l, ent_r, ent_u, tL_n, tL_s, ap_n, ap_c, b01, b01L, ite_not, z10, cA0, cB0, cC0, cD0, cE0, cF0, cA1, cB1, cC1, cD1, cE1, cF1, cA2, cB2, cC2, cD2, cE2, cF2, cA3, cB3, cC3, cD3, cE3, cF3, vinT, vinN, li_clamp, iN_clamp, ↓reduceIte, if_true, if_false, iN_add1, iL_add, lI_add, iN_add, lI_mul, iL_mul, iN_mul, iN_sub, iL_sub, lI_sub, and_self, and_true, true_and, and_false, false_and, z10L, lc_eq, lc_lt, lc_le, lc_ge, lc_gt, u2_s, u2_k, u2_a, u2_T1, u2_T2, u2_T3, u2_T4, u2_T5, u2_T6, u2_T7, u2_T8, j45, eq_self]
      exact r
    · have ne : ¬ J 45 t = Int32.ofNat night := by
        rw [et, nt_eq hn]
        exact z
      have r := lp_100 hn hA hm0 K d (t + 1) J q m (by omega) fr en h1 h2 hm (QU_congr qu (fun s hs => by
        by_cases w : s = t
        · subst w
          rw [decide_eq_false z, Bool.false_and, Bool.false_and]
        · have a : decide (s < t + 1) = decide (s < t) := decide_eq_decide.mpr (by omega)
          rw [a]))
      rw [n_100_10005]
      simp (maxSteps := 2000000) (disch := first | rfl | exact Nat.le_of_ble_eq_true rfl | assumption | omega) only [n_100_0, ri_iload_2, n_100_1, ri_istore, s1_i1, s2_in, s2_io, s2_it, s1_r1, s2_rn, s2_ro, s2_rt, s1_n1, s2_nn, s2_no, s2_nt, s1_j1, s2_jn, s2_jo, s2_jt, sto1_1l, sto1_z, sto2_z0, sto2_z1, sto2_z2, s1_2, s2_2, s1_3, s2_3, s1_4, s2_4, s1_5, s2_5, s1_6, s2_6, s1_7, s2_7, s1_8, s2_8, s1_9, s2_9, s1_10, s2_10, s1_11, s2_11, s1_12, s2_12, s1_13, s2_13, s1_14, s2_14, s1_15, s2_15, tl_c, tl_n, n_100_2, ric_0, n_100_3, n_100_5, ri_ret, tk_0, tk_1, tk_2, tk_3, tk_4, tk_5, tk_6, tk_7, tk_8, tk_9, tk_10, tk_11, tk_12, tk_13, ri_iload_4, n_100_7, ric_12, n_100_9, ri_icmp_ge, tn_50, n_100_12, ri_aload_0, ri_aloadN_0, n_100_13, gf_260402_43, n_100_16, n_100_18, al_2, al_3, al_5, al_6, al_7, al_10, al_11, al_12, al_39, al_41, al_44, al_45, al_46, al_47, al_49, al_51, al_53, al_107, al_108, al_109, al_110, al_111, al_112, al_113, al_114, al_115, al_116, al_117, al_118, al_119, al_120, al_121, al_122, al_c, al_d, al_14, al_bk, al_52, al_x0, al_x1, al_x2, al_x3, n_100_19, ri_iload_1, n_100_20, ri_icmp_ne, tn_44, n_100_23, ri_iload_3, n_100_24, n_100_25, ric_11, n_100_27, ri_S, rc_14, n_100_30, ri_if_eq, n_100_33, n_100_34, gf_270403_43, n_100_37, n_100_38, n_100_40, as_2, as_3, as_5, as_6, as_7, as_10, as_11, as_12, as_39, as_41, as_44, as_45, as_46, as_47, as_49, as_51, as_53, as_107, as_108, as_109, as_110, as_111, as_112, as_113, as_114, as_115, as_116, as_117, as_118, as_119, as_120, as_121, as_122, as_c, as_d, n_100_41, rin_3_1, n_100_44, rin_4_1, n_100_47, ri_goto, tn_5, n_100_50, n_100_51, rt_100, ent_n, ent_i, ent_l, ent_r, ent_u, tL_n, tL_s, ap_n, ap_c, b01, b01L, ite_not, z10, cA0, cB0, cC0, cD0, cE0, cF0, cA1, cB1, cC1, cD1, cE1, cF1, cA2, cB2, cC2, cD2, cE2, cF2, cA3, cB3, cC3, cD3, cE3, cF3, vinT, vinN, li_clamp, iN_clamp, ↓reduceIte, if_true, if_false, iN_add1, iL_add, lI_add, iN_add, lI_mul, iL_mul, iN_mul, iN_sub, iL_sub, lI_sub, and_self, and_true, true_and, and_false, false_and, z10L, lc_eq, lc_lt, lc_le, lc_ge, lc_gt, u2_s, u2_k, u2_a, u2_T1, u2_T2, u2_T3, u2_T4, u2_T5, u2_T6, u2_T7, u2_T8, ne]
      exact r
theorem ic_100 {M n nx : Nat} {ls s : List Value} {night m0 : Nat} {f q0 : Nat → Nat} {A : Nat → Bool} (hn : night < 60) (hA : ∀ t, t < 12 → f t = night → A t = false) (en : EN I f) (h1 : ∀ j, j < m0 → I 46 j = Int32.ofNat (q0 j)) (qu : QU q0 m0 A) (hn2 : n % 1000 = 100) (hc : cs s ≤ 8) (K : ∀ J q m, F46 I J → (∀ j, j < m → J 46 j = Int32.ofNat (q j)) → (∀ j, j < m0 → q j = q0 j) → m0 ≤ m → QU q m (fun t => A t || decide (f t = night)) → Rn (EE N xs) M nx ls (.int (Int32.ofNat m) :: s) (K0, J, L) Q) : RnC (EE N xs) 0 M n nx ls (.int (Int32.ofNat m0) :: .int (Int32.ofNat night) :: .ref 43 :: s) (K0, I, L) Q := by
  have e := RnC_V (E := EE N xs) (M := M) (nx := nx) (a := 43) (ls := ls) (as := [.int (Int32.ofNat night), .int (Int32.ofNat m0)]) (r := s) (h := (K0, I, L)) (Q := Q) hn2 rfl (show K0[43]? = some (.inl (ciM 100, _)) from rfl) (show (3 : Nat) ≤ mlM 100 by decide) hc
  refine e.mpr ?_
  have m12 : m0 ≤ 12 := by
    rw [qu.1]
    exact pcN_le _ _
  simp (maxSteps := 2000000) (disch := first | rfl | exact Nat.le_of_ble_eq_true rfl | assumption | omega) only [n_100_0, ri_iload_2, n_100_1, ri_istore, s1_i1, s2_in, s2_io, s2_it, s1_r1, s2_rn, s2_ro, s2_rt, s1_n1, s2_nn, s2_no, s2_nt, s1_j1, s2_jn, s2_jo, s2_jt, sto1_1l, sto1_z, sto2_z0, sto2_z1, sto2_z2, s1_2, s2_2, s1_3, s2_3, s1_4, s2_4, s1_5, s2_5, s1_6, s2_6, s1_7, s2_7, s1_8, s2_8, s1_9, s2_9, s1_10, s2_10, s1_11, s2_11, s1_12, s2_12, s1_13, s2_13, s1_14, s2_14, s1_15, s2_15, tl_c, tl_n, n_100_2, ric_0, n_100_3, n_100_5, ri_ret, tk_0, tk_1, tk_2, tk_3, tk_4, tk_5, tk_6, tk_7, tk_8, tk_9, tk_10, tk_11, tk_12, tk_13, ri_iload_4, n_100_7, ric_12, n_100_9, ri_icmp_ge, tn_50, n_100_12, ri_aload_0, ri_aloadN_0, n_100_13, gf_260402_43, n_100_16, n_100_18, al_2, al_3, al_5, al_6, al_7, al_10, al_11, al_12, al_39, al_41, al_44, al_45, al_46, al_47, al_49, al_51, al_53, al_107, al_108, al_109, al_110, al_111, al_112, al_113, al_114, al_115, al_116, al_117, al_118, al_119, al_120, al_121, al_122, al_c, al_d, al_14, al_bk, al_52, al_x0, al_x1, al_x2, al_x3, n_100_19, ri_iload_1, n_100_20, ri_icmp_ne, tn_44, n_100_23, ri_iload_3, n_100_24, n_100_25, ric_11, n_100_27, ri_S, rc_14, n_100_30, ri_if_eq, n_100_33, n_100_34, gf_270403_43, n_100_37, n_100_38, n_100_40, as_2, as_3, as_5, as_6, as_7, as_10, as_11, as_12, as_39, as_41, as_44, as_45, as_46, as_47, as_49, as_51, as_53, as_107, as_108, as_109, as_110, as_111, as_112, as_113, as_114, as_115, as_116, as_117, as_118, as_119, as_120, as_121, as_122, as_c, as_d, n_100_41, rin_3_1, n_100_44, rin_4_1, n_100_47, ri_goto, tn_5, n_100_50, n_100_51, rt_100, ent_n, ent_i, ent_l, ent_r, ent_u, tL_n, tL_s, ap_n, ap_c, b01, b01L, ite_not, z10, cA0, cB0, cC0, cD0, cE0, cF0, cA1, cB1, cC1, cD1, cE1, cF1, cA2, cB2, cC2, cD2, cE2, cF2, cA3, cB3, cC3, cD3, cE3, cF3, vinT, vinN, li_clamp, iN_clamp, ↓reduceIte, if_true, if_false, iN_add1, iL_add, lI_add, iN_add, lI_mul, iL_mul, iN_mul, iN_sub, iL_sub, lI_sub, and_self, and_true, true_and, and_false, false_and, z10L, lc_eq, lc_lt, lc_le, lc_ge, lc_gt, u2_s, u2_k, u2_a, u2_T1, u2_T2, u2_T3, u2_T4, u2_T5, u2_T6, u2_T7, u2_T8]
  exact lp_100 hn hA m12 (fun J q m a b c d e => K J q m a b c d e) 12 0 I q0 m0 rfl (fun _ _ _ => rfl) en h1 (fun _ _ => rfl) (Nat.le_refl _) (QU_congr qu (fun t ht => by rw [decide_eq_false (Nat.not_lt_zero t), Bool.and_false, Bool.or_false]))
end S73
