/-! YEAR: an item in the class, whole -/
theorem kS_lt {D : DS} {w v x y : Nat} (hw : w ≤ 4) (h : kS D w 0 v x y = true) : v < 48 := by
  unfold kS at h
  by_cases z : w ≤ 2
  · rw [if_pos z] at h
    exact of_decide_eq_true h
  · rw [if_neg z] at h
    by_cases z3 : w = 3
    · rw [if_pos z3] at h
      simp only [Bool.and_eq_true, decide_eq_true_eq] at h
      exact h.1
    · rw [if_neg z3, if_pos (by omega)] at h
      simp only [Bool.and_eq_true, decide_eq_true_eq] at h
      exact h.1.1
theorem FD.rf {I : Nat → Nat → Int32} : FD I I := fun _ _ _ _ _ _ => rfl
theorem FE.rf {L : Nat → Nat → Int64} : FE L L := fun _ _ _ _ _ => rfl
section S90
variable {N : Nat} {xs : Nat → Int32} {I : Nat → Nat → Int32} {L : Nat → Nat → Int64} {Q : Option Value → AH → Prop}
theorem ic_28 {M m nx : Nat} {ls r : List Value} {D : DS} {n p : Nat} {b : Nat → Nat} (tx : TX I n b) (hp : p ≤ n) (pc : PC n b p I) (dc : DC D I L) (hn : m % 1000 = 28) (hc : cs r ≤ 8) (K1 : ∀ J O p2 D2, rdI n b p D = (0, p2, D2) → FD I J → FE L O → J 1 5 = Int32.ofNat p2 → p2 ≤ n → p + 1 ≤ p2 → DC D2 J O → Rn (EE N xs) M nx ls (.int 1 :: r) (K0, J, O) Q) (K2 : ∀ J O s D2, rdI n b p D = (1, s, D2) → FD I J → FE L O → J 1 4 = Int32.ofNat s → s ≤ n → Rn (EE N xs) M nx ls (.int 0 :: r) (K0, J, O) Q) : RnC (EE N xs) 0 M m nx ls (.ref 4 :: .ref 1 :: r) (K0, I, L) Q := by
  have q := RnC_V (E := EE N xs) (M := M) (nx := nx) (a := 1) (ls := ls) (as := [.ref 4]) (r := r) (h := (K0, I, L)) (Q := Q) hn rfl (show K0[1]? = some (.inl (ciM 28, _)) from rfl) (show (2 : Nat) ≤ mlM 28 by decide) hc
  refine q.mpr ?_
  clear q
  obtain ⟨p1, p2, p3, p4⟩ := pc
  obtain ⟨s1, s2⟩ := tS_le (b := b) hp
  obtain ⟨e1, e2, e3⟩ := tE_le (b := b) hp
  have t1 := tx.1
  have d1 := dc.1
  have d2 := dc.2.1
  have c4 := tC_le (n := n) (b := b) (p := p)
  have fail : rdI n b p D = (1, tS n b p, D) → Rn (EE N xs) M nx ls (.int 0 :: r) (K0, I, L) Q := fun h => K2 I L _ _ h FD.rf FE.rf p2 s2
  by_cases c1 : tC n b p = 1
  · have m29 := fun (M m nx : Nat) (ls r : List Value) => mc_29 (N := N) (xs := xs) (I := I) (L := L) (M := M) (m := m) (nx := nx) (ls := ls) (r := r) (Q := fun x h1 => Rn (EE N xs) M nx ls (x.toList ++ r) h1 Q) tx p2 p3 e1 e2
    clear m29
    have m29 : ∀ (Q2 : Option Value → AH → Prop) (M m nx : Nat) (ls r : List Value), m % 1000 = 29 → cs r ≤ 8 → RnC (EE N xs) 0 M m nx ls (.ref 1 :: r) (K0, I, L) Q2 = Rn (EE N xs) M nx ls (.int (if tW n b p = 9 then -9 else Int32.ofNat (tW n b p + 1)) :: r) (K0, I, L) Q2 := fun Q2 M m nx ls r h1 h2 => mc_29 tx p2 p3 e1 e2 h1 h2
    by_cases w9 : tW n b p = 9
    · have k := fail (by
        unfold rdI
        rw [if_neg (fun q => (tM_1.mp q.1).2 w9)])
      simp (maxSteps := 2000000) (disch := first | rfl | exact Nat.le_of_ble_eq_true rfl | assumption | omega) only [n_28_0, ri_aload_0, ri_aloadN_0, n_28_1, gf_380503_1, n_28_4, ric_1, n_28_5, ri_icmp_ne, tn_15, n_28_8, n_28_9, ri_V, n_28_12, ri_goto, tn_17, n_28_15, ric_m9, n_28_17, ri_istore, s1_i1, s2_in, s2_io, s2_it, s1_r1, s2_rn, s2_ro, s2_rt, s1_n1, s2_nn, s2_no, s2_nt, s1_j1, s2_jn, s2_jo, s2_jt, sto1_1l, sto1_z, sto2_z0, sto2_z1, sto2_z2, s1_2, s2_2, s1_3, s2_3, s1_4, s2_4, s1_5, s2_5, s1_6, s2_6, s1_7, s2_7, s1_8, s2_8, s1_9, s2_9, s1_10, s2_10, s1_11, s2_11, s1_12, s2_12, s1_13, s2_13, s1_14, s2_14, s1_15, s2_15, tl_c, tl_n, n_28_18, ri_iload_2, n_28_19, n_28_21, ri_icmp_eq, tn_38, n_28_24, n_28_25, ric_4, n_28_26, tn_40, n_28_29, ri_aload_1, ri_aloadN_1, n_28_30, gf_430903_4, gf_430903_9, n_28_33, ric_8, n_28_35, ri_icmp_lt, n_28_38, ric_0, n_28_39, rt_28, ru_28, rx_28, n_28_40, n_28_41, ri_S, rc_42, n_28_44, n_28_45, n_28_46, n_28_48, ri_ret, tk_0, tk_1, tk_2, tk_3, tk_4, tk_5, tk_6, tk_7, tk_8, tk_9, tk_10, tk_11, tk_12, tk_13, ri_iload_4, ent_n, ent_i, ent_l, ent_r, ent_u, tL_n, tL_s, ap_n, ap_c, b01, b01L, ite_not, z10, cA0, cB0, cC0, cD0, cE0, cF0, cA1, cB1, cC1, cD1, cE1, cF1, cA2, cB2, cC2, cD2, cE2, cF2, cA3, cB3, cC3, cD3, cE3, cF3, vinT, vinN, li_clamp, iN_clamp, ↓reduceIte, if_true, if_false, iN_add1, iL_add, lI_add, iN_add, lI_mul, iL_mul, iN_mul, iN_sub, iL_sub, lI_sub, and_self, and_true, true_and, and_false, false_and, z10L, lc_eq, lc_lt, lc_le, lc_ge, lc_gt, p1, c1, m29, w9, eq_self]
      exact k
    · have w6 : tW n b p ≤ 6 := (wNo_le (b := b) (s := tS n b p) (l := tE n b p - tS n b p)).resolve_right w9
      have m1 : tM n b p = 1 := tM_1.mpr ⟨c1, w9⟩
      have n9 := nm9 (k := tW n b p + 1) (by omega)
      have lt := e3 (tC_1 c1).1
      by_cases c8 : tW n b p = 3 ∧ 8 ≤ D.1
      · have k := fail (by
          unfold rdI
          rw [if_neg (fun q => q.2 c8)])
        have c83 := c8.1
        have c88 := c8.2
        simp (maxSteps := 2000000) (disch := first | rfl | exact Nat.le_of_ble_eq_true rfl | assumption | omega) only [n_28_0, ri_aload_0, ri_aloadN_0, n_28_1, gf_380503_1, n_28_4, ric_1, n_28_5, ri_icmp_ne, tn_15, n_28_8, n_28_9, ri_V, n_28_12, ri_goto, tn_17, n_28_15, ric_m9, n_28_17, ri_istore, s1_i1, s2_in, s2_io, s2_it, s1_r1, s2_rn, s2_ro, s2_rt, s1_n1, s2_nn, s2_no, s2_nt, s1_j1, s2_jn, s2_jo, s2_jt, sto1_1l, sto1_z, sto2_z0, sto2_z1, sto2_z2, s1_2, s2_2, s1_3, s2_3, s1_4, s2_4, s1_5, s2_5, s1_6, s2_6, s1_7, s2_7, s1_8, s2_8, s1_9, s2_9, s1_10, s2_10, s1_11, s2_11, s1_12, s2_12, s1_13, s2_13, s1_14, s2_14, s1_15, s2_15, tl_c, tl_n, n_28_18, ri_iload_2, n_28_19, n_28_21, ri_icmp_eq, tn_38, n_28_24, n_28_25, ric_4, n_28_26, tn_40, n_28_29, ri_aload_1, ri_aloadN_1, n_28_30, gf_430903_4, gf_430903_9, n_28_33, ric_8, n_28_35, ri_icmp_lt, n_28_38, ric_0, n_28_39, rt_28, ru_28, rx_28, n_28_40, n_28_41, ri_S, rc_42, n_28_44, n_28_45, n_28_46, n_28_48, ri_ret, tk_0, tk_1, tk_2, tk_3, tk_4, tk_5, tk_6, tk_7, tk_8, tk_9, tk_10, tk_11, tk_12, tk_13, ri_iload_4, ent_n, ent_i, ent_l, ent_r, ent_u, tL_n, tL_s, ap_n, ap_c, b01, b01L, ite_not, z10, cA0, cB0, cC0, cD0, cE0, cF0, cA1, cB1, cC1, cD1, cE1, cF1, cA2, cB2, cC2, cD2, cE2, cF2, cA3, cB3, cC3, cD3, cE3, cF3, vinT, vinN, li_clamp, iN_clamp, ↓reduceIte, if_true, if_false, iN_add1, iL_add, lI_add, iN_add, lI_mul, iL_mul, iN_mul, iN_sub, iL_sub, lI_sub, and_self, and_true, true_and, and_false, false_and, z10L, lc_eq, lc_lt, lc_le, lc_ge, lc_gt, p1, c1, m29, w9, n9, d2, eq_self]
        exact k
      · have fin : ∀ J O q D2 (a2 a3 a4 : Int32), rdI n b p D = rdE n b q D2 → TX J n b → FD I J → FE L O → J 1 5 = Int32.ofNat q → q ≤ n → p + 1 ≤ q → DC D2 J O → Rn (EE N xs) 28 108 [.ref 1, .ref 4, .int a2, .int a3, .int a4] [] (K0, J, O) (fun x h1 => Rn (EE N xs) M nx ls (x.toList ++ r) h1 Q) := by
          intro J O q D2 a2 a3 a4 er tj fd fe h5 hq hpq dj
          obtain ⟨f1, f2, f3⟩ := tE_le (b := b) hq
          obtain ⟨f4, f5⟩ := tS_le (b := b) hq
          refine tl_28 tj hq h5 (fun J2 fc k5 t3 => ?_) (fun J2 fc k4 t3 => ?_)
          · exact K1 J2 O _ _ (er.trans (rdE_t t3)) (fd.tr fc.fd) fe k5 f2 (by omega) (dj.fc (fun a k z _ => fc a k z))
          · exact K2 J2 O _ _ (er.trans (rdE_f t3)) (fd.tr fc.fd) fe k4 f5
        have go : Rn (EE N xs) 28 10048 [.ref 1, .ref 4, .int (Int32.ofNat (tW n b p + 1)), .int (Int32.ofNat (wantF (tW n b p + 1))), .int (Int32.ofNat 0)] [] (K0, I, L) (fun x h1 => Rn (EE N xs) M nx ls (x.toList ++ r) h1 Q) := by
          obtain ⟨g1, g2, g3⟩ := tE_le (b := b) e2
          obtain ⟨g4, g5⟩ := tS_le (b := b) e2
          by_cases wa : tW n b p ≤ 2
          · have w1 : wantF (tW n b p + 1) = 1 := by
              unfold wantF
              rw [if_neg (by omega), if_neg (by omega)]
            have eI : rdI n b p D = rdN n b (tE n b p) (fun v => kS D (tW n b p + 1) 0 v 0 0) (fun v q => rdE n b q (stG D v (tW n b p + 1))) D := by
              unfold rdI
              rw [if_pos ⟨m1, c8⟩, if_pos wa]
            rw [w1]
            refine lp_28 (i := 0) (x := 0) (y := 0) (wt := 1) (by omega) w1.symm (by decide) tx e2 p3 dc (fun q => absurd q (by decide)) (fun q => absurd q (by decide)) (by decide) (by decide) (fun J fd tj dj k5 k3 _ ok => ?_) (fun J fd k4 no => ?_)
            · have er := eI.trans (rdN_t ok)
              have v48 := kS_lt (by omega) ok.2
              rw [n_28_10048]
              simp (maxSteps := 2000000) (disch := first | rfl | exact Nat.le_of_ble_eq_true rfl | assumption | omega) only [n_28_48, ri_ret, tk_0, tk_1, tk_2, tk_3, tk_4, tk_5, tk_6, tk_7, tk_8, tk_9, tk_10, tk_11, tk_12, tk_13, ri_iload_4, n_28_50, ri_iload_3, n_28_51, ri_icmp_ge, tn_102, n_28_54, n_28_56, ri_aload_0, ri_aloadN_0, n_28_57, gf_120501_1, n_28_60, ln_x0, ln_3, ln_5, ln_7, ln_41, ln_45, n_28_61, n_28_64, n_28_65, ri_V, n_28_68, ric_2, n_28_69, ri_icmp_ne, tn_83, n_28_72, n_28_73, ri_aload_1, ri_aloadN_1, n_28_74, ri_iload_2, n_28_75, n_28_77, n_28_80, ri_if_ne, tn_85, n_28_83, ric_0, n_28_84, rt_28, ru_28, rx_28, n_28_85, n_28_86, n_28_89, n_28_91, n_28_92, gf_420506_1, n_28_95, as_2, as_3, as_5, as_6, as_7, as_10, as_11, as_12, as_39, as_41, as_44, as_45, as_46, as_47, as_49, as_51, as_53, as_107, as_108, as_109, as_110, as_111, as_112, as_113, as_114, as_115, as_116, as_117, as_118, as_119, as_120, as_121, as_122, as_c, as_d, n_28_96, rin_4_1, s1_i1, s2_in, s2_io, s2_it, s1_r1, s2_rn, s2_ro, s2_rt, s1_n1, s2_nn, s2_no, s2_nt, s1_j1, s2_jn, s2_jo, s2_jt, sto1_1l, sto1_z, sto2_z0, sto2_z1, sto2_z2, s1_2, s2_2, s1_3, s2_3, s1_4, s2_4, s1_5, s2_5, s1_6, s2_6, s1_7, s2_7, s1_8, s2_8, s1_9, s2_9, s1_10, s2_10, s1_11, s2_11, s1_12, s2_12, s1_13, s2_13, s1_14, s2_14, s1_15, s2_15, tl_c, tl_n, n_28_99, ri_goto, tn_48, n_28_102, n_28_103, n_28_104, n_28_105, ent_n, ent_i, ent_l, ent_r, ent_u, tL_n, tL_s, ap_n, ap_c, b01, b01L, ite_not, z10, cA0, cB0, cC0, cD0, cE0, cF0, cA1, cB1, cC1, cD1, cE1, cF1, cA2, cB2, cC2, cD2, cE2, cF2, cA3, cB3, cC3, cD3, cE3, cF3, vinT, vinN, li_clamp, iN_clamp, ↓reduceIte, if_true, if_false, iN_add1, iL_add, lI_add, iN_add, lI_mul, iL_mul, iN_mul, iN_sub, iL_sub, lI_sub, and_self, and_true, true_and, and_false, false_and, z10L, lc_eq, lc_lt, lc_le, lc_ge, lc_gt, u2_s, u2_k, u2_a, u2_T1, u2_T2, u2_T3, u2_T4, u2_T5, u2_T6, u2_T7, u2_T8]
              refine ic_49a dj (by omega) v48 k3 rfl (Nat.le_of_ble_eq_true rfl) (fun O fe d => ?_)
              have k := fin J O _ _ (Int32.ofNat (tW n b p + 1)) 1 1 er tj fd fe k5 g2 (by omega) d
              exact k
            · exact K2 J L _ _ (eI.trans (rdN_f no)) fd FE.rf k4 g5
          · by_cases w3 : tW n b p = 3
            · have w1 : wantF (tW n b p + 1) = 1 := by
                rw [w3]
                rfl
              have eI : rdI n b p D = rdN n b (tE n b p) (fun v => kS D 4 0 v 0 0) (fun v q => rdE n b q (adC D v)) D := by
                unfold rdI
                rw [if_pos ⟨m1, c8⟩, if_neg wa, if_pos w3]
              have d8 : D.1 < 8 := by
                apply Classical.byContradiction
                intro z
                exact c8 ⟨w3, by omega⟩
              rw [w1, w3]
              refine lp_28 (i := 0) (x := 0) (y := 0) (wt := 1) (w := 4) (by decide) rfl (by decide) tx e2 p3 dc (fun q => absurd q (by decide)) (fun q => absurd q (by decide)) (by decide) (by decide) (fun J fd tj dj k5 k3 _ ok => ?_) (fun J fd k4 no => ?_)
              · have er := eI.trans (rdN_t ok)
                have v48 := kS_lt (by decide) ok.2
                rw [n_28_10048]
                simp (maxSteps := 2000000) (disch := first | rfl | exact Nat.le_of_ble_eq_true rfl | assumption | omega) only [n_28_48, ri_ret, tk_0, tk_1, tk_2, tk_3, tk_4, tk_5, tk_6, tk_7, tk_8, tk_9, tk_10, tk_11, tk_12, tk_13, ri_iload_4, n_28_50, ri_iload_3, n_28_51, ri_icmp_ge, tn_102, n_28_54, n_28_56, ri_aload_0, ri_aloadN_0, n_28_57, gf_120501_1, n_28_60, ln_x0, ln_3, ln_5, ln_7, ln_41, ln_45, n_28_61, n_28_64, n_28_65, ri_V, n_28_68, ric_2, n_28_69, ri_icmp_ne, tn_83, n_28_72, n_28_73, ri_aload_1, ri_aloadN_1, n_28_74, ri_iload_2, n_28_75, n_28_77, n_28_80, ri_if_ne, tn_85, n_28_83, ric_0, n_28_84, rt_28, ru_28, rx_28, n_28_85, n_28_86, n_28_89, n_28_91, n_28_92, gf_420506_1, n_28_95, as_2, as_3, as_5, as_6, as_7, as_10, as_11, as_12, as_39, as_41, as_44, as_45, as_46, as_47, as_49, as_51, as_53, as_107, as_108, as_109, as_110, as_111, as_112, as_113, as_114, as_115, as_116, as_117, as_118, as_119, as_120, as_121, as_122, as_c, as_d, n_28_96, rin_4_1, s1_i1, s2_in, s2_io, s2_it, s1_r1, s2_rn, s2_ro, s2_rt, s1_n1, s2_nn, s2_no, s2_nt, s1_j1, s2_jn, s2_jo, s2_jt, sto1_1l, sto1_z, sto2_z0, sto2_z1, sto2_z2, s1_2, s2_2, s1_3, s2_3, s1_4, s2_4, s1_5, s2_5, s1_6, s2_6, s1_7, s2_7, s1_8, s2_8, s1_9, s2_9, s1_10, s2_10, s1_11, s2_11, s1_12, s2_12, s1_13, s2_13, s1_14, s2_14, s1_15, s2_15, tl_c, tl_n, n_28_99, ri_goto, tn_48, n_28_102, n_28_103, n_28_104, n_28_105, ent_n, ent_i, ent_l, ent_r, ent_u, tL_n, tL_s, ap_n, ap_c, b01, b01L, ite_not, z10, cA0, cB0, cC0, cD0, cE0, cF0, cA1, cB1, cC1, cD1, cE1, cF1, cA2, cB2, cC2, cD2, cE2, cF2, cA3, cB3, cC3, cD3, cE3, cF3, vinT, vinN, li_clamp, iN_clamp, ↓reduceIte, if_true, if_false, iN_add1, iL_add, lI_add, iN_add, lI_mul, iL_mul, iN_mul, iN_sub, iL_sub, lI_sub, and_self, and_true, true_and, and_false, false_and, z10L, lc_eq, lc_lt, lc_le, lc_ge, lc_gt, u2_s, u2_k, u2_a, u2_T1, u2_T2, u2_T3, u2_T4, u2_T5, u2_T6, u2_T7, u2_T8]
                refine ic_49c dj d8 v48 k3 rfl (Nat.le_of_ble_eq_true rfl) (fun J2 fd2 j5 d => ?_)
                have k := fin J2 L _ _ 4 1 1 er (tj.fd fd2) (fd.tr fd2) FE.rf (j5.trans k5) g2 (by omega) d
                exact k
              · exact K2 J L _ _ (eI.trans (rdN_f no)) fd FE.rf k4 g5
            · obtain ⟨h1, h2, h3⟩ := tE_le (b := b) g2
              obtain ⟨h4, h5⟩ := tS_le (b := b) g2
              by_cases w4 : tW n b p = 4
              · have w1 : wantF (tW n b p + 1) = 3 := by
                  rw [w4]
                  rfl
                have eI : rdI n b p D = rdN n b (tE n b p) (fun v => kS D 5 0 v 0 0) (fun k q => rdN n b q (fun v => kS D 5 1 v k 0) (fun a q => rdN n b q (fun v => kS D 5 2 v k a) (fun z q => rdE n b q (adH D k a z)) D) D) D := by
                  unfold rdI
                  rw [if_pos ⟨m1, c8⟩, if_neg wa, if_neg w3, if_pos w4]
                rw [w1, w4]
                refine lp_28 (i := 0) (x := 0) (y := 0) (wt := 3) (w := 5) (by decide) rfl (by decide) tx e2 p3 dc (fun q => absurd q (by decide)) (fun q => absurd q (by decide)) (by decide) (by decide) (fun J fd tj dj k5 k3 _ ok => ?_) (fun J fd k4 no => ?_)
                · have er := eI.trans (rdN_t ok)
                  have n0 := tN_le (tM_2.mp ok.1)
                  have v1 : tN n b (tE n b p) < D.1 := of_decide_eq_true ok.2
                  refine lp_28 (i := 1) (x := tN n b (tE n b p)) (y := 0) (wt := 3) (w := 5) (by decide) rfl (by decide) tj g2 k5 dj (fun _ => k3) (fun q => absurd q (by decide)) n0 (by decide) (fun J2 fd2 tj2 dj2 k52 k32 ko2 ok2 => ?_) (fun J2 fd2 k42 no2 => ?_)
                  · have er2 := er.trans (rdN_t ok2)
                    have n1 := tN_le (tM_2.mp ok2.1)
                    obtain ⟨i1, i2, i3⟩ := tE_le (b := b) h2
                    obtain ⟨i4, i5⟩ := tS_le (b := b) h2
                    refine lp_28 (i := 2) (x := tN n b (tE n b p)) (y := tN n b (tE n b (tE n b p))) (wt := 3) (w := 5) (by decide) rfl (by decide) tj2 h2 k52 dj2 (fun _ => (ko2 0 (by decide)).trans k3) (fun _ => k32) n0 n1 (fun J3 fd3 tj3 dj3 k53 k33 ko3 ok3 => ?_) (fun J3 fd3 k43 no3 => ?_)
                    · have er3 := er2.trans (rdN_t ok3)
                      have v3 : (decide (tN n b (tE n b (tE n b p)) ≤ tN n b (tE n b (tE n b (tE n b p)))) && decide (tN n b (tE n b (tE n b (tE n b p))) ≤ 59)) = true := ok3.2
                      simp only [Bool.and_eq_true, decide_eq_true_eq] at v3
                      have v1j : tN n b (tE n b p) < D.1 := v1
                      rw [n_28_10048]
                      simp (maxSteps := 2000000) (disch := first | rfl | exact Nat.le_of_ble_eq_true rfl | assumption | omega) only [n_28_48, ri_ret, tk_0, tk_1, tk_2, tk_3, tk_4, tk_5, tk_6, tk_7, tk_8, tk_9, tk_10, tk_11, tk_12, tk_13, ri_iload_4, n_28_50, ri_iload_3, n_28_51, ri_icmp_ge, tn_102, n_28_54, n_28_56, ri_aload_0, ri_aloadN_0, n_28_57, gf_120501_1, n_28_60, ln_x0, ln_3, ln_5, ln_7, ln_41, ln_45, n_28_61, n_28_64, n_28_65, ri_V, n_28_68, ric_2, n_28_69, ri_icmp_ne, tn_83, n_28_72, n_28_73, ri_aload_1, ri_aloadN_1, n_28_74, ri_iload_2, n_28_75, n_28_77, n_28_80, ri_if_ne, tn_85, n_28_83, ric_0, n_28_84, rt_28, ru_28, rx_28, n_28_85, n_28_86, n_28_89, n_28_91, n_28_92, gf_420506_1, n_28_95, as_2, as_3, as_5, as_6, as_7, as_10, as_11, as_12, as_39, as_41, as_44, as_45, as_46, as_47, as_49, as_51, as_53, as_107, as_108, as_109, as_110, as_111, as_112, as_113, as_114, as_115, as_116, as_117, as_118, as_119, as_120, as_121, as_122, as_c, as_d, n_28_96, rin_4_1, s1_i1, s2_in, s2_io, s2_it, s1_r1, s2_rn, s2_ro, s2_rt, s1_n1, s2_nn, s2_no, s2_nt, s1_j1, s2_jn, s2_jo, s2_jt, sto1_1l, sto1_z, sto2_z0, sto2_z1, sto2_z2, s1_2, s2_2, s1_3, s2_3, s1_4, s2_4, s1_5, s2_5, s1_6, s2_6, s1_7, s2_7, s1_8, s2_8, s1_9, s2_9, s1_10, s2_10, s1_11, s2_11, s1_12, s2_12, s1_13, s2_13, s1_14, s2_14, s1_15, s2_15, tl_c, tl_n, n_28_99, ri_goto, tn_48, n_28_102, n_28_103, n_28_104, n_28_105, ent_n, ent_i, ent_l, ent_r, ent_u, tL_n, tL_s, ap_n, ap_c, b01, b01L, ite_not, z10, cA0, cB0, cC0, cD0, cE0, cF0, cA1, cB1, cC1, cD1, cE1, cF1, cA2, cB2, cC2, cD2, cE2, cF2, cA3, cB3, cC3, cD3, cE3, cF3, vinT, vinN, li_clamp, iN_clamp, ↓reduceIte, if_true, if_false, iN_add1, iL_add, lI_add, iN_add, lI_mul, iL_mul, iN_mul, iN_sub, iL_sub, lI_sub, and_self, and_true, true_and, and_false, false_and, z10L, lc_eq, lc_lt, lc_le, lc_ge, lc_gt, u2_s, u2_k, u2_a, u2_T1, u2_T2, u2_T3, u2_T4, u2_T5, u2_T6, u2_T7, u2_T8]
                      refine ic_49h dj3 v1j v3.1 v3.2 ((ko3 0 (by decide)).trans ((ko2 0 (by decide)).trans k3)) ((ko3 1 (by decide)).trans k32) k33 rfl (Nat.le_of_ble_eq_true rfl) (fun O fe d => ?_)
                      have k := fin J3 O _ _ 5 3 3 er3 tj3 ((fd.tr fd2).tr fd3) fe k53 i2 (by omega) d
                      exact k
                    · exact K2 J3 L _ _ (er2.trans (rdN_f no3)) ((fd.tr fd2).tr fd3) FE.rf k43 i5
                  · exact K2 J2 L _ _ (er.trans (rdN_f no2)) (fd.tr fd2) FE.rf k42 h5
                · exact K2 J L _ _ (eI.trans (rdN_f no)) fd FE.rf k4 g5
              · have hw : tW n b p + 1 = 6 ∨ tW n b p + 1 = 7 := by omega
                have w1 : wantF (tW n b p + 1) = 2 := by
                  rcases hw with e | e
                  · rw [e]
                    rfl
                  · rw [e]
                    rfl
                have k67 : ∀ i v x y, kS D (tW n b p + 1) i v x y = kS D 6 i v x y := fun i v x y => by
                  rcases hw with e | e
                  · rw [e]
                  · rw [e]
                    rfl
                have eI : rdI n b p D = rdN n b (tE n b p) (fun v => kS D 6 0 v 0 0) (fun a q => rdN n b q (fun v => kS D 6 1 v a 0) (fun z q => rdE n b q (adU D a z)) D) D := by
                  unfold rdI
                  rw [if_pos ⟨m1, c8⟩, if_neg wa, if_neg w3, if_neg w4]
                rw [w1]
                refine lp_28 (i := 0) (x := 0) (y := 0) (wt := 2) (by omega) w1.symm (by decide) tx e2 p3 dc (fun q => absurd q (by decide)) (fun q => absurd q (by decide)) (by decide) (by decide) (fun J fd tj dj k5 k3 _ ok => ?_) (fun J fd k4 no => ?_)
                · rw [k67] at ok
                  have er := eI.trans (rdN_t ok)
                  have n0 := tN_le (tM_2.mp ok.1)
                  refine lp_28 (i := 1) (x := tN n b (tE n b p)) (y := 0) (wt := 2) (by omega) w1.symm (by decide) tj g2 k5 dj (fun _ => k3) (fun q => absurd q (by decide)) n0 (by decide) (fun J2 fd2 tj2 dj2 k52 k32 ko2 ok2 => ?_) (fun J2 fd2 k42 no2 => ?_)
                  · rw [k67] at ok2
                    have er2 := er.trans (rdN_t ok2)
                    have v3 : (decide (tN n b (tE n b p) ≤ tN n b (tE n b (tE n b p))) && decide (tN n b (tE n b (tE n b p)) ≤ 59)) = true := ok2.2
                    simp only [Bool.and_eq_true, decide_eq_true_eq] at v3
                    rw [n_28_10048]
                    simp (maxSteps := 2000000) (disch := first | rfl | exact Nat.le_of_ble_eq_true rfl | assumption | omega) only [n_28_48, ri_ret, tk_0, tk_1, tk_2, tk_3, tk_4, tk_5, tk_6, tk_7, tk_8, tk_9, tk_10, tk_11, tk_12, tk_13, ri_iload_4, n_28_50, ri_iload_3, n_28_51, ri_icmp_ge, tn_102, n_28_54, n_28_56, ri_aload_0, ri_aloadN_0, n_28_57, gf_120501_1, n_28_60, ln_x0, ln_3, ln_5, ln_7, ln_41, ln_45, n_28_61, n_28_64, n_28_65, ri_V, n_28_68, ric_2, n_28_69, ri_icmp_ne, tn_83, n_28_72, n_28_73, ri_aload_1, ri_aloadN_1, n_28_74, ri_iload_2, n_28_75, n_28_77, n_28_80, ri_if_ne, tn_85, n_28_83, ric_0, n_28_84, rt_28, ru_28, rx_28, n_28_85, n_28_86, n_28_89, n_28_91, n_28_92, gf_420506_1, n_28_95, as_2, as_3, as_5, as_6, as_7, as_10, as_11, as_12, as_39, as_41, as_44, as_45, as_46, as_47, as_49, as_51, as_53, as_107, as_108, as_109, as_110, as_111, as_112, as_113, as_114, as_115, as_116, as_117, as_118, as_119, as_120, as_121, as_122, as_c, as_d, n_28_96, rin_4_1, s1_i1, s2_in, s2_io, s2_it, s1_r1, s2_rn, s2_ro, s2_rt, s1_n1, s2_nn, s2_no, s2_nt, s1_j1, s2_jn, s2_jo, s2_jt, sto1_1l, sto1_z, sto2_z0, sto2_z1, sto2_z2, s1_2, s2_2, s1_3, s2_3, s1_4, s2_4, s1_5, s2_5, s1_6, s2_6, s1_7, s2_7, s1_8, s2_8, s1_9, s2_9, s1_10, s2_10, s1_11, s2_11, s1_12, s2_12, s1_13, s2_13, s1_14, s2_14, s1_15, s2_15, tl_c, tl_n, n_28_99, ri_goto, tn_48, n_28_102, n_28_103, n_28_104, n_28_105, ent_n, ent_i, ent_l, ent_r, ent_u, tL_n, tL_s, ap_n, ap_c, b01, b01L, ite_not, z10, cA0, cB0, cC0, cD0, cE0, cF0, cA1, cB1, cC1, cD1, cE1, cF1, cA2, cB2, cC2, cD2, cE2, cF2, cA3, cB3, cC3, cD3, cE3, cF3, vinT, vinN, li_clamp, iN_clamp, ↓reduceIte, if_true, if_false, iN_add1, iL_add, lI_add, iN_add, lI_mul, iL_mul, iN_mul, iN_sub, iL_sub, lI_sub, and_self, and_true, true_and, and_false, false_and, z10L, lc_eq, lc_lt, lc_le, lc_ge, lc_gt, u2_s, u2_k, u2_a, u2_T1, u2_T2, u2_T3, u2_T4, u2_T5, u2_T6, u2_T7, u2_T8]
                    refine ic_49u dj2 hw v3.1 v3.2 ((ko2 0 (by decide)).trans k3) k32 rfl (Nat.le_of_ble_eq_true rfl) (fun O fe d => ?_)
                    have k := fin J2 O _ _ (Int32.ofNat (tW n b p + 1)) 2 2 er2 tj2 (fd.tr fd2) fe k52 h2 (by omega) d
                    exact k
                  · rw [k67] at no2
                    exact K2 J2 L _ _ (er.trans (rdN_f no2)) (fd.tr fd2) FE.rf k42 h5
                · rw [k67] at no
                  exact K2 J L _ _ (eI.trans (rdN_f no)) fd FE.rf k4 g5
        by_cases w3 : tW n b p = 3
        · have d8 : ¬ 8 ≤ D.1 := fun q => c8 ⟨w3, q⟩
          simp (maxSteps := 2000000) (disch := first | rfl | exact Nat.le_of_ble_eq_true rfl | assumption | omega) only [n_28_0, ri_aload_0, ri_aloadN_0, n_28_1, gf_380503_1, n_28_4, ric_1, n_28_5, ri_icmp_ne, tn_15, n_28_8, n_28_9, ri_V, n_28_12, ri_goto, tn_17, n_28_15, ric_m9, n_28_17, ri_istore, s1_i1, s2_in, s2_io, s2_it, s1_r1, s2_rn, s2_ro, s2_rt, s1_n1, s2_nn, s2_no, s2_nt, s1_j1, s2_jn, s2_jo, s2_jt, sto1_1l, sto1_z, sto2_z0, sto2_z1, sto2_z2, s1_2, s2_2, s1_3, s2_3, s1_4, s2_4, s1_5, s2_5, s1_6, s2_6, s1_7, s2_7, s1_8, s2_8, s1_9, s2_9, s1_10, s2_10, s1_11, s2_11, s1_12, s2_12, s1_13, s2_13, s1_14, s2_14, s1_15, s2_15, tl_c, tl_n, n_28_18, ri_iload_2, n_28_19, n_28_21, ri_icmp_eq, tn_38, n_28_24, n_28_25, ric_4, n_28_26, tn_40, n_28_29, ri_aload_1, ri_aloadN_1, n_28_30, gf_430903_4, gf_430903_9, n_28_33, ric_8, n_28_35, ri_icmp_lt, n_28_38, ric_0, n_28_39, rt_28, ru_28, rx_28, n_28_40, n_28_41, ri_S, rc_42, n_28_44, n_28_45, n_28_46, n_28_48, ri_ret, tk_0, tk_1, tk_2, tk_3, tk_4, tk_5, tk_6, tk_7, tk_8, tk_9, tk_10, tk_11, tk_12, tk_13, ri_iload_4, ent_n, ent_i, ent_l, ent_r, ent_u, tL_n, tL_s, ap_n, ap_c, b01, b01L, ite_not, z10, cA0, cB0, cC0, cD0, cE0, cF0, cA1, cB1, cC1, cD1, cE1, cF1, cA2, cB2, cC2, cD2, cE2, cF2, cA3, cB3, cC3, cD3, cE3, cF3, vinT, vinN, li_clamp, iN_clamp, ↓reduceIte, if_true, if_false, iN_add1, iL_add, lI_add, iN_add, lI_mul, iL_mul, iN_mul, iN_sub, iL_sub, lI_sub, and_self, and_true, true_and, and_false, false_and, z10L, lc_eq, lc_lt, lc_le, lc_ge, lc_gt, p1, c1, m29, w9, n9, d2, eq_self]
          exact go
        · simp (maxSteps := 2000000) (disch := first | rfl | exact Nat.le_of_ble_eq_true rfl | assumption | omega) only [n_28_0, ri_aload_0, ri_aloadN_0, n_28_1, gf_380503_1, n_28_4, ric_1, n_28_5, ri_icmp_ne, tn_15, n_28_8, n_28_9, ri_V, n_28_12, ri_goto, tn_17, n_28_15, ric_m9, n_28_17, ri_istore, s1_i1, s2_in, s2_io, s2_it, s1_r1, s2_rn, s2_ro, s2_rt, s1_n1, s2_nn, s2_no, s2_nt, s1_j1, s2_jn, s2_jo, s2_jt, sto1_1l, sto1_z, sto2_z0, sto2_z1, sto2_z2, s1_2, s2_2, s1_3, s2_3, s1_4, s2_4, s1_5, s2_5, s1_6, s2_6, s1_7, s2_7, s1_8, s2_8, s1_9, s2_9, s1_10, s2_10, s1_11, s2_11, s1_12, s2_12, s1_13, s2_13, s1_14, s2_14, s1_15, s2_15, tl_c, tl_n, n_28_18, ri_iload_2, n_28_19, n_28_21, ri_icmp_eq, tn_38, n_28_24, n_28_25, ric_4, n_28_26, tn_40, n_28_29, ri_aload_1, ri_aloadN_1, n_28_30, gf_430903_4, gf_430903_9, n_28_33, ric_8, n_28_35, ri_icmp_lt, n_28_38, ric_0, n_28_39, rt_28, ru_28, rx_28, n_28_40, n_28_41, ri_S, rc_42, n_28_44, n_28_45, n_28_46, n_28_48, ri_ret, tk_0, tk_1, tk_2, tk_3, tk_4, tk_5, tk_6, tk_7, tk_8, tk_9, tk_10, tk_11, tk_12, tk_13, ri_iload_4, ent_n, ent_i, ent_l, ent_r, ent_u, tL_n, tL_s, ap_n, ap_c, b01, b01L, ite_not, z10, cA0, cB0, cC0, cD0, cE0, cF0, cA1, cB1, cC1, cD1, cE1, cF1, cA2, cB2, cC2, cD2, cE2, cF2, cA3, cB3, cC3, cD3, cE3, cF3, vinT, vinN, li_clamp, iN_clamp, ↓reduceIte, if_true, if_false, iN_add1, iL_add, lI_add, iN_add, lI_mul, iL_mul, iN_mul, iN_sub, iL_sub, lI_sub, and_self, and_true, true_and, and_false, false_and, z10L, lc_eq, lc_lt, lc_le, lc_ge, lc_gt, p1, c1, m29, w9, n9, d2, eq_self]
          exact go
  · have k := fail (by
      unfold rdI
      rw [if_neg (fun q => c1 (tM_1.mp q.1).1)])
    simp (maxSteps := 2000000) (disch := first | rfl | exact Nat.le_of_ble_eq_true rfl | assumption | omega) only [n_28_0, ri_aload_0, ri_aloadN_0, n_28_1, gf_380503_1, n_28_4, ric_1, n_28_5, ri_icmp_ne, tn_15, n_28_8, n_28_9, ri_V, n_28_12, ri_goto, tn_17, n_28_15, ric_m9, n_28_17, ri_istore, s1_i1, s2_in, s2_io, s2_it, s1_r1, s2_rn, s2_ro, s2_rt, s1_n1, s2_nn, s2_no, s2_nt, s1_j1, s2_jn, s2_jo, s2_jt, sto1_1l, sto1_z, sto2_z0, sto2_z1, sto2_z2, s1_2, s2_2, s1_3, s2_3, s1_4, s2_4, s1_5, s2_5, s1_6, s2_6, s1_7, s2_7, s1_8, s2_8, s1_9, s2_9, s1_10, s2_10, s1_11, s2_11, s1_12, s2_12, s1_13, s2_13, s1_14, s2_14, s1_15, s2_15, tl_c, tl_n, n_28_18, ri_iload_2, n_28_19, n_28_21, ri_icmp_eq, tn_38, n_28_24, n_28_25, ric_4, n_28_26, tn_40, n_28_29, ri_aload_1, ri_aloadN_1, n_28_30, gf_430903_4, gf_430903_9, n_28_33, ric_8, n_28_35, ri_icmp_lt, n_28_38, ric_0, n_28_39, rt_28, ru_28, rx_28, n_28_40, n_28_41, ri_S, rc_42, n_28_44, n_28_45, n_28_46, n_28_48, ri_ret, tk_0, tk_1, tk_2, tk_3, tk_4, tk_5, tk_6, tk_7, tk_8, tk_9, tk_10, tk_11, tk_12, tk_13, ri_iload_4, ent_n, ent_i, ent_l, ent_r, ent_u, tL_n, tL_s, ap_n, ap_c, b01, b01L, ite_not, z10, cA0, cB0, cC0, cD0, cE0, cF0, cA1, cB1, cC1, cD1, cE1, cF1, cA2, cB2, cC2, cD2, cE2, cF2, cA3, cB3, cC3, cD3, cE3, cF3, vinT, vinN, li_clamp, iN_clamp, ↓reduceIte, if_true, if_false, iN_add1, iL_add, lI_add, iN_add, lI_mul, iL_mul, iN_mul, iN_sub, iL_sub, lI_sub, and_self, and_true, true_and, and_false, false_and, z10L, lc_eq, lc_lt, lc_le, lc_ge, lc_gt, p1, eq_self]
    exact k
end S90
