/-! WALKS of the class: measured, and asked -/
theorem bool_iff {a b : Bool} (h : a = true ↔ b = true) : a = b := by
  cases a <;> cases b <;> simp_all
theorem tb_or0 {x y z : Int64} (h : x ||| y ||| z = 0) (c : Nat) : tb x c = false ∧ tb y c = false ∧ tb z c = false := by
  have e : tb (x ||| y ||| z) c = false := by rw [h]; exact tb_zero
  rw [tb_or, tb_or] at e
  simp only [Bool.or_eq_false_iff] at e
  exact ⟨e.1.1, e.1.2, e.2⟩
def WX (I J : Nat → Nat → Int32) (L M : Nat → Nat → Int64) : Prop := (∀ x k, x ≠ 41 → J x k = I x k) ∧ (∀ x k, ¬ (x = 40 ∧ k = 2) → M x k = L x k) ∧ InvW J M
theorem WX.tr {I J K : Nat → Nat → Int32} {L M O : Nat → Nat → Int64} (h : WX I J L M) (g : WX J K M O) : WX I K L O := ⟨fun x k z => (g.1 x k z).trans (h.1 x k z), fun x k z => (g.2.1 x k z).trans (h.2.1 x k z), g.2.2⟩
theorem WX.rf {I : Nat → Nat → Int32} {L : Nat → Nat → Int64} (h : InvW I L) : WX I I L L := ⟨fun _ _ _ => rfl, fun _ _ _ => rfl, h⟩
theorem relP_41 {p : Nat} (hp : p ≠ 5) (k : Nat) : relP p 41 k = false := by
  match p, hp with
  | 0, _ => rfl
  | 1, _ => rfl
  | 2, _ => rfl
  | 3, _ => rfl
  | 4, _ => rfl
  | 5, hp => exact absurd rfl hp
  | p + 6, _ => rfl
theorem relQ_40 {p : Nat} (hp : p ≠ 5) : relQ p 40 2 = false := by
  match p, hp with
  | 0, _ => rfl
  | 1, _ => rfl
  | 2, _ => rfl
  | 3, _ => rfl
  | 4, _ => rfl
  | 5, hp => exact absurd rfl hp
  | 6, _ => rfl
  | p + 7, _ => rfl
theorem WX.ag {I J : Nat → Nat → Int32} {L M : Nat → Nat → Int64} (h : WX I J L M) {p : Nat} (hp : p ≠ 5) : Ag p I J := fun a k z => h.1 a k (fun e => by rw [e, relP_41 hp] at z; cases z)
theorem WX.al {I J : Nat → Nat → Int32} {L M : Nat → Nat → Int64} (h : WX I J L M) {p : Nat} (hp : p ≠ 5) : Al p L M := fun a k z => h.2.1 a k (fun e => by rw [e.1, e.2, relQ_40 hp] at z; cases z)
theorem WX.inv {I J : Nat → Nat → Int32} {L M : Nat → Nat → Int64} (h : WX I J L M) (inv : Inv I L) : Inv J M := by
  obtain ⟨it, ⟨nc, iy, ib, im⟩, iu, iw, ia⟩ := inv
  exact ⟨it.fr (h.ag (by decide)), ⟨nc, iy.fr (h.ag (by decide)) (h.al (by decide)), ib.fr (h.ag (by decide)), im.fr (h.ag (by decide))⟩, iu.fr (h.ag (by decide)), h.2.2, InvA.fr ia (h.al (by decide))⟩
theorem WX.gr {I J : Nat → Nat → Int32} {L M : Nat → Nat → Int64} (h : WX I J L M) : grI J = grI I := by
  funext c
  unfold grI
  rw [h.1 111 c (by decide)]
section S43z
variable {N : Nat} {xs : Nat → Int32} {I : Nat → Nat → Int32} {L : Nat → Nat → Int64} {Q : Option Value → AH → Prop}
theorem lp_80 {f : Nat} (hf : f < 48) {g : Nat → Nat} (hg : ∀ c, c < 48 → g c < 4 ∧ ∀ e, e < 4 → tb (L 10 e) c = decide (e = g c)) (K : ∀ J, (∀ c, c < 48 → J 41 (f * 48 + c) = wayF g f c) → (∀ a k, (a ≠ 41 ∨ k < f * 48 ∨ f * 48 + 48 ≤ k) → J a k = I a k) → Q none (K0, J, L)) : ∀ (d m : Nat) (rc one two three : Int64) (J : Nat → Nat → Int32), m + d = 144 → (∀ c, c < 48 → (tb rc c = true ↔ RR g f m c = true)) → (∀ c, c < 48 → (tb one c = true ↔ LV g f (m + 2) c)) → (∀ c, c < 48 → (tb two c = true ↔ LV g f (m + 1) c)) → (∀ c, c < 48 → (tb three c = true ↔ LV g f m c)) → (∀ c, 48 ≤ c → tb one c = false ∧ tb two c = false ∧ tb three c = false) → (∀ c, c < 48 → J 41 (f * 48 + c) = fsA (fun q => RR g f q c) (m + 1) 0) → (∀ a k, (a ≠ 41 ∨ k < f * 48 ∨ f * 48 + 48 ≤ k) → J a k = I a k) → Rn (EE N xs) 80 10058 [.ref 40, .int (Int32.ofNat f), .long rc, jk, .long one, jk, .long two, jk, .long three, jk, .int (Int32.ofNat (m + 1))] [] (K0, J, L) Q
  | 0, m, rc, one, two, three, J, e, hr, h1, h2, h3, hb, hw, fr => by
    have e : m = 144 := e
    subst e
    rw [n_80_10058]
    simp (maxSteps := 2000000) (disch := first | rfl | exact Nat.le_of_ble_eq_true rfl | assumption | omega) only [n_80_0, ri_aload_0, ri_aloadN_0, n_80_1, ri_dupI, ri_dupR, ri_dupN, n_80_2, gf_460702_40, n_80_5, rlc_1, n_80_6, ri_iload_1, n_80_7, ri_lshl, n_80_8, ri_lor, n_80_9, pf_460702_40, n_80_12, n_80_13, n_80_14, rd2_5, n_80_17, ric_m9, n_80_19, ri_V, rc_81, n_80_22, n_80_23, n_80_24, n_80_25, n_80_26, gf_220700_40, n_80_29, ric_3, n_80_30, rc_82_9, n_80_33, rd2_6, n_80_36, ri_lxor, n_80_37, ri_land, n_80_38, ri_lstore, s1_i1, s2_in, s2_io, s2_it, s1_r1, s2_rn, s2_ro, s2_rt, s1_n1, s2_nn, s2_no, s2_nt, s1_j1, s2_jn, s2_jo, s2_jt, sto1_1l, sto1_z, sto2_z0, sto2_z1, sto2_z2, s1_2, s2_2, s1_3, s2_3, s1_4, s2_4, s1_5, s2_5, s1_6, s2_6, s1_7, s2_7, s1_8, s2_8, s1_9, s2_9, s1_10, s2_10, s1_11, s2_11, s1_12, s2_12, s1_13, s2_13, s1_14, s2_14, s1_15, s2_15, tl_c, tl_n, n_80_39, n_80_40, n_80_41, ri_lload_2, n_80_42, ric_0, n_80_43, n_80_46, n_80_47, n_80_49, rlc_0, n_80_50, n_80_52, n_80_53, n_80_55, ric_1, n_80_56, ri_istore, n_80_58, ri_ret, tk_0, tk_1, tk_2, tk_3, tk_4, tk_5, tk_6, tk_7, tk_8, tk_9, tk_10, tk_11, tk_12, tk_13, ri_iload_10, n_80_60, ric_144, n_80_63, ri_icmp_gt, tn_171, n_80_66, ri_lload_4, n_80_68, ri_lload_6, n_80_70, n_80_71, ri_lload_8, n_80_73, n_80_74, n_80_75, ri_lcmp, n_80_76, ri_if_eq, n_80_79, n_80_81, ri_S, rc_83, n_80_84, n_80_85, n_80_88, n_80_89, n_80_92, n_80_93, n_80_95, n_80_97, n_80_100, n_80_101, n_80_104, n_80_105, n_80_108, n_80_109, n_80_111, n_80_113, n_80_116, n_80_117, n_80_120, ric_2, n_80_121, n_80_124, n_80_125, n_80_127, n_80_129, n_80_131, n_80_133, n_80_135, ri_lload_11, n_80_137, ri_lload_13, n_80_139, n_80_140, ri_lload_15, n_80_142, n_80_143, n_80_144, n_80_147, n_80_148, n_80_149, n_80_151, n_80_152, n_80_154, n_80_155, n_80_156, n_80_157, n_80_158, n_80_160, n_80_162, n_80_165, rin_10_1, n_80_168, ri_goto, tn_58, n_80_171, rt_80, ent_n, ent_i, ent_l, ent_r, ent_u, tL_n, tL_s, ap_n, ap_c, b01, b01L, ite_not, z10, cA0, cB0, cC0, cD0, cE0, cF0, cA1, cB1, cC1, cD1, cE1, cF1, cA2, cB2, cC2, cD2, cE2, cF2, cA3, cB3, cC3, cD3, cE3, cF3, vinT, vinN, li_clamp, iN_clamp, ↓reduceIte, if_true, if_false, iN_add1, iL_add, lI_add, iN_add, lI_mul, iL_mul, iN_mul, iN_sub, iL_sub, lI_sub, and_self, and_true, true_and, and_false, false_and, z10L, lc_eq, lc_lt, lc_le, lc_ge, lc_gt, u2_s, u2_k, u2_a, u2_T1, u2_T2, u2_T3, u2_T4, u2_T5, u2_T6, u2_T7, u2_T8]
    exact K J hw fr
  | d + 1, m, rc, one, two, three, J, e, hr, h1, h2, h3, hb, hw, fr => by
    rw [n_80_10058]
    by_cases z : one ||| two ||| three = 0
    · simp (maxSteps := 2000000) (disch := first | rfl | exact Nat.le_of_ble_eq_true rfl | assumption | omega) only [n_80_0, ri_aload_0, ri_aloadN_0, n_80_1, ri_dupI, ri_dupR, ri_dupN, n_80_2, gf_460702_40, n_80_5, rlc_1, n_80_6, ri_iload_1, n_80_7, ri_lshl, n_80_8, ri_lor, n_80_9, pf_460702_40, n_80_12, n_80_13, n_80_14, rd2_5, n_80_17, ric_m9, n_80_19, ri_V, rc_81, n_80_22, n_80_23, n_80_24, n_80_25, n_80_26, gf_220700_40, n_80_29, ric_3, n_80_30, rc_82_9, n_80_33, rd2_6, n_80_36, ri_lxor, n_80_37, ri_land, n_80_38, ri_lstore, s1_i1, s2_in, s2_io, s2_it, s1_r1, s2_rn, s2_ro, s2_rt, s1_n1, s2_nn, s2_no, s2_nt, s1_j1, s2_jn, s2_jo, s2_jt, sto1_1l, sto1_z, sto2_z0, sto2_z1, sto2_z2, s1_2, s2_2, s1_3, s2_3, s1_4, s2_4, s1_5, s2_5, s1_6, s2_6, s1_7, s2_7, s1_8, s2_8, s1_9, s2_9, s1_10, s2_10, s1_11, s2_11, s1_12, s2_12, s1_13, s2_13, s1_14, s2_14, s1_15, s2_15, tl_c, tl_n, n_80_39, n_80_40, n_80_41, ri_lload_2, n_80_42, ric_0, n_80_43, n_80_46, n_80_47, n_80_49, rlc_0, n_80_50, n_80_52, n_80_53, n_80_55, ric_1, n_80_56, ri_istore, n_80_58, ri_ret, tk_0, tk_1, tk_2, tk_3, tk_4, tk_5, tk_6, tk_7, tk_8, tk_9, tk_10, tk_11, tk_12, tk_13, ri_iload_10, n_80_60, ric_144, n_80_63, ri_icmp_gt, tn_171, n_80_66, ri_lload_4, n_80_68, ri_lload_6, n_80_70, n_80_71, ri_lload_8, n_80_73, n_80_74, n_80_75, ri_lcmp, n_80_76, ri_if_eq, n_80_79, n_80_81, ri_S, rc_83, n_80_84, n_80_85, n_80_88, n_80_89, n_80_92, n_80_93, n_80_95, n_80_97, n_80_100, n_80_101, n_80_104, n_80_105, n_80_108, n_80_109, n_80_111, n_80_113, n_80_116, n_80_117, n_80_120, ric_2, n_80_121, n_80_124, n_80_125, n_80_127, n_80_129, n_80_131, n_80_133, n_80_135, ri_lload_11, n_80_137, ri_lload_13, n_80_139, n_80_140, ri_lload_15, n_80_142, n_80_143, n_80_144, n_80_147, n_80_148, n_80_149, n_80_151, n_80_152, n_80_154, n_80_155, n_80_156, n_80_157, n_80_158, n_80_160, n_80_162, n_80_165, rin_10_1, n_80_168, ri_goto, tn_58, n_80_171, rt_80, ent_n, ent_i, ent_l, ent_r, ent_u, tL_n, tL_s, ap_n, ap_c, b01, b01L, ite_not, z10, cA0, cB0, cC0, cD0, cE0, cF0, cA1, cB1, cC1, cD1, cE1, cF1, cA2, cB2, cC2, cD2, cE2, cF2, cA3, cB3, cC3, cD3, cE3, cF3, vinT, vinN, li_clamp, iN_clamp, ↓reduceIte, if_true, if_false, iN_add1, iL_add, lI_add, iN_add, lI_mul, iL_mul, iN_mul, iN_sub, iL_sub, lI_sub, and_self, and_true, true_and, and_false, false_and, z10L, lc_eq, lc_lt, lc_le, lc_ge, lc_gt, u2_s, u2_k, u2_a, u2_T1, u2_T2, u2_T3, u2_T4, u2_T5, u2_T6, u2_T7, u2_T8, z]
      refine K J (fun c hc => ?_) fr
      have nn : ∀ n c, c < 48 → ¬ LV g f (m + n) c := LV_end (fun c hc q => by
        have := (h1 c hc).mpr q
        rw [(tb_or0 z c).1] at this
        cases this) (fun c hc q => by
        have := (h2 c hc).mpr q
        rw [(tb_or0 z c).2.1] at this
        cases this) (fun c hc q => by
        have := (h3 c hc).mpr q
        rw [(tb_or0 z c).2.2] at this
        cases this)
      rw [hw c hc]
      have ext := fsA_ext (p := fun q => RR g f q c) (m := m + 1) (fun j hj hp => by
        obtain ⟨k, k1, k2, k3⟩ := least_of (p := fun q => RR g f q c) (j + 1) ⟨j, by omega, hp⟩
        refine ⟨k, ?_, k2⟩
        apply Classical.byContradiction
        intro hk
        have := nn (k - m + 2) c hc
        rw [show m + (k - m + 2) = k + 2 by omega] at this
        exact this ⟨k2, k3⟩) (144 - m)
      rw [show m + 1 + (144 - m) = 145 by omega] at ext
      exact ext.symm
    · have n1 : ∀ c, c < 64 → (tb ((asF one &&& L 10 1 ||| asF two &&& L 10 0 ||| asF three &&& L 10 2) &&& (rc ^^^ (-1))) c = true ↔ c < 48 ∧ lev g f (m + 1) c) := by
        intro c hc
        rw [tb_and, tb_inv hc, tb_or, tb_or, tb_and, tb_and, tb_and]
        simp only [Bool.and_eq_true, Bool.or_eq_true, Bool.not_eq_true']
        rw [asF_tb (fun c h => (hb c h).1) hc, asF_tb (fun c h => (hb c h).2.1) hc, asF_tb (fun c h => (hb c h).2.2) hc, lev_s]
        constructor
        · rintro ⟨h, hn⟩
          have c48 : c < 48 := by
            rcases h with (h | h) | h
            · exact h.1.1
            · exact h.1.1
            · exact h.1.1
          obtain ⟨g4, gb⟩ := hg c c48
          have nr : RR g f m c = false := by
            cases q : RR g f m c with
            | false => rfl
            | true =>
              rw [(hr c c48).mpr q] at hn
              cases hn
          refine ⟨c48, nr, ?_⟩
          rcases h with (⟨⟨-, d, a, b⟩, h⟩ | ⟨⟨-, d, a, b⟩, h⟩) | ⟨⟨-, d, a, b⟩, h⟩
          · rw [gb 1 (by decide)] at h
            exact ⟨d, a, Or.inl ⟨(of_decide_eq_true h).symm, (h1 d (nbr_lt a)).mp b⟩⟩
          · rw [gb 0 (by decide)] at h
            exact ⟨d, a, Or.inr (Or.inl ⟨(of_decide_eq_true h).symm, (h2 d (nbr_lt a)).mp b⟩)⟩
          · rw [gb 2 (by decide)] at h
            exact ⟨d, a, Or.inr (Or.inr ⟨(of_decide_eq_true h).symm, (h3 d (nbr_lt a)).mp b⟩)⟩
        · rintro ⟨c48, nr, d, a, h⟩
          obtain ⟨g4, gb⟩ := hg c c48
          refine ⟨?_, ?_⟩
          · rcases h with ⟨e, h⟩ | ⟨e, h⟩ | ⟨e, h⟩
            · refine Or.inl (Or.inl ⟨⟨c48, d, a, (h1 d (nbr_lt a)).mpr h⟩, ?_⟩)
              rw [gb 1 (by decide), e]
              decide
            · refine Or.inl (Or.inr ⟨⟨c48, d, a, (h2 d (nbr_lt a)).mpr h⟩, ?_⟩)
              rw [gb 0 (by decide), e]
              decide
            · refine Or.inr ⟨⟨c48, d, a, (h3 d (nbr_lt a)).mpr h⟩, ?_⟩
              rw [gb 2 (by decide), e]
              decide
          · cases q : tb rc c with
            | false => rfl
            | true =>
              rw [(hr c c48).mp q] at nr
              cases nr
      simp (maxSteps := 2000000) (disch := first | rfl | exact Nat.le_of_ble_eq_true rfl | assumption | omega) only [n_80_0, ri_aload_0, ri_aloadN_0, n_80_1, ri_dupI, ri_dupR, ri_dupN, n_80_2, gf_460702_40, n_80_5, rlc_1, n_80_6, ri_iload_1, n_80_7, ri_lshl, n_80_8, ri_lor, n_80_9, pf_460702_40, n_80_12, n_80_13, n_80_14, rd2_5, n_80_17, ric_m9, n_80_19, ri_V, rc_81, n_80_22, n_80_23, n_80_24, n_80_25, n_80_26, gf_220700_40, n_80_29, ric_3, n_80_30, rc_82_9, n_80_33, rd2_6, n_80_36, ri_lxor, n_80_37, ri_land, n_80_38, ri_lstore, s1_i1, s2_in, s2_io, s2_it, s1_r1, s2_rn, s2_ro, s2_rt, s1_n1, s2_nn, s2_no, s2_nt, s1_j1, s2_jn, s2_jo, s2_jt, sto1_1l, sto1_z, sto2_z0, sto2_z1, sto2_z2, s1_2, s2_2, s1_3, s2_3, s1_4, s2_4, s1_5, s2_5, s1_6, s2_6, s1_7, s2_7, s1_8, s2_8, s1_9, s2_9, s1_10, s2_10, s1_11, s2_11, s1_12, s2_12, s1_13, s2_13, s1_14, s2_14, s1_15, s2_15, tl_c, tl_n, n_80_39, n_80_40, n_80_41, ri_lload_2, n_80_42, ric_0, n_80_43, n_80_46, n_80_47, n_80_49, rlc_0, n_80_50, n_80_52, n_80_53, n_80_55, ric_1, n_80_56, ri_istore, n_80_58, ri_ret, tk_0, tk_1, tk_2, tk_3, tk_4, tk_5, tk_6, tk_7, tk_8, tk_9, tk_10, tk_11, tk_12, tk_13, ri_iload_10, n_80_60, ric_144, n_80_63, ri_icmp_gt, tn_171, n_80_66, ri_lload_4, n_80_68, ri_lload_6, n_80_70, n_80_71, ri_lload_8, n_80_73, n_80_74, n_80_75, ri_lcmp, n_80_76, ri_if_eq, n_80_79, n_80_81, ri_S, rc_83, n_80_84, n_80_85, n_80_88, n_80_89, n_80_92, n_80_93, n_80_95, n_80_97, n_80_100, n_80_101, n_80_104, n_80_105, n_80_108, n_80_109, n_80_111, n_80_113, n_80_116, n_80_117, n_80_120, ric_2, n_80_121, n_80_124, n_80_125, n_80_127, n_80_129, n_80_131, n_80_133, n_80_135, ri_lload_11, n_80_137, ri_lload_13, n_80_139, n_80_140, ri_lload_15, n_80_142, n_80_143, n_80_144, n_80_147, n_80_148, n_80_149, n_80_151, n_80_152, n_80_154, n_80_155, n_80_156, n_80_157, n_80_158, n_80_160, n_80_162, n_80_165, rin_10_1, n_80_168, ri_goto, tn_58, n_80_171, rt_80, ent_n, ent_i, ent_l, ent_r, ent_u, tL_n, tL_s, ap_n, ap_c, b01, b01L, ite_not, z10, cA0, cB0, cC0, cD0, cE0, cF0, cA1, cB1, cC1, cD1, cE1, cF1, cA2, cB2, cC2, cD2, cE2, cF2, cA3, cB3, cC3, cD3, cE3, cF3, vinT, vinN, li_clamp, iN_clamp, ↓reduceIte, if_true, if_false, iN_add1, iL_add, lI_add, iN_add, lI_mul, iL_mul, iN_mul, iN_sub, iL_sub, lI_sub, and_self, and_true, true_and, and_false, false_and, z10L, lc_eq, lc_lt, lc_le, lc_ge, lc_gt, u2_s, u2_k, u2_a, u2_T1, u2_T2, u2_T3, u2_T4, u2_T5, u2_T6, u2_T7, u2_T8, z]
      generalize ((asF one &&& L 10 1 ||| asF two &&& L 10 0 ||| asF three &&& L 10 2) &&& (rc ^^^ (-1))) = new at n1 ⊢
      have nhi : ∀ c, 48 ≤ c → tb new c = false := by
        intro c hc
        by_cases y : c < 64
        · cases q : tb new c with
          | false => rfl
          | true =>
            have := ((n1 c y).mp q).1
            omega
        · exact tb_ge (by omega)
      refine lp_80 hf hg K d (m + 1) _ _ _ _ _ (by omega) (fun c hc => ?_) (fun c hc => ?_) h1 h2 (fun c hc => ⟨nhi c hc, (hb c hc).1, (hb c hc).2.1⟩) (fun c hc => ?_) (fun a k h => ?_)
      · rw [tb_or, Bool.or_eq_true, hr c hc, n1 c (by omega)]
        constructor
        · rintro (h | h)
          · exact RR_up h
          · exact h.2.1
        · intro h
          cases q : RR g f m c with
          | true => exact Or.inl rfl
          | false =>
            refine Or.inr ⟨hc, h, fun j hj => ?_⟩
            cases q2 : RR g f j c with
            | false => rfl
            | true =>
              rw [RR_mono (show j ≤ m by omega) q2] at q
              cases q
      · rw [n1 c (by omega)]
        exact ⟨fun h => h.2, fun h => ⟨hc, h⟩⟩
      · show (if 41 = 41 ∧ f * 48 ≤ f * 48 + c ∧ f * 48 + c < f * 48 + 48 ∧ tb new (f * 48 + c - f * 48) = true then Int32.ofNat (m + 1) else J 41 (f * 48 + c)) = _
        rw [show f * 48 + c - f * 48 = c by omega, hw c hc]
        by_cases w : ∃ k, k < m + 1 ∧ RR g f k c = true
        · have y : ¬ tb new c = true := by
            intro y
            have l := ((n1 c (by omega)).mp y).2
            obtain ⟨k, k1, k2⟩ := w
            rw [l.2 k (by omega)] at k2
            cases k2
          rw [if_neg (fun q => y q.2.2.2), fsA_snoc1 w]
        · have nn : ∀ k, k < m + 1 → RR g f k c = false := by
            intro k hk
            cases q : RR g f k c with
            | false => rfl
            | true => exact absurd ⟨k, hk, q⟩ w
          rw [fsA_snoc0 nn]
          by_cases y : tb new c = true
          · rw [if_pos ⟨rfl, by omega, by omega, y⟩, if_pos ((n1 c (by omega)).mp y).2.1]
          · rw [if_neg (fun q => y q.2.2.2), if_neg, fsA_none]
            · exact fun j _ hj => nn j (by omega)
            · intro q
              apply y
              rw [n1 c (by omega)]
              exact ⟨hc, q, fun j hj => nn j hj⟩
      · show (if a = 41 ∧ f * 48 ≤ k ∧ k < f * 48 + 48 ∧ tb new (k - f * 48) = true then Int32.ofNat (m + 1) else J a k) = _
        rw [if_neg (by omega)]
        exact fr a k h
theorem sp_80 {f : Nat} (hf : f < 48) {g : Nat → Nat} (hg : ∀ c, c < 48 → g c < 4 ∧ ∀ e, e < 4 → tb (L 10 e) c = decide (e = g c)) (K : ∀ J, (∀ c, c < 48 → J 41 (f * 48 + c) = wayF g f c) → (∀ a k, (a ≠ 41 ∨ k < f * 48 ∨ f * 48 + 48 ≤ k) → J a k = I a k) → Q none (K0, J, u2 L 40 2 (L 40 2 ||| 1 <<< ((Int32.ofNat f).toInt64 &&& 63)))) : Rn (EE N xs) 80 0 [.ref 40, .int (Int32.ofNat f)] [] (K0, I, L) Q := by
  have b0 : ∀ c, c < 64 → (tb ((1 : Int64) <<< ((Int32.ofNat f).toInt64 &&& 63) &&& (L 10 3 ^^^ (-1))) c = true ↔ c = f ∧ tb (L 10 3) f = false) := by
    intro c hc
    rw [tb_and, tb_bit (by omega) hc, tb_inv hc]
    simp only [Bool.and_eq_true, decide_eq_true_eq, Bool.not_eq_true']
    constructor
    · rintro ⟨h1, h2⟩
      rw [h1] at h2
      exact ⟨h1, h2⟩
    · rintro ⟨h1, h2⟩
      rw [h1]
      exact ⟨rfl, h2⟩
  have g3 : tb (L 10 3) f = decide (3 = g f) := (hg f hf).2 3 (by decide)
  have r0 : ∀ c, c < 48 → (tb ((1 : Int64) <<< ((Int32.ofNat f).toInt64 &&& 63) &&& (L 10 3 ^^^ (-1))) c = true ↔ RR g f 0 c = true) := by
    intro c hc
    rw [b0 c (by omega), RR_0, g3]
    simp only [Bool.and_eq_true, decide_eq_true_eq, Bool.not_eq_true', decide_eq_false_iff_not]
    constructor
    · rintro ⟨h1, h2⟩
      exact ⟨h1, fun e => h2 e.symm⟩
    · rintro ⟨h1, h2⟩
      exact ⟨h1, fun e => h2 e.symm⟩
  simp (maxSteps := 2000000) (disch := first | rfl | exact Nat.le_of_ble_eq_true rfl | assumption | omega) only [n_80_0, ri_aload_0, ri_aloadN_0, n_80_1, ri_dupI, ri_dupR, ri_dupN, n_80_2, gf_460702_40, n_80_5, rlc_1, n_80_6, ri_iload_1, n_80_7, ri_lshl, n_80_8, ri_lor, n_80_9, pf_460702_40, n_80_12, n_80_13, n_80_14, rd2_5, n_80_17, ric_m9, n_80_19, ri_V, rc_81, n_80_22, n_80_23, n_80_24, n_80_25, n_80_26, gf_220700_40, n_80_29, ric_3, n_80_30, rc_82_9, n_80_33, rd2_6, n_80_36, ri_lxor, n_80_37, ri_land, n_80_38, ri_lstore, s1_i1, s2_in, s2_io, s2_it, s1_r1, s2_rn, s2_ro, s2_rt, s1_n1, s2_nn, s2_no, s2_nt, s1_j1, s2_jn, s2_jo, s2_jt, sto1_1l, sto1_z, sto2_z0, sto2_z1, sto2_z2, s1_2, s2_2, s1_3, s2_3, s1_4, s2_4, s1_5, s2_5, s1_6, s2_6, s1_7, s2_7, s1_8, s2_8, s1_9, s2_9, s1_10, s2_10, s1_11, s2_11, s1_12, s2_12, s1_13, s2_13, s1_14, s2_14, s1_15, s2_15, tl_c, tl_n, n_80_39, n_80_40, n_80_41, ri_lload_2, n_80_42, ric_0, n_80_43, n_80_46, n_80_47, n_80_49, rlc_0, n_80_50, n_80_52, n_80_53, n_80_55, ric_1, n_80_56, ri_istore, n_80_58, ri_ret, tk_0, tk_1, tk_2, tk_3, tk_4, tk_5, tk_6, tk_7, tk_8, tk_9, tk_10, tk_11, tk_12, tk_13, ri_iload_10, n_80_60, ric_144, n_80_63, ri_icmp_gt, tn_171, n_80_66, ri_lload_4, n_80_68, ri_lload_6, n_80_70, n_80_71, ri_lload_8, n_80_73, n_80_74, n_80_75, ri_lcmp, n_80_76, ri_if_eq, n_80_79, n_80_81, ri_S, rc_83, n_80_84, n_80_85, n_80_88, n_80_89, n_80_92, n_80_93, n_80_95, n_80_97, n_80_100, n_80_101, n_80_104, n_80_105, n_80_108, n_80_109, n_80_111, n_80_113, n_80_116, n_80_117, n_80_120, ric_2, n_80_121, n_80_124, n_80_125, n_80_127, n_80_129, n_80_131, n_80_133, n_80_135, ri_lload_11, n_80_137, ri_lload_13, n_80_139, n_80_140, ri_lload_15, n_80_142, n_80_143, n_80_144, n_80_147, n_80_148, n_80_149, n_80_151, n_80_152, n_80_154, n_80_155, n_80_156, n_80_157, n_80_158, n_80_160, n_80_162, n_80_165, rin_10_1, n_80_168, ri_goto, tn_58, n_80_171, rt_80, ent_n, ent_i, ent_l, ent_r, ent_u, tL_n, tL_s, ap_n, ap_c, b01, b01L, ite_not, z10, cA0, cB0, cC0, cD0, cE0, cF0, cA1, cB1, cC1, cD1, cE1, cF1, cA2, cB2, cC2, cD2, cE2, cF2, cA3, cB3, cC3, cD3, cE3, cF3, vinT, vinN, li_clamp, iN_clamp, ↓reduceIte, if_true, if_false, iN_add1, iL_add, lI_add, iN_add, lI_mul, iL_mul, iN_mul, iN_sub, iL_sub, lI_sub, and_self, and_true, true_and, and_false, false_and, z10L, lc_eq, lc_lt, lc_le, lc_ge, lc_gt, u2_s, u2_k, u2_a, u2_T1, u2_T2, u2_T3, u2_T4, u2_T5, u2_T6, u2_T7, u2_T8, u2_a]
  generalize ((1 : Int64) <<< ((Int32.ofNat f).toInt64 &&& 63) &&& (L 10 3 ^^^ (-1))) = st at b0 r0 ⊢
  have hi : ∀ c, 48 ≤ c → tb st c = false := by
    intro c hc
    by_cases y : c < 64
    · cases q : tb st c with
      | false => rfl
      | true =>
        have := ((b0 c y).mp q).1
        omega
    · exact tb_ge (by omega)
  refine lp_80 (I := I) (L := u2 L 40 2 (L 40 2 ||| 1 <<< ((Int32.ofNat f).toInt64 &&& 63))) hf (g := g) (fun c hc => ?_) K 144 0 st st 0 0 _ rfl r0 (fun c hc => ?_) (fun c hc => ?_) (fun c hc => ?_) (fun c hc => ⟨hi c hc, tb_zero, tb_zero⟩) (fun c hc => ?_) (fun a k h => ?_)
  · rw [u2_a (by decide)]
    exact hg c hc
  · rw [r0 c hc]
    exact ⟨fun h => ⟨h, fun j hj => absurd hj (Nat.not_lt_zero j)⟩, fun h => h.1⟩
  · rw [tb_zero]
    exact ⟨(fun h => by cases h), (fun h => False.elim h)⟩
  · rw [tb_zero]
    exact ⟨(fun h => by cases h), (fun h => False.elim h)⟩
  · show (if 41 = 41 ∧ f * 48 ≤ f * 48 + c ∧ f * 48 + c < f * 48 + 48 ∧ tb st (f * 48 + c - f * 48) = true then (0 : Int32) else if 41 = 41 ∧ f * 48 ≤ f * 48 + c ∧ f * 48 + c < f * 48 + 48 ∧ tb 281474976710655 (f * 48 + c - f * 48) = true then (-9 : Int32) else I 41 (f * 48 + c)) = if RR g f 0 c = true then Int32.ofNat 0 else -9
    rw [show f * 48 + c - f * 48 = c by omega, m_all c (by omega)]
    by_cases y : tb st c = true
    · rw [if_pos ⟨rfl, by omega, by omega, y⟩, if_pos ((r0 c hc).mp y)]
      rfl
    · rw [if_neg (fun q => y q.2.2.2), if_pos ⟨rfl, by omega, by omega, decide_eq_true hc⟩, if_neg (fun q => y ((r0 c hc).mpr q))]
  · show (if a = 41 ∧ f * 48 ≤ k ∧ k < f * 48 + 48 ∧ tb st (k - f * 48) = true then (0 : Int32) else if a = 41 ∧ f * 48 ≤ k ∧ k < f * 48 + 48 ∧ tb 281474976710655 (k - f * 48) = true then (-9 : Int32) else I a k) = I a k
    rw [if_neg (by omega), if_neg (by omega)]
theorem sp_79 (inv : Inv I L) {a b : Nat} (ha : a < 48) (hb : b < 48) (K : ∀ J M, WX I J L M → Q (some (.int (wayF (grI I) a b))) (K0, J, M)) : Rn (EE N xs) 79 0 [.ref 40, .int (Int32.ofNat a), .int (Int32.ofNat b)] [] (K0, I, L) Q := by
  obtain ⟨it, ⟨nc, iy, ib, im⟩, iu, iw, ia⟩ := id inv
  obtain ⟨nt, hnt, t1, t2, t3⟩ := id it
  obtain ⟨y0, y1, y2, y3, y4, y5, y6⟩ := id iy
  obtain ⟨h, h12, b1, b2, b3⟩ := InvB_get ib
  obtain ⟨u, u1, ⟨u2a, u2b⟩, u3q, ⟨u4a, u4b⟩, ⟨u5a, u5b⟩, u6q⟩ := id iu
  have hg : ∀ c, c < 48 → grI I c < 4 ∧ ∀ e, e < 4 → tb (L 10 e) c = decide (e = grI I c) := by
    intro c hc
    obtain ⟨g, g1, g2, g3⟩ := y6 c hc
    have e : grI I c = g := by
      unfold grI
      rw [g2, iN_clamp (by omega)]
    rw [e]
    exact ⟨g1, g3⟩
  cases kn : tb (L 40 2) a with
  | true =>
    have := iw a ha kn b hb
    simp (maxSteps := 2000000) (disch := first | rfl | exact Nat.le_of_ble_eq_true rfl | assumption | omega) only [n_79_0, ri_iload_1, n_79_1, ri_S, rc_46, n_79_4, ri_if_eq, tn_14, n_79_7, ri_iload_2, n_79_8, n_79_11, ri_if_ne, tn_17, n_79_14, ric_m9, n_79_16, rt_79, n_79_17, ri_aload_0, ri_aloadN_0, n_79_18, gf_460702_40, n_79_21, n_79_22, rc_47, n_79_25, tn_33, n_79_28, n_79_29, n_79_30, ri_V, n_79_33, n_79_34, gf_210701_40, n_79_37, n_79_38, ric_48, n_79_40, ri_imul, n_79_41, n_79_42, ri_iadd, n_79_43, al_2, al_3, al_5, al_6, al_7, al_10, al_11, al_12, al_39, al_41, al_44, al_45, al_46, al_47, al_49, al_51, al_53, al_107, al_108, al_109, al_110, al_111, al_112, al_113, al_114, al_115, al_116, al_117, al_118, al_119, al_120, al_121, al_122, al_c, al_d, al_14, al_bk, al_52, al_x0, al_x1, al_x2, al_x3, n_79_44, ent_n, ent_i, ent_l, ent_r, ent_u, tL_n, tL_s, ap_n, ap_c, b01, b01L, ite_not, z10, cA0, cB0, cC0, cD0, cE0, cF0, cA1, cB1, cC1, cD1, cE1, cF1, cA2, cB2, cC2, cD2, cE2, cF2, cA3, cB3, cC3, cD3, cE3, cF3, vinT, vinN, li_clamp, iN_clamp, ↓reduceIte, if_true, if_false, iN_add1, iL_add, lI_add, iN_add, lI_mul, iL_mul, iN_mul, iN_sub, iL_sub, lI_sub, and_self, and_true, true_and, and_false, false_and, z10L, lc_eq, lc_lt, lc_le, lc_ge, lc_gt, hb_tb, kn]
    rw [this]
    exact K I L (WX.rf iw)
  | false =>
    have e := RnC_V (E := EE N xs) (M := 79) (n := 71080) (nx := 33) (a := 40) (ls := [.ref 40, .int (Int32.ofNat a), .int (Int32.ofNat b)]) (as := [.int (Int32.ofNat a)]) (r := []) (h := (K0, I, L)) (Q := Q) (y := 80) rfl rfl (show K0[40]? = some (.inl (ciM 80, _)) from rfl) (show (2 : Nat) ≤ mlM 80 by decide) (by decide)
    simp (maxSteps := 2000000) (disch := first | rfl | exact Nat.le_of_ble_eq_true rfl | assumption | omega) only [n_79_0, ri_iload_1, n_79_1, ri_S, rc_46, n_79_4, ri_if_eq, tn_14, n_79_7, ri_iload_2, n_79_8, n_79_11, ri_if_ne, tn_17, n_79_14, ric_m9, n_79_16, rt_79, n_79_17, ri_aload_0, ri_aloadN_0, n_79_18, gf_460702_40, n_79_21, n_79_22, rc_47, n_79_25, tn_33, n_79_28, n_79_29, n_79_30, ri_V, n_79_33, n_79_34, gf_210701_40, n_79_37, n_79_38, ric_48, n_79_40, ri_imul, n_79_41, n_79_42, ri_iadd, n_79_43, al_2, al_3, al_5, al_6, al_7, al_10, al_11, al_12, al_39, al_41, al_44, al_45, al_46, al_47, al_49, al_51, al_53, al_107, al_108, al_109, al_110, al_111, al_112, al_113, al_114, al_115, al_116, al_117, al_118, al_119, al_120, al_121, al_122, al_c, al_d, al_14, al_bk, al_52, al_x0, al_x1, al_x2, al_x3, n_79_44, ent_n, ent_i, ent_l, ent_r, ent_u, tL_n, tL_s, ap_n, ap_c, b01, b01L, ite_not, z10, cA0, cB0, cC0, cD0, cE0, cF0, cA1, cB1, cC1, cD1, cE1, cF1, cA2, cB2, cC2, cD2, cE2, cF2, cA3, cB3, cC3, cD3, cE3, cF3, vinT, vinN, li_clamp, iN_clamp, ↓reduceIte, if_true, if_false, iN_add1, iL_add, lI_add, iN_add, lI_mul, iL_mul, iN_mul, iN_sub, iL_sub, lI_sub, and_self, and_true, true_and, and_false, false_and, z10L, lc_eq, lc_lt, lc_le, lc_ge, lc_gt, hb_tb, kn, Bool.false_eq_true]
    refine e.mpr (sp_80 ha hg (fun J j1 j2 => ?_))
    simp only [tL_n, ap_n]
    simp (maxSteps := 2000000) (disch := first | rfl | exact Nat.le_of_ble_eq_true rfl | assumption | omega) only [n_79_0, ri_iload_1, n_79_1, ri_S, rc_46, n_79_4, ri_if_eq, tn_14, n_79_7, ri_iload_2, n_79_8, n_79_11, ri_if_ne, tn_17, n_79_14, ric_m9, n_79_16, rt_79, n_79_17, ri_aload_0, ri_aloadN_0, n_79_18, gf_460702_40, n_79_21, n_79_22, rc_47, n_79_25, tn_33, n_79_28, n_79_29, n_79_30, ri_V, n_79_33, n_79_34, gf_210701_40, n_79_37, n_79_38, ric_48, n_79_40, ri_imul, n_79_41, n_79_42, ri_iadd, n_79_43, al_2, al_3, al_5, al_6, al_7, al_10, al_11, al_12, al_39, al_41, al_44, al_45, al_46, al_47, al_49, al_51, al_53, al_107, al_108, al_109, al_110, al_111, al_112, al_113, al_114, al_115, al_116, al_117, al_118, al_119, al_120, al_121, al_122, al_c, al_d, al_14, al_bk, al_52, al_x0, al_x1, al_x2, al_x3, n_79_44, ent_n, ent_i, ent_l, ent_r, ent_u, tL_n, tL_s, ap_n, ap_c, b01, b01L, ite_not, z10, cA0, cB0, cC0, cD0, cE0, cF0, cA1, cB1, cC1, cD1, cE1, cF1, cA2, cB2, cC2, cD2, cE2, cF2, cA3, cB3, cC3, cD3, cE3, cF3, vinT, vinN, li_clamp, iN_clamp, ↓reduceIte, if_true, if_false, iN_add1, iL_add, lI_add, iN_add, lI_mul, iL_mul, iN_mul, iN_sub, iL_sub, lI_sub, and_self, and_true, true_and, and_false, false_and, z10L, lc_eq, lc_lt, lc_le, lc_ge, lc_gt, j1 b hb]
    refine K _ _ ⟨fun x k h => j2 x k (Or.inl h), fun x k h => ?_, fun c hc hk d hd => ?_⟩
    · show (if x = 40 ∧ k = 2 then _ else L x k) = L x k
      rw [if_neg h]
    · have eg : grI J = grI I := by
        funext c
        unfold grI
        rw [j2 111 c (Or.inl (by decide))]
      rw [eg]
      by_cases z : c = a
      · subst z
        exact j1 d hd
      · rw [u2_s, tb_or, tb_bit (by omega) (by omega), decide_eq_false z, Bool.or_false] at hk
        rw [j2 41 _ (by omega)]
        exact iw c hc hk d hd
end S43z
