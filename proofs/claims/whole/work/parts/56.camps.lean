/-! CAMPS: the first loop of both -/
def bstO (co : Nat → Option Nat) : Nat → Option (Nat × Nat)
  | 0 => none
  | n + 1 => match co n with
    | none => bstO co n
    | some s => match bstO co n with
      | none => some (n, s)
      | some q => if s < q.2 then some (n, s) else some q
theorem bstO_ok {co : Nat → Option Nat} : ∀ n q, bstO co n = some q → q.1 < n ∧ co q.1 = some q.2
  | 0, q, h => by cases h
  | n + 1, q, h => by
    unfold bstO at h
    cases c : co n with
    | none =>
      rw [c] at h
      have := bstO_ok n q h
      exact ⟨by omega, this.2⟩
    | some s =>
      rw [c] at h
      cases b : bstO co n with
      | none =>
        rw [b] at h
        cases h
        exact ⟨by omega, c⟩
      | some r =>
        rw [b] at h
        have := bstO_ok n r b
        by_cases z : s < r.2
        · simp only [z, if_true] at h
          cases h
          exact ⟨by omega, c⟩
        · simp only [z, if_false] at h
          cases h
          exact ⟨by omega, this.2⟩
def bc1 : Option (Nat × Nat) → Int32
  | none => -9
  | some q => Int32.ofNat q.1
def bc2 : Option (Nat × Nat) → Int32
  | none => -9
  | some q => Int32.ofNat q.2
def AX (I J : Nat → Nat → Int32) : Prop := ∀ x, x ≠ 41 → x ≠ 42 → x ≠ 106 → (x < 115 ∨ 118 < x) → J x = I x
theorem campO_ax {I J : Nat → Nat → Int32} (f : AX I J) : campO J = campO I := by
  have g : grI J = grI I := by
    funext c
    unfold grI
    rw [f 111 (by decide) (by decide) (by decide) (by decide)]
  have th : ∀ t, J (thd 13 t) = I (thd 13 t) := fun t => by
    have := thd_lo t
    exact f _ (by omega) (by omega) (by omega) (by omega)
  have e1 : hisB J = hisB I := by
    funext t
    unfold hisB
    rw [th, f 39 (by decide) (by decide) (by decide) (by decide)]
  have e2 : trT J = trT I := by
    funext c t
    unfold trT
    rw [g, th, f 112 (by decide) (by decide) (by decide) (by decide)]
  have e3 : apX J = apX I := by
    funext c k
    unfold apX
    rw [g, f 112 (by decide) (by decide) (by decide) (by decide), f 39 (by decide) (by decide) (by decide) (by decide)]
  funext c
  unfold campO
  rw [e1, e2, e3, g, f 9 (by decide) (by decide) (by decide) (by decide), f 39 (by decide) (by decide) (by decide) (by decide), f 13 (by decide) (by decide) (by decide) (by decide)]
def QX (I J : Nat → Nat → Int32) (L M : Nat → Nat → Int64) : Prop := (∀ x k, x ≠ 41 → x ≠ 42 → J x k = I x k) ∧ (∀ x k, ¬ (x = 40 ∧ k = 2) → x ≠ 42 → M x k = L x k) ∧ InvW J M
theorem relP_42 (p k : Nat) : relP p 42 k = false := by
  match p with
  | 0 => rfl
  | 1 => rfl
  | 2 => rfl
  | 3 => rfl
  | 4 => rfl
  | 5 => rfl
  | p + 6 => rfl
theorem relQ_42 (p k : Nat) : relQ p 42 k = false := by
  match p with
  | 0 => rfl
  | 1 => rfl
  | 2 => rfl
  | 3 => rfl
  | 4 => rfl
  | 5 => rfl
  | 6 => rfl
  | p + 7 => rfl
theorem QX.inv {I J : Nat → Nat → Int32} {L M : Nat → Nat → Int64} (h : QX I J L M) (inv : Inv I L) : Inv J M := by
  obtain ⟨it, ⟨nc, iy, ib, im⟩, iu, iw, ia⟩ := inv
  have ag : ∀ p, p ≠ 5 → Ag p I J := fun p hp a k z => h.1 a k (fun e => by rw [e, relP_41 hp] at z; cases z) (fun e => by rw [e, relP_42] at z; cases z)
  have al : ∀ p, p ≠ 5 → Al p L M := fun p hp a k z => h.2.1 a k (fun e => by rw [e.1, e.2, relQ_40 hp] at z; cases z) (fun e => by rw [e, relQ_42] at z; cases z)
  exact ⟨it.fr (ag 0 (by decide)), ⟨nc, iy.fr (ag 1 (by decide)) (al 1 (by decide)), ib.fr (ag 2 (by decide)), im.fr (ag 3 (by decide))⟩, iu.fr (ag 4 (by decide)), h.2.2, InvA.fr ia (al 6 (by decide))⟩
theorem QX.co {I J : Nat → Nat → Int32} {L M : Nat → Nat → Int64} (h : QX I J L M) : campO J = campO I := campO_ax (fun x h1 h2 _ _ => funext fun k => h.1 x k h1 h2)
/-- what find() has laid down of the first n cells -/
def cfP (I : Nat → Nat → Int32) (n : Nat) (J : Nat → Nat → Int32) (M : Nat → Nat → Int64) : Prop := (∀ c, c < 64 → tb (M 42 2) c = (decide (c < n) && (campO I c).isSome)) ∧ J 42 3 = bc1 (bstO (campO I) n) ∧ J 42 4 = bc2 (bstO (campO I) n)
section S56
variable {N : Nat} {xs : Nat → Int32} {I : Nat → Nat → Int32} {L : Nat → Nat → Int64} {Q : Option Value → AH → Prop}
theorem lp_91 (inv : Inv I L) (K : ∀ J M, QX I J L M → cfP I 48 J M → Q none (K0, J, M)) : ∀ d n J M, n + d = 48 → QX I J L M → cfP I n J M → Rn (EE N xs) 91 10019 [.ref 42, .int (Int32.ofNat n)] [] (K0, J, M) Q
  | 0, n, J, M, e, q, p => by
    have e : n = 48 := e
    subst e
    rw [n_91_10019]
    simp (maxSteps := 2000000) (disch := first | rfl | exact Nat.le_of_ble_eq_true rfl | assumption | omega) only [n_91_0, ri_aload_0, ri_aloadN_0, n_91_1, rlc_0, n_91_2, pf_720102_42, n_91_5, n_91_6, ric_m9, n_91_8, pf_730103_42, n_91_11, n_91_12, n_91_14, pf_740104_42, n_91_17, ric_0, n_91_18, ri_istore, s1_i1, s2_in, s2_io, s2_it, s1_r1, s2_rn, s2_ro, s2_rt, s1_n1, s2_nn, s2_no, s2_nt, s1_j1, s2_jn, s2_jo, s2_jt, sto1_1l, sto1_z, sto2_z0, sto2_z1, sto2_z2, s1_2, s2_2, s1_3, s2_3, s1_4, s2_4, s1_5, s2_5, s1_6, s2_6, s1_7, s2_7, s1_8, s2_8, s1_9, s2_9, s1_10, s2_10, s1_11, s2_11, s1_12, s2_12, s1_13, s2_13, s1_14, s2_14, s1_15, s2_15, tl_c, tl_n, n_91_19, ri_ret, tk_0, tk_1, tk_2, tk_3, tk_4, tk_5, tk_6, tk_7, tk_8, tk_9, tk_10, tk_11, tk_12, tk_13, ri_iload_1, n_91_20, ric_48, n_91_22, ri_icmp_ge, tn_83, n_91_25, n_91_26, n_91_27, ri_V, n_91_30, n_91_31, ri_iload_2, n_91_32, ri_if_ge, tn_38, n_91_35, ri_goto, tn_77, n_91_38, n_91_39, ri_dupI, ri_dupR, ri_dupN, n_91_40, gf_720102_42, n_91_43, rlc_1, n_91_44, n_91_45, ri_lshl, n_91_46, ri_lor, n_91_47, n_91_50, n_91_51, gf_730103_42, n_91_54, n_91_56, ri_icmp_eq, tn_67, n_91_59, n_91_60, n_91_61, gf_740104_42, n_91_64, n_91_67, n_91_68, n_91_69, n_91_72, n_91_73, n_91_74, n_91_77, rin_1_1, n_91_80, tn_19, n_91_83, rt_91, ent_n, ent_i, ent_l, ent_r, ent_u, tL_n, tL_s, ap_n, ap_c, b01, b01L, ite_not, z10, cA0, cB0, cC0, cD0, cE0, cF0, cA1, cB1, cC1, cD1, cE1, cF1, cA2, cB2, cC2, cD2, cE2, cF2, cA3, cB3, cC3, cD3, cE3, cF3, vinT, vinN, li_clamp, iN_clamp, ↓reduceIte, if_true, if_false, iN_add1, iL_add, lI_add, iN_add, lI_mul, iL_mul, iN_mul, iN_sub, iL_sub, lI_sub, and_self, and_true, true_and, and_false, false_and, z10L, lc_eq, lc_lt, lc_le, lc_ge, lc_gt, u2_s, u2_k, u2_a, u2_T1, u2_T2, u2_T3, u2_T4, u2_T5, u2_T6, u2_T7, u2_T8]
    exact K J M q p
  | d + 1, n, J, M, e, q, p => by
    rw [n_91_10019]
    simp (maxSteps := 2000000) (disch := first | rfl | exact Nat.le_of_ble_eq_true rfl | assumption | omega) only [n_91_0, ri_aload_0, ri_aloadN_0, n_91_1, rlc_0, n_91_2, pf_720102_42, n_91_5, n_91_6, ric_m9, n_91_8, pf_730103_42, n_91_11, n_91_12, n_91_14, pf_740104_42, n_91_17, ric_0, n_91_18, ri_istore, s1_i1, s2_in, s2_io, s2_it, s1_r1, s2_rn, s2_ro, s2_rt, s1_n1, s2_nn, s2_no, s2_nt, s1_j1, s2_jn, s2_jo, s2_jt, sto1_1l, sto1_z, sto2_z0, sto2_z1, sto2_z2, s1_2, s2_2, s1_3, s2_3, s1_4, s2_4, s1_5, s2_5, s1_6, s2_6, s1_7, s2_7, s1_8, s2_8, s1_9, s2_9, s1_10, s2_10, s1_11, s2_11, s1_12, s2_12, s1_13, s2_13, s1_14, s2_14, s1_15, s2_15, tl_c, tl_n, n_91_19, ri_ret, tk_0, tk_1, tk_2, tk_3, tk_4, tk_5, tk_6, tk_7, tk_8, tk_9, tk_10, tk_11, tk_12, tk_13, ri_iload_1, n_91_20, ric_48, n_91_22, ri_icmp_ge, tn_83, n_91_25, n_91_26, n_91_27, ri_V, n_91_30, n_91_31, ri_iload_2, n_91_32, ri_if_ge, tn_38, n_91_35, ri_goto, tn_77, n_91_38, n_91_39, ri_dupI, ri_dupR, ri_dupN, n_91_40, gf_720102_42, n_91_43, rlc_1, n_91_44, n_91_45, ri_lshl, n_91_46, ri_lor, n_91_47, n_91_50, n_91_51, gf_730103_42, n_91_54, n_91_56, ri_icmp_eq, tn_67, n_91_59, n_91_60, n_91_61, gf_740104_42, n_91_64, n_91_67, n_91_68, n_91_69, n_91_72, n_91_73, n_91_74, n_91_77, rin_1_1, n_91_80, tn_19, n_91_83, rt_91, ent_n, ent_i, ent_l, ent_r, ent_u, tL_n, tL_s, ap_n, ap_c, b01, b01L, ite_not, z10, cA0, cB0, cC0, cD0, cE0, cF0, cA1, cB1, cC1, cD1, cE1, cF1, cA2, cB2, cC2, cD2, cE2, cF2, cA3, cB3, cC3, cD3, cE3, cF3, vinT, vinN, li_clamp, iN_clamp, ↓reduceIte, if_true, if_false, iN_add1, iL_add, lI_add, iN_add, lI_mul, iL_mul, iN_mul, iN_sub, iL_sub, lI_sub, and_self, and_true, true_and, and_false, false_and, z10L, lc_eq, lc_lt, lc_le, lc_ge, lc_gt, u2_s, u2_k, u2_a, u2_T1, u2_T2, u2_T3, u2_T4, u2_T5, u2_T6, u2_T7, u2_T8]
    refine ic_87 (q.inv inv) (show n < 48 by omega) rfl (Nat.le_of_ble_eq_true rfl) (fun J2 O w => ?_)
    rw [q.co]
    have q2 : QX I J2 L O := ⟨fun x k h1 h2 => (w.1 x k h1).trans (q.1 x k h1 h2), fun x k h1 h2 => (w.2.1 x k h1).trans (q.2.1 x k h1 h2), w.2.2⟩
    obtain ⟨p1, p2, p3⟩ := p
    have r3 : J2 42 3 = bc1 (bstO (campO I) n) := (w.1 42 3 (by decide)).trans p2
    have r4 : J2 42 4 = bc2 (bstO (campO I) n) := (w.1 42 4 (by decide)).trans p3
    have rL : O 42 2 = M 42 2 := w.2.1 42 2 (by decide)
    cases co : campO I n with
    | none =>
      have lt : ((-9 : Int32) < 0) := by decide
      simp (maxSteps := 2000000) (disch := first | rfl | exact Nat.le_of_ble_eq_true rfl | assumption | omega) only [n_91_0, ri_aload_0, ri_aloadN_0, n_91_1, rlc_0, n_91_2, pf_720102_42, n_91_5, n_91_6, ric_m9, n_91_8, pf_730103_42, n_91_11, n_91_12, n_91_14, pf_740104_42, n_91_17, ric_0, n_91_18, ri_istore, s1_i1, s2_in, s2_io, s2_it, s1_r1, s2_rn, s2_ro, s2_rt, s1_n1, s2_nn, s2_no, s2_nt, s1_j1, s2_jn, s2_jo, s2_jt, sto1_1l, sto1_z, sto2_z0, sto2_z1, sto2_z2, s1_2, s2_2, s1_3, s2_3, s1_4, s2_4, s1_5, s2_5, s1_6, s2_6, s1_7, s2_7, s1_8, s2_8, s1_9, s2_9, s1_10, s2_10, s1_11, s2_11, s1_12, s2_12, s1_13, s2_13, s1_14, s2_14, s1_15, s2_15, tl_c, tl_n, n_91_19, ri_ret, tk_0, tk_1, tk_2, tk_3, tk_4, tk_5, tk_6, tk_7, tk_8, tk_9, tk_10, tk_11, tk_12, tk_13, ri_iload_1, n_91_20, ric_48, n_91_22, ri_icmp_ge, tn_83, n_91_25, n_91_26, n_91_27, ri_V, n_91_30, n_91_31, ri_iload_2, n_91_32, ri_if_ge, tn_38, n_91_35, ri_goto, tn_77, n_91_38, n_91_39, ri_dupI, ri_dupR, ri_dupN, n_91_40, gf_720102_42, n_91_43, rlc_1, n_91_44, n_91_45, ri_lshl, n_91_46, ri_lor, n_91_47, n_91_50, n_91_51, gf_730103_42, n_91_54, n_91_56, ri_icmp_eq, tn_67, n_91_59, n_91_60, n_91_61, gf_740104_42, n_91_64, n_91_67, n_91_68, n_91_69, n_91_72, n_91_73, n_91_74, n_91_77, rin_1_1, n_91_80, tn_19, n_91_83, rt_91, ent_n, ent_i, ent_l, ent_r, ent_u, tL_n, tL_s, ap_n, ap_c, b01, b01L, ite_not, z10, cA0, cB0, cC0, cD0, cE0, cF0, cA1, cB1, cC1, cD1, cE1, cF1, cA2, cB2, cC2, cD2, cE2, cF2, cA3, cB3, cC3, cD3, cE3, cF3, vinT, vinN, li_clamp, iN_clamp, ↓reduceIte, if_true, if_false, iN_add1, iL_add, lI_add, iN_add, lI_mul, iL_mul, iN_mul, iN_sub, iL_sub, lI_sub, and_self, and_true, true_and, and_false, false_and, z10L, lc_eq, lc_lt, lc_le, lc_ge, lc_gt, u2_s, u2_k, u2_a, u2_T1, u2_T2, u2_T3, u2_T4, u2_T5, u2_T6, u2_T7, u2_T8, coI, lt]
      refine lp_91 inv K d (n + 1) J2 O (by omega) q2 ⟨fun c hc => ?_, ?_, ?_⟩
      · rw [rL, p1 c hc]
        by_cases z : c = n
        · subst z
          rw [co]
          simp
        · have : decide (c < n + 1) = decide (c < n) := decide_eq_decide.mpr (by omega)
          rw [this]
      · rw [r3]
        simp only [bstO, co]
      · rw [r4]
        simp only [bstO, co]
    | some s =>
      have hs := campO_le inv co
      have bits : ∀ c, c < 64 → tb (O 42 2 ||| 1 <<< ((Int32.ofNat n).toInt64 &&& 63)) c = (decide (c < n + 1) && (campO I c).isSome) := by
        intro c hc
        rw [tb_or, rL, p1 c hc, tb_bit (by omega) hc]
        by_cases z : c = n
        · subst z
          rw [co]
          simp
        · have : decide (c < n + 1) = decide (c < n) := decide_eq_decide.mpr (by omega)
          rw [this, decide_eq_false z, Bool.or_false]
      have wr : ∀ (J3 : Nat → Nat → Int32), (∀ x k, x ≠ 42 → J3 x k = J2 x k) → J3 42 3 = bc1 (bstO (campO I) (n + 1)) → J3 42 4 = bc2 (bstO (campO I) (n + 1)) → Rn (EE N xs) 91 10019 [.ref 42, .int (Int32.ofNat (n + 1))] [] (K0, J3, u2 O 42 2 (O 42 2 ||| 1 <<< ((Int32.ofNat n).toInt64 &&& 63))) Q := by
        intro J3 h1 h2 h3
        refine lp_91 inv K d (n + 1) J3 _ (by omega) ⟨fun x k a b => (h1 x k b).trans (q2.1 x k a b), fun x k a b => ?_, fun f hf hk c hc => ?_⟩ ⟨fun c hc => ?_, h2, h3⟩
        · rw [u2_a b]
          exact q2.2.1 x k a b
        · rw [u2_a (by decide)] at hk
          have eg : grI J3 = grI J2 := by
            funext c
            unfold grI
            rw [h1 111 c (by decide)]
          rw [h1 41 _ (by decide), eg]
          exact q2.2.2 f hf hk c hc
        · rw [u2_s]
          exact bits c hc
      cases bo : bstO (campO I) n with
      | none =>
        rw [bo] at r3 r4
        have u : bstO (campO I) (n + 1) = some (n, s) := by
          unfold bstO
          rw [co, bo]
        simp (maxSteps := 2000000) (disch := first | rfl | exact Nat.le_of_ble_eq_true rfl | assumption | omega) only [n_91_0, ri_aload_0, ri_aloadN_0, n_91_1, rlc_0, n_91_2, pf_720102_42, n_91_5, n_91_6, ric_m9, n_91_8, pf_730103_42, n_91_11, n_91_12, n_91_14, pf_740104_42, n_91_17, ric_0, n_91_18, ri_istore, s1_i1, s2_in, s2_io, s2_it, s1_r1, s2_rn, s2_ro, s2_rt, s1_n1, s2_nn, s2_no, s2_nt, s1_j1, s2_jn, s2_jo, s2_jt, sto1_1l, sto1_z, sto2_z0, sto2_z1, sto2_z2, s1_2, s2_2, s1_3, s2_3, s1_4, s2_4, s1_5, s2_5, s1_6, s2_6, s1_7, s2_7, s1_8, s2_8, s1_9, s2_9, s1_10, s2_10, s1_11, s2_11, s1_12, s2_12, s1_13, s2_13, s1_14, s2_14, s1_15, s2_15, tl_c, tl_n, n_91_19, ri_ret, tk_0, tk_1, tk_2, tk_3, tk_4, tk_5, tk_6, tk_7, tk_8, tk_9, tk_10, tk_11, tk_12, tk_13, ri_iload_1, n_91_20, ric_48, n_91_22, ri_icmp_ge, tn_83, n_91_25, n_91_26, n_91_27, ri_V, n_91_30, n_91_31, ri_iload_2, n_91_32, ri_if_ge, tn_38, n_91_35, ri_goto, tn_77, n_91_38, n_91_39, ri_dupI, ri_dupR, ri_dupN, n_91_40, gf_720102_42, n_91_43, rlc_1, n_91_44, n_91_45, ri_lshl, n_91_46, ri_lor, n_91_47, n_91_50, n_91_51, gf_730103_42, n_91_54, n_91_56, ri_icmp_eq, tn_67, n_91_59, n_91_60, n_91_61, gf_740104_42, n_91_64, n_91_67, n_91_68, n_91_69, n_91_72, n_91_73, n_91_74, n_91_77, rin_1_1, n_91_80, tn_19, n_91_83, rt_91, ent_n, ent_i, ent_l, ent_r, ent_u, tL_n, tL_s, ap_n, ap_c, b01, b01L, ite_not, z10, cA0, cB0, cC0, cD0, cE0, cF0, cA1, cB1, cC1, cD1, cE1, cF1, cA2, cB2, cC2, cD2, cE2, cF2, cA3, cB3, cC3, cD3, cE3, cF3, vinT, vinN, li_clamp, iN_clamp, ↓reduceIte, if_true, if_false, iN_add1, iL_add, lI_add, iN_add, lI_mul, iL_mul, iN_mul, iN_sub, iL_sub, lI_sub, and_self, and_true, true_and, and_false, false_and, z10L, lc_eq, lc_lt, lc_le, lc_ge, lc_gt, u2_s, u2_k, u2_a, u2_T1, u2_T2, u2_T3, u2_T4, u2_T5, u2_T6, u2_T7, u2_T8, coI, r3, bc1, eq_self]
        refine wr _ (fun x k h => ?_) ?_ ?_
        · rw [u2_a h, u2_a h]
        · rw [u, u2_k (by decide), u2_s]
          rfl
        · rw [u, u2_s]
          rfl
      | some r =>
        rw [bo] at r3 r4
        obtain ⟨b1, b2⟩ := bstO_ok n r bo
        have hb := campO_le inv b2
        have n9 := n9 r.1 (by omega)
        by_cases lt : s < r.2
        · have u : bstO (campO I) (n + 1) = some (n, s) := by
            unfold bstO
            rw [co, bo]
            simp only [lt, if_true]
          simp (maxSteps := 2000000) (disch := first | rfl | exact Nat.le_of_ble_eq_true rfl | assumption | omega) only [n_91_0, ri_aload_0, ri_aloadN_0, n_91_1, rlc_0, n_91_2, pf_720102_42, n_91_5, n_91_6, ric_m9, n_91_8, pf_730103_42, n_91_11, n_91_12, n_91_14, pf_740104_42, n_91_17, ric_0, n_91_18, ri_istore, s1_i1, s2_in, s2_io, s2_it, s1_r1, s2_rn, s2_ro, s2_rt, s1_n1, s2_nn, s2_no, s2_nt, s1_j1, s2_jn, s2_jo, s2_jt, sto1_1l, sto1_z, sto2_z0, sto2_z1, sto2_z2, s1_2, s2_2, s1_3, s2_3, s1_4, s2_4, s1_5, s2_5, s1_6, s2_6, s1_7, s2_7, s1_8, s2_8, s1_9, s2_9, s1_10, s2_10, s1_11, s2_11, s1_12, s2_12, s1_13, s2_13, s1_14, s2_14, s1_15, s2_15, tl_c, tl_n, n_91_19, ri_ret, tk_0, tk_1, tk_2, tk_3, tk_4, tk_5, tk_6, tk_7, tk_8, tk_9, tk_10, tk_11, tk_12, tk_13, ri_iload_1, n_91_20, ric_48, n_91_22, ri_icmp_ge, tn_83, n_91_25, n_91_26, n_91_27, ri_V, n_91_30, n_91_31, ri_iload_2, n_91_32, ri_if_ge, tn_38, n_91_35, ri_goto, tn_77, n_91_38, n_91_39, ri_dupI, ri_dupR, ri_dupN, n_91_40, gf_720102_42, n_91_43, rlc_1, n_91_44, n_91_45, ri_lshl, n_91_46, ri_lor, n_91_47, n_91_50, n_91_51, gf_730103_42, n_91_54, n_91_56, ri_icmp_eq, tn_67, n_91_59, n_91_60, n_91_61, gf_740104_42, n_91_64, n_91_67, n_91_68, n_91_69, n_91_72, n_91_73, n_91_74, n_91_77, rin_1_1, n_91_80, tn_19, n_91_83, rt_91, ent_n, ent_i, ent_l, ent_r, ent_u, tL_n, tL_s, ap_n, ap_c, b01, b01L, ite_not, z10, cA0, cB0, cC0, cD0, cE0, cF0, cA1, cB1, cC1, cD1, cE1, cF1, cA2, cB2, cC2, cD2, cE2, cF2, cA3, cB3, cC3, cD3, cE3, cF3, vinT, vinN, li_clamp, iN_clamp, ↓reduceIte, if_true, if_false, iN_add1, iL_add, lI_add, iN_add, lI_mul, iL_mul, iN_mul, iN_sub, iL_sub, lI_sub, and_self, and_true, true_and, and_false, false_and, z10L, lc_eq, lc_lt, lc_le, lc_ge, lc_gt, u2_s, u2_k, u2_a, u2_T1, u2_T2, u2_T3, u2_T4, u2_T5, u2_T6, u2_T7, u2_T8, coI, r3, r4, bc1, bc2, n9]
          refine wr _ (fun x k h => ?_) ?_ ?_
          · rw [u2_a h, u2_a h]
          · rw [u, u2_k (by decide), u2_s]
            rfl
          · rw [u, u2_s]
            rfl
        · have u : bstO (campO I) (n + 1) = some r := by
            unfold bstO
            rw [co, bo]
            simp only [lt, if_false]
          simp (maxSteps := 2000000) (disch := first | rfl | exact Nat.le_of_ble_eq_true rfl | assumption | omega) only [n_91_0, ri_aload_0, ri_aloadN_0, n_91_1, rlc_0, n_91_2, pf_720102_42, n_91_5, n_91_6, ric_m9, n_91_8, pf_730103_42, n_91_11, n_91_12, n_91_14, pf_740104_42, n_91_17, ric_0, n_91_18, ri_istore, s1_i1, s2_in, s2_io, s2_it, s1_r1, s2_rn, s2_ro, s2_rt, s1_n1, s2_nn, s2_no, s2_nt, s1_j1, s2_jn, s2_jo, s2_jt, sto1_1l, sto1_z, sto2_z0, sto2_z1, sto2_z2, s1_2, s2_2, s1_3, s2_3, s1_4, s2_4, s1_5, s2_5, s1_6, s2_6, s1_7, s2_7, s1_8, s2_8, s1_9, s2_9, s1_10, s2_10, s1_11, s2_11, s1_12, s2_12, s1_13, s2_13, s1_14, s2_14, s1_15, s2_15, tl_c, tl_n, n_91_19, ri_ret, tk_0, tk_1, tk_2, tk_3, tk_4, tk_5, tk_6, tk_7, tk_8, tk_9, tk_10, tk_11, tk_12, tk_13, ri_iload_1, n_91_20, ric_48, n_91_22, ri_icmp_ge, tn_83, n_91_25, n_91_26, n_91_27, ri_V, n_91_30, n_91_31, ri_iload_2, n_91_32, ri_if_ge, tn_38, n_91_35, ri_goto, tn_77, n_91_38, n_91_39, ri_dupI, ri_dupR, ri_dupN, n_91_40, gf_720102_42, n_91_43, rlc_1, n_91_44, n_91_45, ri_lshl, n_91_46, ri_lor, n_91_47, n_91_50, n_91_51, gf_730103_42, n_91_54, n_91_56, ri_icmp_eq, tn_67, n_91_59, n_91_60, n_91_61, gf_740104_42, n_91_64, n_91_67, n_91_68, n_91_69, n_91_72, n_91_73, n_91_74, n_91_77, rin_1_1, n_91_80, tn_19, n_91_83, rt_91, ent_n, ent_i, ent_l, ent_r, ent_u, tL_n, tL_s, ap_n, ap_c, b01, b01L, ite_not, z10, cA0, cB0, cC0, cD0, cE0, cF0, cA1, cB1, cC1, cD1, cE1, cF1, cA2, cB2, cC2, cD2, cE2, cF2, cA3, cB3, cC3, cD3, cE3, cF3, vinT, vinN, li_clamp, iN_clamp, ↓reduceIte, if_true, if_false, iN_add1, iL_add, lI_add, iN_add, lI_mul, iL_mul, iN_mul, iN_sub, iL_sub, lI_sub, and_self, and_true, true_and, and_false, false_and, z10L, lc_eq, lc_lt, lc_le, lc_ge, lc_gt, u2_s, u2_k, u2_a, u2_T1, u2_T2, u2_T3, u2_T4, u2_T5, u2_T6, u2_T7, u2_T8, coI, r3, r4, bc1, bc2, n9]
          exact wr _ (fun x k h => rfl) (by rw [u, r3]) (by rw [u, r4])
theorem sp_91 (inv : Inv I L) (K : ∀ J M, QX I J L M → cfP I 48 J M → Q none (K0, J, M)) : Rn (EE N xs) 91 0 [.ref 42] [] (K0, I, L) Q := by
  simp (maxSteps := 2000000) (disch := first | rfl | exact Nat.le_of_ble_eq_true rfl | assumption | omega) only [n_91_0, ri_aload_0, ri_aloadN_0, n_91_1, rlc_0, n_91_2, pf_720102_42, n_91_5, n_91_6, ric_m9, n_91_8, pf_730103_42, n_91_11, n_91_12, n_91_14, pf_740104_42, n_91_17, ric_0, n_91_18, ri_istore, s1_i1, s2_in, s2_io, s2_it, s1_r1, s2_rn, s2_ro, s2_rt, s1_n1, s2_nn, s2_no, s2_nt, s1_j1, s2_jn, s2_jo, s2_jt, sto1_1l, sto1_z, sto2_z0, sto2_z1, sto2_z2, s1_2, s2_2, s1_3, s2_3, s1_4, s2_4, s1_5, s2_5, s1_6, s2_6, s1_7, s2_7, s1_8, s2_8, s1_9, s2_9, s1_10, s2_10, s1_11, s2_11, s1_12, s2_12, s1_13, s2_13, s1_14, s2_14, s1_15, s2_15, tl_c, tl_n, n_91_19, ri_ret, tk_0, tk_1, tk_2, tk_3, tk_4, tk_5, tk_6, tk_7, tk_8, tk_9, tk_10, tk_11, tk_12, tk_13, ri_iload_1, n_91_20, ric_48, n_91_22, ri_icmp_ge, tn_83, n_91_25, n_91_26, n_91_27, ri_V, n_91_30, n_91_31, ri_iload_2, n_91_32, ri_if_ge, tn_38, n_91_35, ri_goto, tn_77, n_91_38, n_91_39, ri_dupI, ri_dupR, ri_dupN, n_91_40, gf_720102_42, n_91_43, rlc_1, n_91_44, n_91_45, ri_lshl, n_91_46, ri_lor, n_91_47, n_91_50, n_91_51, gf_730103_42, n_91_54, n_91_56, ri_icmp_eq, tn_67, n_91_59, n_91_60, n_91_61, gf_740104_42, n_91_64, n_91_67, n_91_68, n_91_69, n_91_72, n_91_73, n_91_74, n_91_77, rin_1_1, n_91_80, tn_19, n_91_83, rt_91, ent_n, ent_i, ent_l, ent_r, ent_u, tL_n, tL_s, ap_n, ap_c, b01, b01L, ite_not, z10, cA0, cB0, cC0, cD0, cE0, cF0, cA1, cB1, cC1, cD1, cE1, cF1, cA2, cB2, cC2, cD2, cE2, cF2, cA3, cB3, cC3, cD3, cE3, cF3, vinT, vinN, li_clamp, iN_clamp, ↓reduceIte, if_true, if_false, iN_add1, iL_add, lI_add, iN_add, lI_mul, iL_mul, iN_mul, iN_sub, iL_sub, lI_sub, and_self, and_true, true_and, and_false, false_and, z10L, lc_eq, lc_lt, lc_le, lc_ge, lc_gt, u2_s, u2_k, u2_a, u2_T1, u2_T2, u2_T3, u2_T4, u2_T5, u2_T6, u2_T7, u2_T8]
  refine lp_91 inv K 48 0 _ _ rfl ⟨fun x k h1 h2 => ?_, fun x k h1 h2 => ?_, fun f hf hk c hc => ?_⟩ ⟨fun c hc => ?_, ?_, ?_⟩
  · rw [u2_a h2, u2_a h2]
  · rw [u2_a h2]
  · rw [u2_a (by decide)] at hk
    have eg : grI (u2 (u2 I 42 3 (-9)) 42 4 (-9)) = grI I := by
      funext c
      unfold grI
      rw [u2_a (by decide), u2_a (by decide)]
    rw [u2_a (by decide), u2_a (by decide), eg]
    exact inv.2.2.2.1 f hf hk c hc
  · rw [u2_s, tb_zero]
    simp
  · rw [u2_k (by decide), u2_s]
    rfl
  · rw [u2_s]
    rfl
end S56
