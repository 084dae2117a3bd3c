/-! CAMP -/
def shB (g : Nat → Nat) (c : Nat) : Bool := !decide (g c = 3) && anyN (fun d => nbr c d && decide (2 ≤ g d)) 48
def trO (g : Nat → Nat) (a b l : Nat) : Option Nat := if wayF g a b = -9 then none else some ((wayF g a b).toNatClampNeg + ((wayF g b a).toNatClampNeg * (20 + l) + 19) / 20)
def campS (his : Nat → Bool) (tr : Nat → Option Nat) (lim : Nat) : Nat → Nat → Nat → Option Nat
  | 0, _, acc => some acc
  | d + 1, t, acc => if his t = true then (match tr t with
    | none => none
    | some x => if x ≤ lim then campS his tr lim d (t + 1) (acc + x) else none) else campS his tr lim d (t + 1) acc
def hisB (I : Nat → Nat → Int32) (t : Nat) : Bool := decide (mkC (I (thd 13 t) 5) (I (thd 13 t) 3) < I 39 4)
def trT (I : Nat → Nat → Int32) (c t : Nat) : Option Nat := trO (grI I) c (I 112 (I (thd 13 t) 0).toNatClampNeg).toNatClampNeg (I (thd 13 t) 4).toNatClampNeg
def apX (I : Nat → Nat → Int32) (c k : Nat) : Bool := decide (¬ wayF (grI I) c (I 112 k).toNatClampNeg = -9) && decide (wayF (grI I) c (I 112 k).toNatClampNeg < I 39 1)
def campO (I : Nat → Nat → Int32) (c : Nat) : Option Nat := if shB (grI I) c = true ∧ anyN (apX I c) (I 9 3).toNatClampNeg = false then campS (hisB I) (trT I c) (I 39 0).toNatClampNeg (I 13 1).toNatClampNeg 0 0 else none
def coI (d : Int32) : Option Nat → Int32
  | none => d
  | some s => Int32.ofNat s
def FX (I J : Nat → Nat → Int32) : Prop := ∀ x k, x ≠ 41 → x ≠ 106 → (x < 115 ∨ 118 < x) → J x k = I x k
theorem FX.gr {I J : Nat → Nat → Int32} (f : FX I J) : grI J = grI I := by
  funext c
  unfold grI
  rw [f 111 c (by decide) (by decide) (by decide)]
theorem FX.th {I J : Nat → Nat → Int32} (f : FX I J) (t k : Nat) : J (thd 13 t) k = I (thd 13 t) k := by
  have := thd_lo t
  exact f _ _ (by omega) (by omega) (by omega)
theorem campO_fx {I J : Nat → Nat → Int32} (f : FX I J) : campO J = campO I := by
  have e1 : hisB J = hisB I := by
    funext t
    unfold hisB
    rw [f.th, f.th, f 39 4 (by decide) (by decide) (by decide)]
  have e2 : trT J = trT I := by
    funext c t
    unfold trT
    rw [f.gr, f.th, f.th, f 112 _ (by decide) (by decide) (by decide)]
  have e3 : apX J = apX I := by
    funext c k
    unfold apX
    rw [f.gr, f 112 _ (by decide) (by decide) (by decide), f 39 1 (by decide) (by decide) (by decide)]
  funext c
  unfold campO
  rw [e1, e2, e3, f.gr, f 9 3 (by decide) (by decide) (by decide), f 39 0 (by decide) (by decide) (by decide), f 13 1 (by decide) (by decide) (by decide)]
theorem WX.fx {I J : Nat → Nat → Int32} {L M : Nat → Nat → Int64} (w : WX I J L M) : FX I J := fun x k h _ _ => w.1 x k h
theorem FX.tr {I J K : Nat → Nat → Int32} (h : FX I J) (g : FX J K) : FX I K := fun x k a b c => (g x k a b c).trans (h x k a b c)
theorem trO_cases {g : Nat → Nat} (hg : ∀ c, c < 48 → g c < 4) {a b l : Nat} (ha : a < 48) (hb : b < 48) (hl : l ≤ 30) : (trO g a b l = none ∧ trI g a b l = -9 ∧ wayF g a b = -9) ∨ ∃ t, t ≤ 1000 ∧ trO g a b l = some t ∧ trI g a b l = Int32.ofNat t ∧ ¬ wayF g a b = -9 := by
  rcases tr_nn hg ha hb hl with ⟨h1, h2⟩ | ⟨h1, t, h2, h3⟩
  · exact Or.inl ⟨by unfold trO; rw [if_pos h1], h2, h1⟩
  · refine Or.inr ⟨t, h2, ?_, h3, h1⟩
    have e : trI g a b l = Int32.ofNat ((wayF g a b).toNatClampNeg + ((wayF g b a).toNatClampNeg * (20 + l) + 19) / 20) := by
      unfold trI
      rw [if_neg h1]
    rcases way_two hg ha hb with ⟨q, -⟩ | ⟨v, u, h4, h5, e1, e2⟩
    · exact absurd q h1
    · have hm : u * (20 + l) ≤ 144 * 50 := Nat.mul_le_mul h5 (by omega)
      rw [e1, e2, iN_clamp (by omega), iN_clamp (by omega)] at e
      have := (iN_eq (by omega) (by omega)).mp (h3.symm.trans e)
      unfold trO
      rw [if_neg h1, e1, e2, iN_clamp (by omega), iN_clamp (by omega), this]
theorem m9b {s : Nat} (h : s < 2147483648) : ¬ Int32.ofNat s = -9 := by
  intro e
  have := congrArg Int32.toInt e
  rw [iN_toInt h] at this
  have h9 : (-9 : Int32).toInt = -9 := by decide
  rw [h9] at this
  omega
section S48
variable {N : Nat} {xs : Nat → Int32} {I : Nat → Nat → Int32} {L : Nat → Nat → Int64} {Q : Option Value → AH → Prop}
theorem sp_88 (inv : Inv I L) {c : Nat} (hc : c < 48) : Rn (EE N xs) 88 0 [.ref 42, .int (Int32.ofNat c)] [] (K0, I, L) Q = Q (some (.int (if shB (grI I) c = true then 1 else 0))) (K0, I, L) := by
  obtain ⟨it, ⟨nc, iy, ib, im⟩, iu, iw, ia⟩ := id inv
  obtain ⟨nt, hnt, t1, t2, t3⟩ := id it
  obtain ⟨y0, y1, y2, y3, y4, y5, y6⟩ := id iy
  obtain ⟨h, h12, b1, b2, b3⟩ := InvB_get ib
  obtain ⟨u, u1, ⟨u2a, u2b⟩, u3q, ⟨u4a, u4b⟩, ⟨u5a, u5b⟩, u6q⟩ := id iu
  have gI := inv_g inv
  have hb : ∀ c, c < 48 → ∀ e, e < 4 → (tb (L 10 e) c = true ↔ e = grI I c) := by
    intro c hc e he
    obtain ⟨g, g1, g2, g3⟩ := y6 c hc
    have e1 : grI I c = g := by
      unfold grI
      rw [g2, iN_clamp (by omega)]
    rw [g3 e he, e1, decide_eq_true_eq]
  have key : tb (asF (L 10 3 ||| L 10 2) &&& (L 10 3 ^^^ (-1))) c = shB (grI I) c := by
    apply bool_iff
    rw [tb_and, tb_inv (by omega)]
    unfold shB
    simp only [Bool.and_eq_true, Bool.not_eq_true', decide_eq_false_iff_not]
    rw [asF_tb (fun d hd => by rw [tb_or, ia.2 3 (by decide) d hd, ia.2 2 (by decide) d hd]; rfl) (by omega), anyN_iff]
    have h3 := hb c hc 3 (by decide)
    constructor
    · rintro ⟨⟨-, d, d1, d2⟩, n3⟩
      refine ⟨fun q => ?_, d, nbr_lt d1, ?_⟩
      · rw [h3.mpr q.symm] at n3
        cases n3
      · rw [tb_or, Bool.or_eq_true, hb d (nbr_lt d1) 3 (by decide), hb d (nbr_lt d1) 2 (by decide)] at d2
        simp only [Bool.and_eq_true, decide_eq_true_eq]
        exact ⟨d1, by omega⟩
    · rintro ⟨n3, d, d1, d2⟩
      simp only [Bool.and_eq_true, decide_eq_true_eq] at d2
      have := (gI d d1).1
      refine ⟨⟨hc, d, d2.1, ?_⟩, ?_⟩
      · rw [tb_or, Bool.or_eq_true, hb d d1 3 (by decide), hb d d1 2 (by decide)]
        omega
      · cases q : tb (L 10 3) c with
        | false => rfl
        | true => exact absurd (h3.mp q).symm n3
  simp (maxSteps := 2000000) (disch := first | rfl | exact Nat.le_of_ble_eq_true rfl | assumption | omega) only [n_88_0, ri_aload_0, ri_aloadN_0, n_88_1, gf_230100_42, n_88_4, gf_660200_8, n_88_7, ric_3, n_88_8, ri_V, rc_82_9, n_88_11, ri_lstore, s1_i1, s2_in, s2_io, s2_it, s1_r1, s2_rn, s2_ro, s2_rt, s1_n1, s2_nn, s2_no, s2_nt, s1_j1, s2_jn, s2_jo, s2_jt, sto1_1l, sto1_z, sto2_z0, sto2_z1, sto2_z2, s1_2, s2_2, s1_3, s2_3, s1_4, s2_4, s1_5, s2_5, s1_6, s2_6, s1_7, s2_7, s1_8, s2_8, s1_9, s2_9, s1_10, s2_10, s1_11, s2_11, s1_12, s2_12, s1_13, s2_13, s1_14, s2_14, s1_15, s2_15, tl_c, tl_n, n_88_12, ri_lload_2, n_88_13, n_88_14, n_88_17, n_88_20, ric_2, n_88_21, n_88_24, ri_lor, n_88_25, ri_S, rc_83, n_88_28, n_88_29, rd2_10, n_88_32, ri_lxor, n_88_33, ri_land, n_88_34, n_88_36, ri_lload_4, n_88_38, ri_iload_1, n_88_39, rc_47, n_88_42, rt_88, ru_88, rx_88, ent_n, ent_i, ent_l, ent_r, ent_u, tL_n, tL_s, ap_n, ap_c, b01, b01L, ite_not, z10, cA0, cB0, cC0, cD0, cE0, cF0, cA1, cB1, cC1, cD1, cE1, cF1, cA2, cB2, cC2, cD2, cE2, cF2, cA3, cB3, cC3, cD3, cE3, cF3, vinT, vinN, li_clamp, iN_clamp, ↓reduceIte, if_true, if_false, iN_add1, iL_add, lI_add, iN_add, lI_mul, iL_mul, iN_mul, iN_sub, iL_sub, lI_sub, and_self, and_true, true_and, and_false, false_and, z10L, lc_eq, lc_lt, lc_le, lc_ge, lc_gt, hb_tb, key]
theorem ic_79b {M n nx : Nat} {ls r : List Value} {a : Int32} (hn : n % 1000 = 79) (hc : cs r ≤ 8) : RnC (EE N xs) 0 M n nx ls (.int (-1) :: .int a :: .ref 40 :: r) (K0, I, L) Q = Rn (EE N xs) M nx ls (.int (-9) :: r) (K0, I, L) Q := by
  have h : ¬ ((0 : Int32) ≤ -1 ∧ (-1 : Int32) ≤ 47) := by decide
  have sp : ∀ Q : Option Value → AH → Prop, Rn (EE N xs) 79 0 [.ref 40, .int a, .int (-1)] [] (K0, I, L) Q = Q (some (.int (-9))) (K0, I, L) := by
    intro Q
    simp (maxSteps := 2000000) (disch := first | rfl | exact Nat.le_of_ble_eq_true rfl | assumption | omega) only [n_79_0, ri_iload_1, n_79_1, ri_S, rc_46, n_79_4, ri_if_eq, tn_14, n_79_7, ri_iload_2, n_79_8, n_79_11, ri_if_ne, tn_17, n_79_14, ric_m9, n_79_16, rt_79, n_79_17, ri_aload_0, ri_aloadN_0, n_79_18, gf_460702_40, n_79_21, n_79_22, rc_47, n_79_25, tn_33, n_79_28, n_79_29, n_79_30, ri_V, n_79_33, n_79_34, gf_210701_40, n_79_37, n_79_38, ric_48, n_79_40, ri_imul, n_79_41, n_79_42, ri_iadd, n_79_43, al_2, al_3, al_5, al_6, al_7, al_10, al_11, al_12, al_39, al_41, al_44, al_45, al_46, al_47, al_49, al_51, al_53, al_107, al_108, al_109, al_110, al_111, al_112, al_113, al_114, al_115, al_116, al_117, al_118, al_119, al_120, al_121, al_122, al_c, al_d, al_14, al_bk, al_52, al_x0, al_x1, al_x2, al_x3, n_79_44, ent_n, ent_i, ent_l, ent_r, ent_u, tL_n, tL_s, ap_n, ap_c, b01, b01L, ite_not, z10, cA0, cB0, cC0, cD0, cE0, cF0, cA1, cB1, cC1, cD1, cE1, cF1, cA2, cB2, cC2, cD2, cE2, cF2, cA3, cB3, cC3, cD3, cE3, cF3, vinT, vinN, li_clamp, iN_clamp, ↓reduceIte, if_true, if_false, iN_add1, iL_add, lI_add, iN_add, lI_mul, iL_mul, iN_mul, iN_sub, iL_sub, lI_sub, and_self, and_true, true_and, and_false, false_and, z10L, lc_eq, lc_lt, lc_le, lc_ge, lc_gt, h, ite_self]
  have e := RnC_V (E := EE N xs) (M := M) (nx := nx) (a := 40) (ls := ls) (as := [.int a, .int (-1)]) (r := r) (h := (K0, I, L)) (Q := Q) hn rfl (show K0[40]? = some (.inl (ciM 79, _)) from rfl) (show (3 : Nat) ≤ mlM 79 by decide) hc
  exact e.trans (sp _)
theorem lp_89 (inv : Inv I L) {c nc : Nat} (hc : c < 48) (iy : InvY nc I L) (K : ∀ J M, WX I J L M → Q (some (.int (if anyN (apX I c) nc = true then 0 else 1))) (K0, J, M)) : ∀ d k J M, k + d = 8 → WX I J L M → (∀ i, i < k → i < nc → apX I c i = false) → Rn (EE N xs) 89 10002 [.ref 42, .int (Int32.ofNat c), .int (Int32.ofNat k)] [] (K0, J, M) Q
  | 0, k, J, M, e, w, p => by
    have e : k = 8 := e
    subst e
    have q : anyN (apX I c) nc = false := by
      cases z : anyN (apX I c) nc with
      | false => rfl
      | true =>
        obtain ⟨d, d1, d2⟩ := anyN_iff.mp z
        rw [p d (by have := iy.1; omega) d1] at d2
        cases d2
    have K2 := K J M w
    rw [q, if_neg (by decide)] at K2
    rw [n_89_10002]
    simp (maxSteps := 2000000) (disch := first | rfl | exact Nat.le_of_ble_eq_true rfl | assumption | omega) only [n_89_0, ric_0, n_89_1, ri_istore, s1_i1, s2_in, s2_io, s2_it, s1_r1, s2_rn, s2_ro, s2_rt, s1_n1, s2_nn, s2_no, s2_nt, s1_j1, s2_jn, s2_jo, s2_jt, sto1_1l, sto1_z, sto2_z0, sto2_z1, sto2_z2, s1_2, s2_2, s1_3, s2_3, s1_4, s2_4, s1_5, s2_5, s1_6, s2_6, s1_7, s2_7, s1_8, s2_8, s1_9, s2_9, s1_10, s2_10, s1_11, s2_11, s1_12, s2_12, s1_13, s2_13, s1_14, s2_14, s1_15, s2_15, tl_c, tl_n, n_89_2, ri_ret, tk_0, tk_1, tk_2, tk_3, tk_4, tk_5, tk_6, tk_7, tk_8, tk_9, tk_10, tk_11, tk_12, tk_13, ri_iload_2, n_89_3, ric_8, n_89_5, ri_icmp_ge, tn_54, n_89_8, ri_aload_0, ri_aloadN_0, n_89_9, gf_240101_42, n_89_12, ri_iload_1, n_89_13, n_89_14, gf_230100_42, n_89_17, gf_660200_8, n_89_20, n_89_21, ri_V, rc_60_9, n_89_24, n_89_27, n_89_28, ri_iload_3, n_89_29, ric_m9, n_89_31, ri_icmp_eq, tn_48, n_89_34, n_89_35, n_89_36, n_89_39, ric_1, n_89_40, rc_72, n_89_43, n_89_46, n_89_47, rt_89, ru_89, rx_89, n_89_48, rin_2_1, n_89_51, ri_goto, tn_2, n_89_54, n_89_55, ent_n, ent_i, ent_l, ent_r, ent_u, tL_n, tL_s, ap_n, ap_c, b01, b01L, ite_not, z10, cA0, cB0, cC0, cD0, cE0, cF0, cA1, cB1, cC1, cD1, cE1, cF1, cA2, cB2, cC2, cD2, cE2, cF2, cA3, cB3, cC3, cD3, cE3, cF3, vinT, vinN, li_clamp, iN_clamp, ↓reduceIte, if_true, if_false, iN_add1, iL_add, lI_add, iN_add, lI_mul, iL_mul, iN_mul, iN_sub, iL_sub, lI_sub, and_self, and_true, true_and, and_false, false_and, z10L, lc_eq, lc_lt, lc_le, lc_ge, lc_gt]
    exact K2
  | d + 1, k, J, M, e, w, p => by
    obtain ⟨y0, y1, y2, y3, y4, y5, y6⟩ := id iy
    have j93 : J 9 3 = Int32.ofNat nc := (w.1 9 3 (by decide)).trans y1
    obtain ⟨it, ⟨nc2, iy2, ib, im⟩, ⟨u, u1, us⟩, iw, ia⟩ := id inv
    obtain ⟨v1, v2⟩ := u1 1 (by decide)
    have j39 : J 39 1 = Int32.ofNat (u 1) := (w.1 39 1 (by decide)).trans v1
    by_cases hk : k < nc
    · obtain ⟨b, hb, w1, w2⟩ := y3 k hk
      have j11 : J 11 k = Int32.ofNat b := (w.1 11 k (by decide)).trans w1
      rw [n_89_10002]
      simp (maxSteps := 2000000) (disch := first | rfl | exact Nat.le_of_ble_eq_true rfl | assumption | omega) only [n_89_0, ric_0, n_89_1, ri_istore, s1_i1, s2_in, s2_io, s2_it, s1_r1, s2_rn, s2_ro, s2_rt, s1_n1, s2_nn, s2_no, s2_nt, s1_j1, s2_jn, s2_jo, s2_jt, sto1_1l, sto1_z, sto2_z0, sto2_z1, sto2_z2, s1_2, s2_2, s1_3, s2_3, s1_4, s2_4, s1_5, s2_5, s1_6, s2_6, s1_7, s2_7, s1_8, s2_8, s1_9, s2_9, s1_10, s2_10, s1_11, s2_11, s1_12, s2_12, s1_13, s2_13, s1_14, s2_14, s1_15, s2_15, tl_c, tl_n, n_89_2, ri_ret, tk_0, tk_1, tk_2, tk_3, tk_4, tk_5, tk_6, tk_7, tk_8, tk_9, tk_10, tk_11, tk_12, tk_13, ri_iload_2, n_89_3, ric_8, n_89_5, ri_icmp_ge, tn_54, n_89_8, ri_aload_0, ri_aloadN_0, n_89_9, gf_240101_42, n_89_12, ri_iload_1, n_89_13, n_89_14, gf_230100_42, n_89_17, gf_660200_8, n_89_20, n_89_21, ri_V, rc_60_9, n_89_24, n_89_27, n_89_28, ri_iload_3, n_89_29, ric_m9, n_89_31, ri_icmp_eq, tn_48, n_89_34, n_89_35, n_89_36, n_89_39, ric_1, n_89_40, rc_72, n_89_43, n_89_46, n_89_47, rt_89, ru_89, rx_89, n_89_48, rin_2_1, n_89_51, ri_goto, tn_2, n_89_54, n_89_55, ent_n, ent_i, ent_l, ent_r, ent_u, tL_n, tL_s, ap_n, ap_c, b01, b01L, ite_not, z10, cA0, cB0, cC0, cD0, cE0, cF0, cA1, cB1, cC1, cD1, cE1, cF1, cA2, cB2, cC2, cD2, cE2, cF2, cA3, cB3, cC3, cD3, cE3, cF3, vinT, vinN, li_clamp, iN_clamp, ↓reduceIte, if_true, if_false, iN_add1, iL_add, lI_add, iN_add, lI_mul, iL_mul, iN_mul, iN_sub, iL_sub, lI_sub, and_self, and_true, true_and, and_false, false_and, z10L, lc_eq, lc_lt, lc_le, lc_ge, lc_gt, j93, j11]
      refine ic_79 (w.inv inv) hc hb rfl (Nat.le_of_ble_eq_true rfl) (fun J2 O w2b => ?_)
      have w3 := w.tr w2b
      rw [w.gr]
      have j39b : J2 39 1 = Int32.ofNat (u 1) := (w3.1 39 1 (by decide)).trans v1
      have ax : apX I c k = (decide (¬ wayF (grI I) c b = -9) && decide (wayF (grI I) c b < Int32.ofNat (u 1))) := by
        unfold apX
        rw [w2, iN_clamp (by omega), v1]
      rcases way_two (fun c hc => (inv_g inv c hc).1) hc hb with ⟨q1, q2⟩ | ⟨v, x, q1, q2, q3, q4⟩
      · simp (maxSteps := 2000000) (disch := first | rfl | exact Nat.le_of_ble_eq_true rfl | assumption | omega) only [n_89_0, ric_0, n_89_1, ri_istore, s1_i1, s2_in, s2_io, s2_it, s1_r1, s2_rn, s2_ro, s2_rt, s1_n1, s2_nn, s2_no, s2_nt, s1_j1, s2_jn, s2_jo, s2_jt, sto1_1l, sto1_z, sto2_z0, sto2_z1, sto2_z2, s1_2, s2_2, s1_3, s2_3, s1_4, s2_4, s1_5, s2_5, s1_6, s2_6, s1_7, s2_7, s1_8, s2_8, s1_9, s2_9, s1_10, s2_10, s1_11, s2_11, s1_12, s2_12, s1_13, s2_13, s1_14, s2_14, s1_15, s2_15, tl_c, tl_n, n_89_2, ri_ret, tk_0, tk_1, tk_2, tk_3, tk_4, tk_5, tk_6, tk_7, tk_8, tk_9, tk_10, tk_11, tk_12, tk_13, ri_iload_2, n_89_3, ric_8, n_89_5, ri_icmp_ge, tn_54, n_89_8, ri_aload_0, ri_aloadN_0, n_89_9, gf_240101_42, n_89_12, ri_iload_1, n_89_13, n_89_14, gf_230100_42, n_89_17, gf_660200_8, n_89_20, n_89_21, ri_V, rc_60_9, n_89_24, n_89_27, n_89_28, ri_iload_3, n_89_29, ric_m9, n_89_31, ri_icmp_eq, tn_48, n_89_34, n_89_35, n_89_36, n_89_39, ric_1, n_89_40, rc_72, n_89_43, n_89_46, n_89_47, rt_89, ru_89, rx_89, n_89_48, rin_2_1, n_89_51, ri_goto, tn_2, n_89_54, n_89_55, ent_n, ent_i, ent_l, ent_r, ent_u, tL_n, tL_s, ap_n, ap_c, b01, b01L, ite_not, z10, cA0, cB0, cC0, cD0, cE0, cF0, cA1, cB1, cC1, cD1, cE1, cF1, cA2, cB2, cC2, cD2, cE2, cF2, cA3, cB3, cC3, cD3, cE3, cF3, vinT, vinN, li_clamp, iN_clamp, ↓reduceIte, if_true, if_false, iN_add1, iL_add, lI_add, iN_add, lI_mul, iL_mul, iN_mul, iN_sub, iL_sub, lI_sub, and_self, and_true, true_and, and_false, false_and, z10L, lc_eq, lc_lt, lc_le, lc_ge, lc_gt, q1, eq_self]
        refine lp_89 inv hc iy K d (k + 1) J2 O (by omega) w3 (fun i hi hn => ?_)
        by_cases z : i = k
        · subst z
          rw [ax, q1]
          rfl
        · exact p i (by omega) hn
      · have n9 := m9 v q1
        have hu : u 1 ≤ 20 := us.2.1
        by_cases lt : v < u 1
        · have q : anyN (apX I c) nc = true := anyN_iff.mpr ⟨k, hk, by
            have lt2 : Int32.ofNat v < Int32.ofNat (u 1) := by
              rw [iN_lt (by omega) (by omega)]
              exact lt
            rw [ax, q3, decide_eq_true n9, decide_eq_true lt2]
            rfl⟩
          have K2 := K J2 O w3
          rw [q, if_pos rfl] at K2
          simp (maxSteps := 2000000) (disch := first | rfl | exact Nat.le_of_ble_eq_true rfl | assumption | omega) only [n_89_0, ric_0, n_89_1, ri_istore, s1_i1, s2_in, s2_io, s2_it, s1_r1, s2_rn, s2_ro, s2_rt, s1_n1, s2_nn, s2_no, s2_nt, s1_j1, s2_jn, s2_jo, s2_jt, sto1_1l, sto1_z, sto2_z0, sto2_z1, sto2_z2, s1_2, s2_2, s1_3, s2_3, s1_4, s2_4, s1_5, s2_5, s1_6, s2_6, s1_7, s2_7, s1_8, s2_8, s1_9, s2_9, s1_10, s2_10, s1_11, s2_11, s1_12, s2_12, s1_13, s2_13, s1_14, s2_14, s1_15, s2_15, tl_c, tl_n, n_89_2, ri_ret, tk_0, tk_1, tk_2, tk_3, tk_4, tk_5, tk_6, tk_7, tk_8, tk_9, tk_10, tk_11, tk_12, tk_13, ri_iload_2, n_89_3, ric_8, n_89_5, ri_icmp_ge, tn_54, n_89_8, ri_aload_0, ri_aloadN_0, n_89_9, gf_240101_42, n_89_12, ri_iload_1, n_89_13, n_89_14, gf_230100_42, n_89_17, gf_660200_8, n_89_20, n_89_21, ri_V, rc_60_9, n_89_24, n_89_27, n_89_28, ri_iload_3, n_89_29, ric_m9, n_89_31, ri_icmp_eq, tn_48, n_89_34, n_89_35, n_89_36, n_89_39, ric_1, n_89_40, rc_72, n_89_43, n_89_46, n_89_47, rt_89, ru_89, rx_89, n_89_48, rin_2_1, n_89_51, ri_goto, tn_2, n_89_54, n_89_55, ent_n, ent_i, ent_l, ent_r, ent_u, tL_n, tL_s, ap_n, ap_c, b01, b01L, ite_not, z10, cA0, cB0, cC0, cD0, cE0, cF0, cA1, cB1, cC1, cD1, cE1, cF1, cA2, cB2, cC2, cD2, cE2, cF2, cA3, cB3, cC3, cD3, cE3, cF3, vinT, vinN, li_clamp, iN_clamp, ↓reduceIte, if_true, if_false, iN_add1, iL_add, lI_add, iN_add, lI_mul, iL_mul, iN_mul, iN_sub, iL_sub, lI_sub, and_self, and_true, true_and, and_false, false_and, z10L, lc_eq, lc_lt, lc_le, lc_ge, lc_gt, q3, n9, j39b]
          exact K2
        · simp (maxSteps := 2000000) (disch := first | rfl | exact Nat.le_of_ble_eq_true rfl | assumption | omega) only [n_89_0, ric_0, n_89_1, ri_istore, s1_i1, s2_in, s2_io, s2_it, s1_r1, s2_rn, s2_ro, s2_rt, s1_n1, s2_nn, s2_no, s2_nt, s1_j1, s2_jn, s2_jo, s2_jt, sto1_1l, sto1_z, sto2_z0, sto2_z1, sto2_z2, s1_2, s2_2, s1_3, s2_3, s1_4, s2_4, s1_5, s2_5, s1_6, s2_6, s1_7, s2_7, s1_8, s2_8, s1_9, s2_9, s1_10, s2_10, s1_11, s2_11, s1_12, s2_12, s1_13, s2_13, s1_14, s2_14, s1_15, s2_15, tl_c, tl_n, n_89_2, ri_ret, tk_0, tk_1, tk_2, tk_3, tk_4, tk_5, tk_6, tk_7, tk_8, tk_9, tk_10, tk_11, tk_12, tk_13, ri_iload_2, n_89_3, ric_8, n_89_5, ri_icmp_ge, tn_54, n_89_8, ri_aload_0, ri_aloadN_0, n_89_9, gf_240101_42, n_89_12, ri_iload_1, n_89_13, n_89_14, gf_230100_42, n_89_17, gf_660200_8, n_89_20, n_89_21, ri_V, rc_60_9, n_89_24, n_89_27, n_89_28, ri_iload_3, n_89_29, ric_m9, n_89_31, ri_icmp_eq, tn_48, n_89_34, n_89_35, n_89_36, n_89_39, ric_1, n_89_40, rc_72, n_89_43, n_89_46, n_89_47, rt_89, ru_89, rx_89, n_89_48, rin_2_1, n_89_51, ri_goto, tn_2, n_89_54, n_89_55, ent_n, ent_i, ent_l, ent_r, ent_u, tL_n, tL_s, ap_n, ap_c, b01, b01L, ite_not, z10, cA0, cB0, cC0, cD0, cE0, cF0, cA1, cB1, cC1, cD1, cE1, cF1, cA2, cB2, cC2, cD2, cE2, cF2, cA3, cB3, cC3, cD3, cE3, cF3, vinT, vinN, li_clamp, iN_clamp, ↓reduceIte, if_true, if_false, iN_add1, iL_add, lI_add, iN_add, lI_mul, iL_mul, iN_mul, iN_sub, iL_sub, lI_sub, and_self, and_true, true_and, and_false, false_and, z10L, lc_eq, lc_lt, lc_le, lc_ge, lc_gt, q3, n9, j39b]
          refine lp_89 inv hc iy K d (k + 1) J2 O (by omega) w3 (fun i hi hn => ?_)
          by_cases z : i = k
          · subst z
            have lt2 : ¬ Int32.ofNat v < Int32.ofNat (u 1) := by
              rw [iN_lt (by omega) (by omega)]
              exact lt
            rw [ax, q3, decide_eq_false lt2, Bool.and_false]
          · exact p i (by omega) hn
    · have nk : ¬ (0 ≤ Int32.ofNat k ∧ Int32.ofNat k < Int32.ofNat nc ∧ Int32.ofNat k < 8) := by
        rintro ⟨-, h, -⟩
        rw [iN_lt (by omega) (by omega)] at h
        omega
      rw [n_89_10002]
      simp (maxSteps := 2000000) (disch := first | rfl | exact Nat.le_of_ble_eq_true rfl | assumption | omega) only [n_89_0, ric_0, n_89_1, ri_istore, s1_i1, s2_in, s2_io, s2_it, s1_r1, s2_rn, s2_ro, s2_rt, s1_n1, s2_nn, s2_no, s2_nt, s1_j1, s2_jn, s2_jo, s2_jt, sto1_1l, sto1_z, sto2_z0, sto2_z1, sto2_z2, s1_2, s2_2, s1_3, s2_3, s1_4, s2_4, s1_5, s2_5, s1_6, s2_6, s1_7, s2_7, s1_8, s2_8, s1_9, s2_9, s1_10, s2_10, s1_11, s2_11, s1_12, s2_12, s1_13, s2_13, s1_14, s2_14, s1_15, s2_15, tl_c, tl_n, n_89_2, ri_ret, tk_0, tk_1, tk_2, tk_3, tk_4, tk_5, tk_6, tk_7, tk_8, tk_9, tk_10, tk_11, tk_12, tk_13, ri_iload_2, n_89_3, ric_8, n_89_5, ri_icmp_ge, tn_54, n_89_8, ri_aload_0, ri_aloadN_0, n_89_9, gf_240101_42, n_89_12, ri_iload_1, n_89_13, n_89_14, gf_230100_42, n_89_17, gf_660200_8, n_89_20, n_89_21, ri_V, rc_60_9, n_89_24, n_89_27, n_89_28, ri_iload_3, n_89_29, ric_m9, n_89_31, ri_icmp_eq, tn_48, n_89_34, n_89_35, n_89_36, n_89_39, ric_1, n_89_40, rc_72, n_89_43, n_89_46, n_89_47, rt_89, ru_89, rx_89, n_89_48, rin_2_1, n_89_51, ri_goto, tn_2, n_89_54, n_89_55, ent_n, ent_i, ent_l, ent_r, ent_u, tL_n, tL_s, ap_n, ap_c, b01, b01L, ite_not, z10, cA0, cB0, cC0, cD0, cE0, cF0, cA1, cB1, cC1, cD1, cE1, cF1, cA2, cB2, cC2, cD2, cE2, cF2, cA3, cB3, cC3, cD3, cE3, cF3, vinT, vinN, li_clamp, iN_clamp, ↓reduceIte, if_true, if_false, iN_add1, iL_add, lI_add, iN_add, lI_mul, iL_mul, iN_mul, iN_sub, iL_sub, lI_sub, and_self, and_true, true_and, and_false, false_and, z10L, lc_eq, lc_lt, lc_le, lc_ge, lc_gt, j93, ic_79b, eq_self]
      exact lp_89 inv hc iy K d (k + 1) J M (by omega) w (fun i hi hn => p i (by omega) hn)
theorem sp_89 (inv : Inv I L) {c nc : Nat} (hc : c < 48) (iy : InvY nc I L) (K : ∀ J M, WX I J L M → Q (some (.int (if anyN (apX I c) nc = true then 0 else 1))) (K0, J, M)) : Rn (EE N xs) 89 0 [.ref 42, .int (Int32.ofNat c)] [] (K0, I, L) Q := by
  simp (maxSteps := 2000000) (disch := first | rfl | exact Nat.le_of_ble_eq_true rfl | assumption | omega) only [n_89_0, ric_0, n_89_1, ri_istore, s1_i1, s2_in, s2_io, s2_it, s1_r1, s2_rn, s2_ro, s2_rt, s1_n1, s2_nn, s2_no, s2_nt, s1_j1, s2_jn, s2_jo, s2_jt, sto1_1l, sto1_z, sto2_z0, sto2_z1, sto2_z2, s1_2, s2_2, s1_3, s2_3, s1_4, s2_4, s1_5, s2_5, s1_6, s2_6, s1_7, s2_7, s1_8, s2_8, s1_9, s2_9, s1_10, s2_10, s1_11, s2_11, s1_12, s2_12, s1_13, s2_13, s1_14, s2_14, s1_15, s2_15, tl_c, tl_n, n_89_2, ri_ret, tk_0, tk_1, tk_2, tk_3, tk_4, tk_5, tk_6, tk_7, tk_8, tk_9, tk_10, tk_11, tk_12, tk_13, ri_iload_2, n_89_3, ric_8, n_89_5, ri_icmp_ge, tn_54, n_89_8, ri_aload_0, ri_aloadN_0, n_89_9, gf_240101_42, n_89_12, ri_iload_1, n_89_13, n_89_14, gf_230100_42, n_89_17, gf_660200_8, n_89_20, n_89_21, ri_V, rc_60_9, n_89_24, n_89_27, n_89_28, ri_iload_3, n_89_29, ric_m9, n_89_31, ri_icmp_eq, tn_48, n_89_34, n_89_35, n_89_36, n_89_39, ric_1, n_89_40, rc_72, n_89_43, n_89_46, n_89_47, rt_89, ru_89, rx_89, n_89_48, rin_2_1, n_89_51, ri_goto, tn_2, n_89_54, n_89_55, ent_n, ent_i, ent_l, ent_r, ent_u, tL_n, tL_s, ap_n, ap_c, b01, b01L, ite_not, z10, cA0, cB0, cC0, cD0, cE0, cF0, cA1, cB1, cC1, cD1, cE1, cF1, cA2, cB2, cC2, cD2, cE2, cF2, cA3, cB3, cC3, cD3, cE3, cF3, vinT, vinN, li_clamp, iN_clamp, ↓reduceIte, if_true, if_false, iN_add1, iL_add, lI_add, iN_add, lI_mul, iL_mul, iN_mul, iN_sub, iL_sub, lI_sub, and_self, and_true, true_and, and_false, false_and, z10L, lc_eq, lc_lt, lc_le, lc_ge, lc_gt]
  exact lp_89 inv hc iy K 8 0 I L rfl (WX.rf inv.2.2.2.1) (fun i hi => by omega)
end S48
