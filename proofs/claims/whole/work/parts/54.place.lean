/-! PLACE: the worths, and what is kept of them -/
theorem iN_div {x n : Nat} (hx : x < 2147483648) (hn2 : n < 2147483648) : Int32.ofNat x / Int32.ofNat n = Int32.ofNat (x / n) := by
  have hd : x / n ≤ x := Nat.div_le_self _ _
  apply Int32.toInt_inj.mp
  rw [Int32.toInt_div, iN_toInt hx, iN_toInt hn2, iN_toInt (by omega)]
  have e : (x : Int).tdiv (n : Int) = ((x / n : Nat) : Int) := rfl
  rw [e]
  generalize x / n = q at hd ⊢
  exact Int.bmod_eq_of_le (by omega) (by omega)
theorem smN_nn {f : Nat → Int32} {m : Nat} : ∀ n, (∀ t, t < n → ∃ c, c ≤ m ∧ f t = Int32.ofNat c) → ∃ c, c ≤ m * n ∧ smN f n = Int32.ofNat c
  | 0, _ => ⟨0, by omega, rfl⟩
  | n + 1, h => by
    obtain ⟨c, c1, c2⟩ := smN_nn n (fun t ht => h t (by omega))
    obtain ⟨d, d1, d2⟩ := h n (by omega)
    refine ⟨c + d, by rw [Nat.mul_succ]; omega, ?_⟩
    show smN f n + f n = _
    rw [c2, d2, iN_add]
theorem wmF_nn (I : Nat → Nat → Int32) (L : Nat → Nat → Int64) (nights : Int64) (s t : Nat) : ∃ c, c ≤ 64000000 ∧ wmF I L nights s t = Int32.ofNat c := by
  unfold wmF
  split
  · unfold wtC
    split
    · unfold wtF
      have a := pc_le (ngC I L t &&& nights)
      have b := pc_le (ngC I L t)
      rw [iN_div (by omega) (by omega)]
      exact ⟨_, Nat.le_trans (Nat.div_le_self _ _) (by omega), rfl⟩
    · exact ⟨0, by omega, rfl⟩
  · exact ⟨0, by omega, rfl⟩
/-- watching from night d on, l nights, the cabins s -/
def vlF (I : Nat → Nat → Int32) (L : Nat → Nat → Int64) (h l s d : Nat) : Int32 := smN (wmF I L (spF (Int32.ofNat d) (Int32.ofNat (d + l - 1))) s) h
theorem vlF_nn (I : Nat → Nat → Int32) (L : Nat → Nat → Int64) {h : Nat} (h12 : h ≤ 12) (l s d : Nat) : 0 ≤ vlF I L h l s d := by
  obtain ⟨c, c1, c2⟩ := smN_nn (f := wmF I L (spF (Int32.ofNat d) (Int32.ofNat (d + l - 1))) s) (m := 64000000) h (fun t _ => wmF_nn I L _ s t)
  have : 64000000 * h ≤ 64000000 * 12 := Nat.mul_le_mul (Nat.le_refl _) h12
  unfold vlF
  rw [c2, show (0 : Int32) = Int32.ofNat 0 from rfl, iN_le (by decide) (by omega)]
  omega
def upF (v : Int32) (s d : Nat) (st : Int32 × Int32 × Int32) : Int32 × Int32 × Int32 := if st.1 < v then (v, Int32.ofNat s, Int32.ofNat d) else st
def fdD (v : Nat → Nat → Int32) (s : Nat) (st : Int32 × Int32 × Int32) : Nat → Int32 × Int32 × Int32
  | 0 => st
  | n + 1 => upF (v s n) s n (fdD v s st n)
def fdS (v : Nat → Nat → Int32) (D size : Nat) (st : Int32 × Int32 × Int32) : Nat → Int32 × Int32 × Int32
  | 0 => st
  | n + 1 => if pc (Int32.ofNat (n + 1)).toInt64 = size then fdD v (n + 1) (fdS v D size st n) D else fdS v D size st n
/-- one that began with -1, one with -9: both untouched, or the same -/
def RlF (a b : Int32 × Int32 × Int32) : Prop := a = b ∨ (a.1 = -1 ∧ b = (-9, -9, -9))
theorem RlF_up {v : Int32} (hv : 0 ≤ v) {s d : Nat} {a b : Int32 × Int32 × Int32} (r : RlF a b) : upF v s d a = upF v s d b := by
  rcases r with e | ⟨h1, h2⟩
  · rw [e]
  · subst h2
    have c1 : a.1 < v := by
      rw [h1]
      grind
    have c2 : (-9 : Int32) < v := by grind
    unfold upF
    rw [if_pos c1, if_pos c2]
theorem RlF_D {v : Nat → Nat → Int32} (hv : ∀ s d, 0 ≤ v s d) {s : Nat} {a b : Int32 × Int32 × Int32} (r : RlF a b) : ∀ n, RlF (fdD v s a n) (fdD v s b n) ∧ (0 < n → fdD v s a n = fdD v s b n)
  | 0 => ⟨r, fun h => by omega⟩
  | n + 1 => by
    have e : fdD v s a (n + 1) = fdD v s b (n + 1) := RlF_up (hv s n) (RlF_D hv r n).1
    exact ⟨Or.inl e, fun _ => e⟩
theorem RlF_S {v : Nat → Nat → Int32} (hv : ∀ s d, 0 ≤ v s d) {D size : Nat} (hD : 0 < D) {a b : Int32 × Int32 × Int32} (r : RlF a b) : ∀ n, RlF (fdS v D size a n) (fdS v D size b n) ∧ ((∃ s, 1 ≤ s ∧ s ≤ n ∧ pc (Int32.ofNat s).toInt64 = size) → fdS v D size a n = fdS v D size b n)
  | 0 => ⟨r, fun ⟨s, h1, h2, _⟩ => by omega⟩
  | n + 1 => by
    obtain ⟨i1, i2⟩ := RlF_S hv hD (size := size) r n
    by_cases z : pc (Int32.ofNat (n + 1)).toInt64 = size
    · have ea : fdS v D size a (n + 1) = fdD v (n + 1) (fdS v D size a n) D := if_pos z
      have eb : fdS v D size b (n + 1) = fdD v (n + 1) (fdS v D size b n) D := if_pos z
      have e := (RlF_D hv (s := n + 1) i1 D).2 hD
      rw [← ea, ← eb] at e
      exact ⟨Or.inl e, fun _ => e⟩
    · have ea : fdS v D size a (n + 1) = fdS v D size a n := if_neg z
      have eb : fdS v D size b (n + 1) = fdS v D size b n := if_neg z
      rw [ea, eb]
      refine ⟨i1, fun ⟨s, h1, h2, h3⟩ => i2 ⟨s, h1, ?_, h3⟩⟩
      by_cases y : s = n + 1
      · subst y
        exact absurd h3 z
      · omega
section S54
variable {N : Nat} {xs : Nat → Int32} {I : Nat → Nat → Int32} {L : Nat → Nat → Int64} {Q : Option Value → AH → Prop}
/-- the class's row of worths -/
def wrP (I : Nat → Nat → Int32) (L : Nat → Nat → Int64) (h l : Nat) (p : Nat → Nat → Prop) (J : Nat → Nat → Int32) : Prop := (∀ k n, p k n → J 51 (k * 60 + n) = smN (wkC I L (spF (Int32.ofNat n) (Int32.ofNat (n + l - 1))) (Int32.ofNat k)) h) ∧ ∀ a b, a ≠ 51 → J a b = I a b
theorem wrP_wk {h l : Nat} {p : Nat → Nat → Prop} {J : Nat → Nat → Int32} (w : wrP I L h l p J) (nights : Int64) (k : Int32) : wkC J L nights k = wkC I L nights k := by
  have r : ∀ a, a ≠ 51 → J a = I a := fun a ha => funext fun b => w.2 a b ha
  funext t
  have := thd_lo t
  unfold wkC wtC ngC fnC
  rw [r (thd 13 t) (by omega), r 9 (by decide), r 39 (by decide)]
theorem lp_120i {h l k : Nat} (hh : I 13 1 = Int32.ofNat h) (h12 : h ≤ 12) (hl : 1 ≤ l) (hl2 : l ≤ 60) (hk : k < 8) (K : ∀ J, wrP I L h l (fun k2 n => n + l ≤ 60 ∧ k2 < k + 1) J → Rn (EE N xs) 120 10002 [.ref 50, .int (Int32.ofNat l), .int (Int32.ofNat (k + 1))] [] (K0, J, L) Q) : ∀ d n J, n + d = 61 - l → wrP I L h l (fun k2 n2 => n2 + l ≤ 60 ∧ (k2 < k ∨ (k2 = k ∧ n2 < n))) J → Rn (EE N xs) 120 10010 [.ref 50, .int (Int32.ofNat l), .int (Int32.ofNat k), .int (Int32.ofNat n)] [] (K0, J, L) Q
  | 0, n, J, e, w => by
    have K2 := K J ⟨fun k2 n2 q => w.1 k2 n2 ⟨q.1, by omega⟩, w.2⟩
    rw [n_120_10010]
    by_cases z : 60 ≤ n
    · simp (maxSteps := 2000000) (disch := first | rfl | exact Nat.le_of_ble_eq_true rfl | assumption | omega) only [n_120_0, ric_0, n_120_1, ri_istore, s1_i1, s2_in, s2_io, s2_it, s1_r1, s2_rn, s2_ro, s2_rt, s1_n1, s2_nn, s2_no, s2_nt, s1_j1, s2_jn, s2_jo, s2_jt, sto1_1l, sto1_z, sto2_z0, sto2_z1, sto2_z2, s1_2, s2_2, s1_3, s2_3, s1_4, s2_4, s1_5, s2_5, s1_6, s2_6, s1_7, s2_7, s1_8, s2_8, s1_9, s2_9, s1_10, s2_10, s1_11, s2_11, s1_12, s2_12, s1_13, s2_13, s1_14, s2_14, s1_15, s2_15, tl_c, tl_n, n_120_2, ri_ret, tk_0, tk_1, tk_2, tk_3, tk_4, tk_5, tk_6, tk_7, tk_8, tk_9, tk_10, tk_11, tk_12, tk_13, ri_iload_2, n_120_3, ric_8, n_120_5, ri_icmp_ge, tn_61, n_120_8, n_120_9, n_120_10, ri_iload_3, n_120_11, ric_60, n_120_13, tn_55, n_120_16, n_120_17, ri_iload_1, n_120_18, ri_iadd, n_120_19, n_120_21, ri_icmp_gt, n_120_24, ri_aload_0, ri_aloadN_0, n_120_25, gf_330801_50, n_120_28, n_120_29, n_120_31, ri_imul, n_120_32, n_120_33, n_120_34, n_120_35, n_120_36, n_120_37, n_120_38, n_120_39, n_120_40, ric_1, n_120_41, ri_isub, n_120_42, ri_S, rc_52, n_120_45, ri_V, rc_117, n_120_48, as_2, as_3, as_5, as_6, as_7, as_10, as_11, as_12, as_39, as_41, as_44, as_45, as_46, as_47, as_49, as_51, as_53, as_107, as_108, as_109, as_110, as_111, as_112, as_113, as_114, as_115, as_116, as_117, as_118, as_119, as_120, as_121, as_122, as_c, as_d, n_120_49, rin_3_1, n_120_52, ri_goto, tn_10, n_120_55, rin_2_1, n_120_58, tn_2, n_120_61, rt_120, ent_n, ent_i, ent_l, ent_r, ent_u, tL_n, tL_s, ap_n, ap_c, b01, b01L, ite_not, z10, cA0, cB0, cC0, cD0, cE0, cF0, cA1, cB1, cC1, cD1, cE1, cF1, cA2, cB2, cC2, cD2, cE2, cF2, cA3, cB3, cC3, cD3, cE3, cF3, vinT, vinN, li_clamp, iN_clamp, ↓reduceIte, if_true, if_false, iN_add1, iL_add, lI_add, iN_add, lI_mul, iL_mul, iN_mul, iN_sub, iL_sub, lI_sub, and_self, and_true, true_and, and_false, false_and, z10L, lc_eq, lc_lt, lc_le, lc_ge, lc_gt, u2_s, u2_k, u2_a, u2_T1, u2_T2, u2_T3, u2_T4, u2_T5, u2_T6, u2_T7, u2_T8]
      exact K2
    · simp (maxSteps := 2000000) (disch := first | rfl | exact Nat.le_of_ble_eq_true rfl | assumption | omega) only [n_120_0, ric_0, n_120_1, ri_istore, s1_i1, s2_in, s2_io, s2_it, s1_r1, s2_rn, s2_ro, s2_rt, s1_n1, s2_nn, s2_no, s2_nt, s1_j1, s2_jn, s2_jo, s2_jt, sto1_1l, sto1_z, sto2_z0, sto2_z1, sto2_z2, s1_2, s2_2, s1_3, s2_3, s1_4, s2_4, s1_5, s2_5, s1_6, s2_6, s1_7, s2_7, s1_8, s2_8, s1_9, s2_9, s1_10, s2_10, s1_11, s2_11, s1_12, s2_12, s1_13, s2_13, s1_14, s2_14, s1_15, s2_15, tl_c, tl_n, n_120_2, ri_ret, tk_0, tk_1, tk_2, tk_3, tk_4, tk_5, tk_6, tk_7, tk_8, tk_9, tk_10, tk_11, tk_12, tk_13, ri_iload_2, n_120_3, ric_8, n_120_5, ri_icmp_ge, tn_61, n_120_8, n_120_9, n_120_10, ri_iload_3, n_120_11, ric_60, n_120_13, tn_55, n_120_16, n_120_17, ri_iload_1, n_120_18, ri_iadd, n_120_19, n_120_21, ri_icmp_gt, n_120_24, ri_aload_0, ri_aloadN_0, n_120_25, gf_330801_50, n_120_28, n_120_29, n_120_31, ri_imul, n_120_32, n_120_33, n_120_34, n_120_35, n_120_36, n_120_37, n_120_38, n_120_39, n_120_40, ric_1, n_120_41, ri_isub, n_120_42, ri_S, rc_52, n_120_45, ri_V, rc_117, n_120_48, as_2, as_3, as_5, as_6, as_7, as_10, as_11, as_12, as_39, as_41, as_44, as_45, as_46, as_47, as_49, as_51, as_53, as_107, as_108, as_109, as_110, as_111, as_112, as_113, as_114, as_115, as_116, as_117, as_118, as_119, as_120, as_121, as_122, as_c, as_d, n_120_49, rin_3_1, n_120_52, ri_goto, tn_10, n_120_55, rin_2_1, n_120_58, tn_2, n_120_61, rt_120, ent_n, ent_i, ent_l, ent_r, ent_u, tL_n, tL_s, ap_n, ap_c, b01, b01L, ite_not, z10, cA0, cB0, cC0, cD0, cE0, cF0, cA1, cB1, cC1, cD1, cE1, cF1, cA2, cB2, cC2, cD2, cE2, cF2, cA3, cB3, cC3, cD3, cE3, cF3, vinT, vinN, li_clamp, iN_clamp, ↓reduceIte, if_true, if_false, iN_add1, iL_add, lI_add, iN_add, lI_mul, iL_mul, iN_mul, iN_sub, iL_sub, lI_sub, and_self, and_true, true_and, and_false, false_and, z10L, lc_eq, lc_lt, lc_le, lc_ge, lc_gt, u2_s, u2_k, u2_a, u2_T1, u2_T2, u2_T3, u2_T4, u2_T5, u2_T6, u2_T7, u2_T8]
      exact K2
  | d + 1, n, J, e, w => by
    have jh : J 13 1 = Int32.ofNat h := (w.2 13 1 (by decide)).trans hh
    rw [n_120_10010]
    simp (maxSteps := 2000000) (disch := first | rfl | exact Nat.le_of_ble_eq_true rfl | assumption | omega) only [n_120_0, ric_0, n_120_1, ri_istore, s1_i1, s2_in, s2_io, s2_it, s1_r1, s2_rn, s2_ro, s2_rt, s1_n1, s2_nn, s2_no, s2_nt, s1_j1, s2_jn, s2_jo, s2_jt, sto1_1l, sto1_z, sto2_z0, sto2_z1, sto2_z2, s1_2, s2_2, s1_3, s2_3, s1_4, s2_4, s1_5, s2_5, s1_6, s2_6, s1_7, s2_7, s1_8, s2_8, s1_9, s2_9, s1_10, s2_10, s1_11, s2_11, s1_12, s2_12, s1_13, s2_13, s1_14, s2_14, s1_15, s2_15, tl_c, tl_n, n_120_2, ri_ret, tk_0, tk_1, tk_2, tk_3, tk_4, tk_5, tk_6, tk_7, tk_8, tk_9, tk_10, tk_11, tk_12, tk_13, ri_iload_2, n_120_3, ric_8, n_120_5, ri_icmp_ge, tn_61, n_120_8, n_120_9, n_120_10, ri_iload_3, n_120_11, ric_60, n_120_13, tn_55, n_120_16, n_120_17, ri_iload_1, n_120_18, ri_iadd, n_120_19, n_120_21, ri_icmp_gt, n_120_24, ri_aload_0, ri_aloadN_0, n_120_25, gf_330801_50, n_120_28, n_120_29, n_120_31, ri_imul, n_120_32, n_120_33, n_120_34, n_120_35, n_120_36, n_120_37, n_120_38, n_120_39, n_120_40, ric_1, n_120_41, ri_isub, n_120_42, ri_S, rc_52, n_120_45, ri_V, rc_117, n_120_48, as_2, as_3, as_5, as_6, as_7, as_10, as_11, as_12, as_39, as_41, as_44, as_45, as_46, as_47, as_49, as_51, as_53, as_107, as_108, as_109, as_110, as_111, as_112, as_113, as_114, as_115, as_116, as_117, as_118, as_119, as_120, as_121, as_122, as_c, as_d, n_120_49, rin_3_1, n_120_52, ri_goto, tn_10, n_120_55, rin_2_1, n_120_58, tn_2, n_120_61, rt_120, ent_n, ent_i, ent_l, ent_r, ent_u, tL_n, tL_s, ap_n, ap_c, b01, b01L, ite_not, z10, cA0, cB0, cC0, cD0, cE0, cF0, cA1, cB1, cC1, cD1, cE1, cF1, cA2, cB2, cC2, cD2, cE2, cF2, cA3, cB3, cC3, cD3, cE3, cF3, vinT, vinN, li_clamp, iN_clamp, ↓reduceIte, if_true, if_false, iN_add1, iL_add, lI_add, iN_add, lI_mul, iL_mul, iN_mul, iN_sub, iL_sub, lI_sub, and_self, and_true, true_and, and_false, false_and, z10L, lc_eq, lc_lt, lc_le, lc_ge, lc_gt, u2_s, u2_k, u2_a, u2_T1, u2_T2, u2_T3, u2_T4, u2_T5, u2_T6, u2_T7, u2_T8, ic_117 jh h12]
    rw [wrP_wk w]
    refine lp_120i hh h12 hl hl2 hk K d (n + 1) _ (by omega) ⟨fun k2 n2 q => ?_, fun a b ha => ?_⟩
    · by_cases z : k * 60 + n = k2 * 60 + n2
      · have z1 : k2 = k ∧ n2 = n := by omega
        obtain ⟨rfl, rfl⟩ := z1
        rw [u2_s]
      · rw [u2_k (by omega)]
        exact w.1 k2 n2 ⟨q.1, by omega⟩
    · rw [u2_a ha]
      exact w.2 a b ha
theorem lp_120 {h l : Nat} (hh : I 13 1 = Int32.ofNat h) (h12 : h ≤ 12) (hl : 1 ≤ l) (hl2 : l ≤ 60) (K : ∀ J, wrP I L h l (fun k2 n => n + l ≤ 60 ∧ k2 < 8) J → Q none (K0, J, L)) : ∀ d k J, k + d = 8 → wrP I L h l (fun k2 n => n + l ≤ 60 ∧ k2 < k) J → Rn (EE N xs) 120 10002 [.ref 50, .int (Int32.ofNat l), .int (Int32.ofNat k)] [] (K0, J, L) Q
  | 0, k, J, e, w => by
    have e : k = 8 := e
    subst e
    rw [n_120_10002]
    simp (maxSteps := 2000000) (disch := first | rfl | exact Nat.le_of_ble_eq_true rfl | assumption | omega) only [n_120_0, ric_0, n_120_1, ri_istore, s1_i1, s2_in, s2_io, s2_it, s1_r1, s2_rn, s2_ro, s2_rt, s1_n1, s2_nn, s2_no, s2_nt, s1_j1, s2_jn, s2_jo, s2_jt, sto1_1l, sto1_z, sto2_z0, sto2_z1, sto2_z2, s1_2, s2_2, s1_3, s2_3, s1_4, s2_4, s1_5, s2_5, s1_6, s2_6, s1_7, s2_7, s1_8, s2_8, s1_9, s2_9, s1_10, s2_10, s1_11, s2_11, s1_12, s2_12, s1_13, s2_13, s1_14, s2_14, s1_15, s2_15, tl_c, tl_n, n_120_2, ri_ret, tk_0, tk_1, tk_2, tk_3, tk_4, tk_5, tk_6, tk_7, tk_8, tk_9, tk_10, tk_11, tk_12, tk_13, ri_iload_2, n_120_3, ric_8, n_120_5, ri_icmp_ge, tn_61, n_120_8, n_120_9, n_120_10, ri_iload_3, n_120_11, ric_60, n_120_13, tn_55, n_120_16, n_120_17, ri_iload_1, n_120_18, ri_iadd, n_120_19, n_120_21, ri_icmp_gt, n_120_24, ri_aload_0, ri_aloadN_0, n_120_25, gf_330801_50, n_120_28, n_120_29, n_120_31, ri_imul, n_120_32, n_120_33, n_120_34, n_120_35, n_120_36, n_120_37, n_120_38, n_120_39, n_120_40, ric_1, n_120_41, ri_isub, n_120_42, ri_S, rc_52, n_120_45, ri_V, rc_117, n_120_48, as_2, as_3, as_5, as_6, as_7, as_10, as_11, as_12, as_39, as_41, as_44, as_45, as_46, as_47, as_49, as_51, as_53, as_107, as_108, as_109, as_110, as_111, as_112, as_113, as_114, as_115, as_116, as_117, as_118, as_119, as_120, as_121, as_122, as_c, as_d, n_120_49, rin_3_1, n_120_52, ri_goto, tn_10, n_120_55, rin_2_1, n_120_58, tn_2, n_120_61, rt_120, ent_n, ent_i, ent_l, ent_r, ent_u, tL_n, tL_s, ap_n, ap_c, b01, b01L, ite_not, z10, cA0, cB0, cC0, cD0, cE0, cF0, cA1, cB1, cC1, cD1, cE1, cF1, cA2, cB2, cC2, cD2, cE2, cF2, cA3, cB3, cC3, cD3, cE3, cF3, vinT, vinN, li_clamp, iN_clamp, ↓reduceIte, if_true, if_false, iN_add1, iL_add, lI_add, iN_add, lI_mul, iL_mul, iN_mul, iN_sub, iL_sub, lI_sub, and_self, and_true, true_and, and_false, false_and, z10L, lc_eq, lc_lt, lc_le, lc_ge, lc_gt, u2_s, u2_k, u2_a, u2_T1, u2_T2, u2_T3, u2_T4, u2_T5, u2_T6, u2_T7, u2_T8]
    exact K J w
  | d + 1, k, J, e, w => by
    rw [n_120_10002]
    simp (maxSteps := 2000000) (disch := first | rfl | exact Nat.le_of_ble_eq_true rfl | assumption | omega) only [n_120_0, ric_0, n_120_1, ri_istore, s1_i1, s2_in, s2_io, s2_it, s1_r1, s2_rn, s2_ro, s2_rt, s1_n1, s2_nn, s2_no, s2_nt, s1_j1, s2_jn, s2_jo, s2_jt, sto1_1l, sto1_z, sto2_z0, sto2_z1, sto2_z2, s1_2, s2_2, s1_3, s2_3, s1_4, s2_4, s1_5, s2_5, s1_6, s2_6, s1_7, s2_7, s1_8, s2_8, s1_9, s2_9, s1_10, s2_10, s1_11, s2_11, s1_12, s2_12, s1_13, s2_13, s1_14, s2_14, s1_15, s2_15, tl_c, tl_n, n_120_2, ri_ret, tk_0, tk_1, tk_2, tk_3, tk_4, tk_5, tk_6, tk_7, tk_8, tk_9, tk_10, tk_11, tk_12, tk_13, ri_iload_2, n_120_3, ric_8, n_120_5, ri_icmp_ge, tn_61, n_120_8, n_120_9, n_120_10, ri_iload_3, n_120_11, ric_60, n_120_13, tn_55, n_120_16, n_120_17, ri_iload_1, n_120_18, ri_iadd, n_120_19, n_120_21, ri_icmp_gt, n_120_24, ri_aload_0, ri_aloadN_0, n_120_25, gf_330801_50, n_120_28, n_120_29, n_120_31, ri_imul, n_120_32, n_120_33, n_120_34, n_120_35, n_120_36, n_120_37, n_120_38, n_120_39, n_120_40, ric_1, n_120_41, ri_isub, n_120_42, ri_S, rc_52, n_120_45, ri_V, rc_117, n_120_48, as_2, as_3, as_5, as_6, as_7, as_10, as_11, as_12, as_39, as_41, as_44, as_45, as_46, as_47, as_49, as_51, as_53, as_107, as_108, as_109, as_110, as_111, as_112, as_113, as_114, as_115, as_116, as_117, as_118, as_119, as_120, as_121, as_122, as_c, as_d, n_120_49, rin_3_1, n_120_52, ri_goto, tn_10, n_120_55, rin_2_1, n_120_58, tn_2, n_120_61, rt_120, ent_n, ent_i, ent_l, ent_r, ent_u, tL_n, tL_s, ap_n, ap_c, b01, b01L, ite_not, z10, cA0, cB0, cC0, cD0, cE0, cF0, cA1, cB1, cC1, cD1, cE1, cF1, cA2, cB2, cC2, cD2, cE2, cF2, cA3, cB3, cC3, cD3, cE3, cF3, vinT, vinN, li_clamp, iN_clamp, ↓reduceIte, if_true, if_false, iN_add1, iL_add, lI_add, iN_add, lI_mul, iL_mul, iN_mul, iN_sub, iL_sub, lI_sub, and_self, and_true, true_and, and_false, false_and, z10L, lc_eq, lc_lt, lc_le, lc_ge, lc_gt, u2_s, u2_k, u2_a, u2_T1, u2_T2, u2_T3, u2_T4, u2_T5, u2_T6, u2_T7, u2_T8]
    exact lp_120i hh h12 hl hl2 (by omega) (fun J w => lp_120 hh h12 hl hl2 K d (k + 1) J (by omega) w) (61 - l) 0 J (by omega) ⟨fun k2 n2 q => w.1 k2 n2 ⟨q.1, by omega⟩, w.2⟩
theorem lp_122 {h l s n : Nat} {J : Nat → Nat → Int32} (hs : s < 256) (hn : n + l ≤ 60) (hl : 1 ≤ l) (w : ∀ k2 n, n + l ≤ 60 ∧ k2 < 8 → J 51 (k2 * 60 + n) = smN (wkC I L (spF (Int32.ofNat n) (Int32.ofNat (n + l - 1))) (Int32.ofNat k2)) h) : ∀ d k, k + d = 8 → Rn (EE N xs) 122 10005 [.ref 50, .int (Int32.ofNat s), .int (Int32.ofNat n), .int (smN (wsF I L (spF (Int32.ofNat n) (Int32.ofNat (n + l - 1))) s h) k), .int (Int32.ofNat k)] [] (K0, J, L) Q = Q (some (.int (smN (wsF I L (spF (Int32.ofNat n) (Int32.ofNat (n + l - 1))) s h) 8))) (K0, J, L)
  | 0, k, e => by
    have e : k = 8 := e
    subst e
    rw [n_122_10005]
    simp (maxSteps := 2000000) (disch := first | rfl | exact Nat.le_of_ble_eq_true rfl | assumption | omega) only [n_122_0, ric_0, n_122_1, ri_istore, s1_i1, s2_in, s2_io, s2_it, s1_r1, s2_rn, s2_ro, s2_rt, s1_n1, s2_nn, s2_no, s2_nt, s1_j1, s2_jn, s2_jo, s2_jt, sto1_1l, sto1_z, sto2_z0, sto2_z1, sto2_z2, s1_2, s2_2, s1_3, s2_3, s1_4, s2_4, s1_5, s2_5, s1_6, s2_6, s1_7, s2_7, s1_8, s2_8, s1_9, s2_9, s1_10, s2_10, s1_11, s2_11, s1_12, s2_12, s1_13, s2_13, s1_14, s2_14, s1_15, s2_15, tl_c, tl_n, n_122_2, n_122_3, n_122_5, ri_ret, tk_0, tk_1, tk_2, tk_3, tk_4, tk_5, tk_6, tk_7, tk_8, tk_9, tk_10, tk_11, tk_12, tk_13, ri_iload_4, n_122_7, ric_8, n_122_9, ri_icmp_ge, tn_57, n_122_12, ri_iload_3, n_122_13, ri_iload_1, n_122_14, ri_i2l, n_122_15, n_122_17, ri_S, rc_47, n_122_20, ri_if_eq, tn_48, n_122_23, ri_iload_2, n_122_24, n_122_25, ric_59, n_122_27, rc_14, n_122_30, n_122_33, ri_aload_0, ri_aloadN_0, n_122_34, gf_330801_50, n_122_37, n_122_39, ric_60, n_122_41, ri_imul, n_122_42, n_122_43, ri_iadd, n_122_44, al_2, al_3, al_5, al_6, al_7, al_10, al_11, al_12, al_39, al_41, al_44, al_45, al_46, al_47, al_49, al_51, al_53, al_107, al_108, al_109, al_110, al_111, al_112, al_113, al_114, al_115, al_116, al_117, al_118, al_119, al_120, al_121, al_122, al_c, al_d, al_14, al_bk, al_52, al_x0, al_x1, al_x2, al_x3, n_122_45, ri_goto, tn_49, n_122_48, n_122_49, n_122_50, n_122_51, rin_4_1, n_122_54, tn_5, n_122_57, n_122_58, rt_122, ent_n, ent_i, ent_l, ent_r, ent_u, tL_n, tL_s, ap_n, ap_c, b01, b01L, ite_not, z10, cA0, cB0, cC0, cD0, cE0, cF0, cA1, cB1, cC1, cD1, cE1, cF1, cA2, cB2, cC2, cD2, cE2, cF2, cA3, cB3, cC3, cD3, cE3, cF3, vinT, vinN, li_clamp, iN_clamp, ↓reduceIte, if_true, if_false, iN_add1, iL_add, lI_add, iN_add, lI_mul, iL_mul, iN_mul, iN_sub, iL_sub, lI_sub, and_self, and_true, true_and, and_false, false_and, z10L, lc_eq, lc_lt, lc_le, lc_ge, lc_gt]
  | d + 1, k, e => by
    have ih := lp_122 hs hn hl w d (k + 1) (by omega)
    rw [show smN (wsF I L (spF (Int32.ofNat n) (Int32.ofNat (n + l - 1))) s h) (k + 1) = smN (wsF I L (spF (Int32.ofNat n) (Int32.ofNat (n + l - 1))) s h) k + wsF I L (spF (Int32.ofNat n) (Int32.ofNat (n + l - 1))) s h k from rfl] at ih
    generalize smN (wsF I L (spF (Int32.ofNat n) (Int32.ofNat (n + l - 1))) s h) k = acc at ih ⊢
    generalize smN (wsF I L (spF (Int32.ofNat n) (Int32.ofNat (n + l - 1))) s h) 8 = tot at ih ⊢
    have b := (hb_set s hs k (by omega)).1
    have j := w k n ⟨hn, by omega⟩
    unfold wsF at ih
    rw [n_122_10005]
    by_cases z : s.testBit k = true
    · rw [if_pos z] at ih b
      simp (maxSteps := 2000000) (disch := first | rfl | exact Nat.le_of_ble_eq_true rfl | assumption | omega) only [n_122_0, ric_0, n_122_1, ri_istore, s1_i1, s2_in, s2_io, s2_it, s1_r1, s2_rn, s2_ro, s2_rt, s1_n1, s2_nn, s2_no, s2_nt, s1_j1, s2_jn, s2_jo, s2_jt, sto1_1l, sto1_z, sto2_z0, sto2_z1, sto2_z2, s1_2, s2_2, s1_3, s2_3, s1_4, s2_4, s1_5, s2_5, s1_6, s2_6, s1_7, s2_7, s1_8, s2_8, s1_9, s2_9, s1_10, s2_10, s1_11, s2_11, s1_12, s2_12, s1_13, s2_13, s1_14, s2_14, s1_15, s2_15, tl_c, tl_n, n_122_2, n_122_3, n_122_5, ri_ret, tk_0, tk_1, tk_2, tk_3, tk_4, tk_5, tk_6, tk_7, tk_8, tk_9, tk_10, tk_11, tk_12, tk_13, ri_iload_4, n_122_7, ric_8, n_122_9, ri_icmp_ge, tn_57, n_122_12, ri_iload_3, n_122_13, ri_iload_1, n_122_14, ri_i2l, n_122_15, n_122_17, ri_S, rc_47, n_122_20, ri_if_eq, tn_48, n_122_23, ri_iload_2, n_122_24, n_122_25, ric_59, n_122_27, rc_14, n_122_30, n_122_33, ri_aload_0, ri_aloadN_0, n_122_34, gf_330801_50, n_122_37, n_122_39, ric_60, n_122_41, ri_imul, n_122_42, n_122_43, ri_iadd, n_122_44, al_2, al_3, al_5, al_6, al_7, al_10, al_11, al_12, al_39, al_41, al_44, al_45, al_46, al_47, al_49, al_51, al_53, al_107, al_108, al_109, al_110, al_111, al_112, al_113, al_114, al_115, al_116, al_117, al_118, al_119, al_120, al_121, al_122, al_c, al_d, al_14, al_bk, al_52, al_x0, al_x1, al_x2, al_x3, n_122_45, ri_goto, tn_49, n_122_48, n_122_49, n_122_50, n_122_51, rin_4_1, n_122_54, tn_5, n_122_57, n_122_58, rt_122, ent_n, ent_i, ent_l, ent_r, ent_u, tL_n, tL_s, ap_n, ap_c, b01, b01L, ite_not, z10, cA0, cB0, cC0, cD0, cE0, cF0, cA1, cB1, cC1, cD1, cE1, cF1, cA2, cB2, cC2, cD2, cE2, cF2, cA3, cB3, cC3, cD3, cE3, cF3, vinT, vinN, li_clamp, iN_clamp, ↓reduceIte, if_true, if_false, iN_add1, iL_add, lI_add, iN_add, lI_mul, iL_mul, iN_mul, iN_sub, iL_sub, lI_sub, and_self, and_true, true_and, and_false, false_and, z10L, lc_eq, lc_lt, lc_le, lc_ge, lc_gt, b, j]
      exact ih
    · rw [if_neg z] at ih b
      simp (maxSteps := 2000000) (disch := first | rfl | exact Nat.le_of_ble_eq_true rfl | assumption | omega) only [n_122_0, ric_0, n_122_1, ri_istore, s1_i1, s2_in, s2_io, s2_it, s1_r1, s2_rn, s2_ro, s2_rt, s1_n1, s2_nn, s2_no, s2_nt, s1_j1, s2_jn, s2_jo, s2_jt, sto1_1l, sto1_z, sto2_z0, sto2_z1, sto2_z2, s1_2, s2_2, s1_3, s2_3, s1_4, s2_4, s1_5, s2_5, s1_6, s2_6, s1_7, s2_7, s1_8, s2_8, s1_9, s2_9, s1_10, s2_10, s1_11, s2_11, s1_12, s2_12, s1_13, s2_13, s1_14, s2_14, s1_15, s2_15, tl_c, tl_n, n_122_2, n_122_3, n_122_5, ri_ret, tk_0, tk_1, tk_2, tk_3, tk_4, tk_5, tk_6, tk_7, tk_8, tk_9, tk_10, tk_11, tk_12, tk_13, ri_iload_4, n_122_7, ric_8, n_122_9, ri_icmp_ge, tn_57, n_122_12, ri_iload_3, n_122_13, ri_iload_1, n_122_14, ri_i2l, n_122_15, n_122_17, ri_S, rc_47, n_122_20, ri_if_eq, tn_48, n_122_23, ri_iload_2, n_122_24, n_122_25, ric_59, n_122_27, rc_14, n_122_30, n_122_33, ri_aload_0, ri_aloadN_0, n_122_34, gf_330801_50, n_122_37, n_122_39, ric_60, n_122_41, ri_imul, n_122_42, n_122_43, ri_iadd, n_122_44, al_2, al_3, al_5, al_6, al_7, al_10, al_11, al_12, al_39, al_41, al_44, al_45, al_46, al_47, al_49, al_51, al_53, al_107, al_108, al_109, al_110, al_111, al_112, al_113, al_114, al_115, al_116, al_117, al_118, al_119, al_120, al_121, al_122, al_c, al_d, al_14, al_bk, al_52, al_x0, al_x1, al_x2, al_x3, n_122_45, ri_goto, tn_49, n_122_48, n_122_49, n_122_50, n_122_51, rin_4_1, n_122_54, tn_5, n_122_57, n_122_58, rt_122, ent_n, ent_i, ent_l, ent_r, ent_u, tL_n, tL_s, ap_n, ap_c, b01, b01L, ite_not, z10, cA0, cB0, cC0, cD0, cE0, cF0, cA1, cB1, cC1, cD1, cE1, cF1, cA2, cB2, cC2, cD2, cE2, cF2, cA3, cB3, cC3, cD3, cE3, cF3, vinT, vinN, li_clamp, iN_clamp, ↓reduceIte, if_true, if_false, iN_add1, iL_add, lI_add, iN_add, lI_mul, iL_mul, iN_mul, iN_sub, iL_sub, lI_sub, and_self, and_true, true_and, and_false, false_and, z10L, lc_eq, lc_lt, lc_le, lc_ge, lc_gt, b, eq_self]
      exact ih
end S54
