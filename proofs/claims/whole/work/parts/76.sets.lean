/-! TAKERS: sets of thefts as numbers -/
theorem sm32 : ∀ n : Nat, n < 32 → (Int32.ofNat n &&& 31) = Int32.ofNat n ∧ (Int32.ofNat n).toBitVec.smod 32 = BitVec.ofNat 32 n := by decide +kernel
theorem sar1 {s n : Nat} (h : n < 32) : (Int32.ofNat s >>> (Int32.ofNat n &&& 31)) &&& 1 = if s.testBit n = true then 1 else 0 := by
  obtain ⟨a, b⟩ := sm32 n h
  apply Int32.toBitVec_inj.mp
  rw [a, Int32.toBitVec_and, Int32.toBitVec_shiftRight, b, BitVec.sshiftRight_eq', BitVec.toNat_ofNat, Nat.mod_eq_of_lt (by omega)]
  apply BitVec.eq_of_getLsbD_eq
  intro i hi
  rw [BitVec.getLsbD_and, BitVec.getLsbD_sshiftRight, show (Int32.ofNat s).toBitVec = BitVec.ofNat 32 s from rfl, show (1 : Int32).toBitVec = 1#32 from rfl, BitVec.getLsbD_one]
  by_cases z : i = 0
  · subst z
    rw [Nat.add_zero, if_pos h, BitVec.getLsbD_ofNat, decide_eq_true h]
    cases e : s.testBit n
    · simp
    · simp
  · cases e : s.testBit n
    · simp [z]
    · simp [z]
theorem iN_and {a b : Nat} : Int32.ofNat a &&& Int32.ofNat b = Int32.ofNat (a &&& b) := by
  apply Int32.toBitVec_inj.mp
  apply BitVec.eq_of_getLsbD_eq
  intro i hi
  rw [Int32.toBitVec_and, BitVec.getLsbD_and, show (Int32.ofNat a).toBitVec = BitVec.ofNat 32 a from rfl, show (Int32.ofNat b).toBitVec = BitVec.ofNat 32 b from rfl, show (Int32.ofNat (a &&& b)).toBitVec = BitVec.ofNat 32 (a &&& b) from rfl, BitVec.getLsbD_ofNat, BitVec.getLsbD_ofNat, BitVec.getLsbD_ofNat, Nat.testBit_and, decide_eq_true hi, Bool.true_and, Bool.true_and, Bool.true_and]
theorem set64 {s : Nat} (hs : s < 2147483648) : (Int32.ofNat s).toInt64 = Int64.ofNat s := by
  apply Int64.toInt_inj.mp
  rw [Int32.toInt_toInt64, iN_toInt hs, Int64.toInt_ofNat_of_lt (by omega)]
theorem tb_set {s i : Nat} (hs : s < 2147483648) (hi : i < 64) : tb (Int32.ofNat s).toInt64 i = s.testBit i := by
  rw [set64 hs]
  show (BitVec.ofNat 64 s).getLsbD i = _
  rw [BitVec.getLsbD_ofNat, decide_eq_true hi, Bool.true_and]
theorem bit_ge {s h i : Nat} (hs : s < 2 ^ h) (hi : h ≤ i) : s.testBit i = false := Nat.testBit_lt_two_pow (Nat.lt_of_lt_of_le hs (Nat.pow_le_pow_right (by decide) hi))
theorem pc_set {s : Nat} (hs : s < 4096) : pc (Int32.ofNat s).toInt64 = pcN (fun t => s.testBit t) 12 := by
  show pcN (tb (Int32.ofNat s).toInt64) 64 = _
  rw [pcN_congr (q := fun t => s.testBit t) 64 (fun i hi => tb_set (by omega) hi)]
  exact pcN_z (n := 12) (fun o ho => bit_ge (h := 12) hs ho) 52
theorem set_low {s : Nat} (h0 : 0 < s) (hs : s < 4096) : ∃ l, l < 12 ∧ s.testBit l = true ∧ (∀ i, i < l → s.testBit i = false) ∧ ∀ i, (s &&& (s - 1)).testBit i = (s.testBit i && !decide (i = l)) := by
  obtain ⟨l, m, hl, e⟩ := low_nat 12 s hs h0
  have p2 : 0 < 2 ^ l := Nat.pow_pos (by decide)
  have p3 : 2 ^ l < 2 ^ (l + 1) := by rw [Nat.pow_succ]; omega
  have t0 : ∀ i, s.testBit i = if i < l + 1 then (2 ^ l).testBit i else m.testBit (i - (l + 1)) := by
    intro i
    rw [e, Nat.testBit_two_pow_mul_add _ p3]
  have t1 : ∀ i, (s - 1).testBit i = if i < l + 1 then (2 ^ l - 1).testBit i else m.testBit (i - (l + 1)) := by
    intro i
    rw [show s - 1 = 2 ^ (l + 1) * m + (2 ^ l - 1) by omega, Nat.testBit_two_pow_mul_add _ (by omega)]
  refine ⟨l, hl, ?_, fun i hi => ?_, fun i => ?_⟩
  · rw [t0, if_pos (by omega), Nat.testBit_two_pow_self]
  · rw [t0, if_pos (by omega), Nat.testBit_two_pow_of_ne (by omega)]
  · rw [Nat.testBit_and, t0, t1]
    by_cases z : i < l + 1
    · rw [if_pos z, if_pos z]
      by_cases y : i = l
      · subst y
        rw [Nat.testBit_two_pow_self, Nat.testBit_two_pow_sub_one, decide_eq_false (by omega), decide_eq_true rfl]
        rfl
      · rw [Nat.testBit_two_pow_of_ne (by omega)]
        rfl
    · rw [if_neg z, if_neg z, decide_eq_false (by omega), Bool.and_self]
      simp
theorem set_of : ∀ (h : Nat) (S : Nat → Bool), ∃ s, s < 2 ^ h ∧ ∀ t, t < h → s.testBit t = S t
  | 0, S => ⟨0, by decide, fun t ht => absurd ht (Nat.not_lt_zero t)⟩
  | h + 1, S => by
    obtain ⟨s, h1, h2⟩ := set_of h S
    have p : 2 ^ (h + 1) = 2 ^ h + 2 ^ h := by rw [Nat.pow_succ]; omega
    cases e : S h with
    | false =>
      refine ⟨s, by omega, fun t ht => ?_⟩
      by_cases z : t = h
      · rw [z, e]
        exact Nat.testBit_lt_two_pow h1
      · exact h2 t (by omega)
    | true =>
      refine ⟨2 ^ h + s, by omega, fun t ht => ?_⟩
      by_cases z : t = h
      · rw [z, e, Nat.testBit_two_pow_add_eq, Nat.testBit_lt_two_pow h1]
        rfl
      · rw [Nat.testBit_two_pow_add_gt (by omega)]
        exact h2 t (by omega)
theorem shl12 : ∀ n : Nat, n < 13 → (1 : Int32) <<< (Int32.ofNat n &&& 31) = Int32.ofNat (2 ^ n) := by decide +kernel
theorem p12 : ∀ n : Nat, n < 13 → 1 ≤ 2 ^ n ∧ 2 ^ n ≤ 4096 := by decide
theorem z_and {x : Int64} : 0 &&& x = 0 := by
  apply tb_ext
  intro i hi
  rw [tb_and, tb_zero, Bool.false_and]
/-! what a set of thefts wants -/
def US (Nt : Nat → Int64) (s n : Nat) : Bool := anyN (fun t => s.testBit t && tb (Nt t) n) 12
theorem US_0 {Nt : Nat → Int64} (n : Nat) : US Nt 0 n = false := by
  apply Bool.eq_false_iff.mpr
  intro q
  obtain ⟨t, ht, h⟩ := anyN_iff.mp q
  rw [Nat.zero_testBit, Bool.false_and] at h
  cases h
theorem US_s {Nt : Nat → Int64} {s l n : Nat} (hl : l < 12) (h1 : s.testBit l = true) (h2 : ∀ i, (s &&& (s - 1)).testBit i = (s.testBit i && !decide (i = l))) : US Nt s n = (US Nt (s &&& (s - 1)) n || tb (Nt l) n) := by
  apply bool_iff
  rw [Bool.or_eq_true]
  unfold US
  rw [anyN_iff, anyN_iff]
  constructor
  · rintro ⟨t, ht, q⟩
    simp only [Bool.and_eq_true] at q
    by_cases z : t = l
    · subst z
      exact Or.inr q.2
    · refine Or.inl ⟨t, ht, ?_⟩
      rw [h2, q.1, q.2, decide_eq_false z]
      rfl
  · rintro (⟨t, ht, q⟩ | q)
    · rw [h2] at q
      simp only [Bool.and_eq_true] at q
      exact ⟨t, ht, by simp only [Bool.and_eq_true]; exact ⟨q.1.1, q.2⟩⟩
    · exact ⟨l, hl, by rw [h1, q]; rfl⟩
def WOK (Nt : Nat → Int64) (fm : Nat) (lo : Int32) (VB : Nat → Bool) (s m : Nat) : Prop := (∀ t, t < 12 → s.testBit t = true → fm ≤ t ∧ VB t = true) → (pcN (US Nt s) 64 = 0 ∧ lo = 1) ∨ (0 < pcN (US Nt s) 64 ∧ pcN (fun t => s.testBit t) 12 ≤ m * pcN (US Nt s) 64)
def WP (Nt : Nat → Int64) (fm : Nat) (lo : Int32) (VB : Nat → Bool) (cur W : Nat) : Prop := W ≤ 1000000 ∧ ∀ m, m < 1000000 → (W ≤ m ↔ ∀ s, 1 ≤ s → s < cur → WOK Nt fm lo VB s m)
theorem WP_s {Nt : Nat → Int64} {fm : Nat} {lo : Int32} {VB : Nat → Bool} {cur W w : Nat} (wp : WP Nt fm lo VB cur W) (h1 : 1 ≤ cur) (hw : w ≤ 1000000) (hw2 : ∀ m, m < 1000000 → (w ≤ m ↔ WOK Nt fm lo VB cur m)) : WP Nt fm lo VB (cur + 1) (max W w) := by
  refine ⟨Nat.max_le.mpr ⟨wp.1, hw⟩, fun m hm => ?_⟩
  rw [Nat.max_le, wp.2 m hm, hw2 m hm]
  constructor
  · rintro ⟨a, b⟩ s hs1 hs2
    by_cases z : s = cur
    · rw [z]
      exact b
    · exact a s hs1 (by omega)
  · intro a
    exact ⟨fun s hs1 hs2 => a s hs1 (by omega), a cur h1 (by omega)⟩
theorem div_up {a b m : Nat} (hb : 0 < b) : (a + b - 1) / b ≤ m ↔ a ≤ m * b := by
  rw [← Nat.lt_succ_iff, Nat.div_lt_iff_lt_mul hb, Nat.succ_mul]
  omega
def VBF (his : Nat → Bool) (cb : Nat → Int64) (t : Nat) : Bool := his t && !decide (cb t = 0)
/-- what the model sees of thefts -/
def MF (I : Nat → Nat → Int32) (L : Nat → Nat → Int64) (h : Nat) (his : Nat → Bool) (cb : Nat → Int64) : Prop := I 107 0 = Int32.ofNat h ∧ h ≤ 12 ∧ ∀ t, t < h → (∃ k, k < 16 ∧ I 107 (1 + 6 * t + 0) = Int32.ofNat k ∧ (L 106 17 &&& (L 113 k ^^^ (-1)) &&& if I 107 (1 + 6 * t + 1) ≤ I 107 (1 + 6 * t + 2) - 1 then spF (I 107 (1 + 6 * t + 1)) (I 107 (1 + 6 * t + 2) - 1) else 0) = cb t) ∧ (mkM (I 107 (1 + 6 * t + 5)) (I 107 (1 + 6 * t + 3)) < I 114 4) = (his t = true)
def F1x (a0 : Nat) (L M : Nat → Nat → Int64) : Prop := ∀ a k, a ≠ a0 → M a k = L a k
theorem MF.fr {I : Nat → Nat → Int32} {L M : Nat → Nat → Int64} {h : Nat} {his : Nat → Bool} {cb : Nat → Int64} (mf : MF I L h his cb) {a0 : Nat} (fr : F1x a0 L M) (h1 : 106 ≠ a0) (h2 : 113 ≠ a0) : MF I M h his cb := by
  obtain ⟨m1, m2, m3⟩ := mf
  refine ⟨m1, m2, fun t ht => ?_⟩
  obtain ⟨⟨k, k1, k2, k3⟩, m4⟩ := m3 t ht
  refine ⟨⟨k, k1, k2, ?_⟩, m4⟩
  rw [fr 106 17 h1, fr 113 k h2]
  exact k3
section S76
variable {N : Nat} {xs : Nat → Int32} {I : Nat → Nat → Int32} {L : Nat → Nat → Int64} {Q : Option Value → AH → Prop}
theorem mc_179 {M n nx : Nat} {ls r : List Value} {h t : Nat} {his : Nat → Bool} {cb : Nat → Int64} (mf : MF I L h his cb) (ht : t < h) (hn : n % 1000 = 179) (hc : cs r ≤ 8) : RnC (EE N xs) 0 M n nx ls (.int (Int32.ofNat t) :: .ref 106 :: r) (K0, I, L) Q = Rn (EE N xs) M nx ls (.long (cb t) :: r) (K0, I, L) Q := by
  obtain ⟨m1, m2, m3⟩ := mf
  obtain ⟨⟨k, k1, k2, k3⟩, -⟩ := m3 t ht
  rw [rc_179 (t := t) (k := k) (by omega) k1 k2 hn hc, k3]
theorem lp_194 {h : Nat} {his : Nat → Bool} {cb : Nat → Int64} {used : Int64} (K : ∀ M, F1x 119 L M → (∀ t, t < 12 → M 119 t = c0F h his cb t &&& (used ^^^ (-1))) → Q none (K0, I, M)) : ∀ d t M, t + d = 12 → MF I M h his cb → F1x 119 L M → (∀ s, s < t → M 119 s = c0F h his cb s &&& (used ^^^ (-1))) → Rn (EE N xs) 194 10002 [.ref 106, .long used, jk, .int (Int32.ofNat t)] [] (K0, I, M) Q
  | 0, t, M, e, mf, fr, h1 => by
    have e : t = 12 := e
    subst e
    have K2 := K M fr h1
    rw [n_194_10002]
    simp (maxSteps := 2000000) (disch := first | rfl | exact Nat.le_of_ble_eq_true rfl | assumption | omega) only [n_194_0, ric_0, n_194_1, ri_istore, s1_i1, s2_in, s2_io, s2_it, s1_r1, s2_rn, s2_ro, s2_rt, s1_n1, s2_nn, s2_no, s2_nt, s1_j1, s2_jn, s2_jo, s2_jt, sto1_1l, sto1_z, sto2_z0, sto2_z1, sto2_z2, s1_2, s2_2, s1_3, s2_3, s1_4, s2_4, s1_5, s2_5, s1_6, s2_6, s1_7, s2_7, s1_8, s2_8, s1_9, s2_9, s1_10, s2_10, s1_11, s2_11, s1_12, s2_12, s1_13, s2_13, s1_14, s2_14, s1_15, s2_15, tl_c, tl_n, n_194_2, ri_ret, tk_0, tk_1, tk_2, tk_3, tk_4, tk_5, tk_6, tk_7, tk_8, tk_9, tk_10, tk_11, tk_12, tk_13, ri_iload_3, n_194_3, ric_12, n_194_5, ri_icmp_ge, tn_53, n_194_8, ri_aload_0, ri_aloadN_0, n_194_9, gf_1091124_106, n_194_12, n_194_13, n_194_14, n_194_15, gf_971102_106, n_194_18, n_194_19, al_2, al_3, al_5, al_6, al_7, al_10, al_11, al_12, al_39, al_41, al_44, al_45, al_46, al_47, al_49, al_51, al_53, al_107, al_108, al_109, al_110, al_111, al_112, al_113, al_114, al_115, al_116, al_117, al_118, al_119, al_120, al_121, al_122, al_c, al_d, al_14, al_bk, al_52, al_x0, al_x1, al_x2, al_x3, n_194_20, tn_45, n_194_23, n_194_24, n_194_25, ri_V, rc_177, n_194_28, ri_if_eq, n_194_31, n_194_32, n_194_33, n_194_36, ri_lload_1, n_194_37, rd2_21, n_194_40, ri_lxor, n_194_41, ri_land, n_194_42, ri_goto, tn_46, n_194_45, rlc_0, n_194_46, as_2, as_3, as_5, as_6, as_7, as_10, as_11, as_12, as_39, as_41, as_44, as_45, as_46, as_47, as_49, as_51, as_53, as_107, as_108, as_109, as_110, as_111, as_112, as_113, as_114, as_115, as_116, as_117, as_118, as_119, as_120, as_121, as_122, as_c, as_d, n_194_47, rin_3_1, n_194_50, tn_2, n_194_53, rt_194, ent_n, ent_i, ent_l, ent_r, ent_u, tL_n, tL_s, ap_n, ap_c, b01, b01L, ite_not, z10, cA0, cB0, cC0, cD0, cE0, cF0, cA1, cB1, cC1, cD1, cE1, cF1, cA2, cB2, cC2, cD2, cE2, cF2, cA3, cB3, cC3, cD3, cE3, cF3, vinT, vinN, li_clamp, iN_clamp, ↓reduceIte, if_true, if_false, iN_add1, iL_add, lI_add, iN_add, lI_mul, iL_mul, iN_mul, iN_sub, iL_sub, lI_sub, and_self, and_true, true_and, and_false, false_and, z10L, lc_eq, lc_lt, lc_le, lc_ge, lc_gt, u2_s, u2_k, u2_a, u2_T1, u2_T2, u2_T3, u2_T4, u2_T5, u2_T6, u2_T7, u2_T8]
    exact K2
  | d + 1, t, M, e, mf, fr, h1 => by
    have nx := fun v (hv : v = c0F h his cb t &&& (used ^^^ (-1))) => lp_194 K d (t + 1) (u2 M 119 t v) (by omega) (mf.fr (a0 := 119) (fun a k z => congrFun (u2_a z) k) (by decide) (by decide)) (fun a k z => (congrFun (u2_a z) k).trans (fr a k z)) (fun s hs => by
      by_cases z : s = t
      · subst z
        rw [u2_s]
        exact hv
      · rw [u2_k z]
        exact h1 s (by omega))
    have m1 := mf.1
    have m2 := mf.2.1
    rw [n_194_10002]
    by_cases z : t < h
    · have mk := (mf.2.2 t z).2
      by_cases y : his t = true
      · have r := nx (cb t &&& (used ^^^ (-1))) (by
          unfold c0F
          rw [if_pos ⟨z, y⟩])
        simp (maxSteps := 2000000) (disch := first | rfl | exact Nat.le_of_ble_eq_true rfl | assumption | omega) only [n_194_0, ric_0, n_194_1, ri_istore, s1_i1, s2_in, s2_io, s2_it, s1_r1, s2_rn, s2_ro, s2_rt, s1_n1, s2_nn, s2_no, s2_nt, s1_j1, s2_jn, s2_jo, s2_jt, sto1_1l, sto1_z, sto2_z0, sto2_z1, sto2_z2, s1_2, s2_2, s1_3, s2_3, s1_4, s2_4, s1_5, s2_5, s1_6, s2_6, s1_7, s2_7, s1_8, s2_8, s1_9, s2_9, s1_10, s2_10, s1_11, s2_11, s1_12, s2_12, s1_13, s2_13, s1_14, s2_14, s1_15, s2_15, tl_c, tl_n, n_194_2, ri_ret, tk_0, tk_1, tk_2, tk_3, tk_4, tk_5, tk_6, tk_7, tk_8, tk_9, tk_10, tk_11, tk_12, tk_13, ri_iload_3, n_194_3, ric_12, n_194_5, ri_icmp_ge, tn_53, n_194_8, ri_aload_0, ri_aloadN_0, n_194_9, gf_1091124_106, n_194_12, n_194_13, n_194_14, n_194_15, gf_971102_106, n_194_18, n_194_19, al_2, al_3, al_5, al_6, al_7, al_10, al_11, al_12, al_39, al_41, al_44, al_45, al_46, al_47, al_49, al_51, al_53, al_107, al_108, al_109, al_110, al_111, al_112, al_113, al_114, al_115, al_116, al_117, al_118, al_119, al_120, al_121, al_122, al_c, al_d, al_14, al_bk, al_52, al_x0, al_x1, al_x2, al_x3, n_194_20, tn_45, n_194_23, n_194_24, n_194_25, ri_V, rc_177, n_194_28, ri_if_eq, n_194_31, n_194_32, n_194_33, n_194_36, ri_lload_1, n_194_37, rd2_21, n_194_40, ri_lxor, n_194_41, ri_land, n_194_42, ri_goto, tn_46, n_194_45, rlc_0, n_194_46, as_2, as_3, as_5, as_6, as_7, as_10, as_11, as_12, as_39, as_41, as_44, as_45, as_46, as_47, as_49, as_51, as_53, as_107, as_108, as_109, as_110, as_111, as_112, as_113, as_114, as_115, as_116, as_117, as_118, as_119, as_120, as_121, as_122, as_c, as_d, n_194_47, rin_3_1, n_194_50, tn_2, n_194_53, rt_194, ent_n, ent_i, ent_l, ent_r, ent_u, tL_n, tL_s, ap_n, ap_c, b01, b01L, ite_not, z10, cA0, cB0, cC0, cD0, cE0, cF0, cA1, cB1, cC1, cD1, cE1, cF1, cA2, cB2, cC2, cD2, cE2, cF2, cA3, cB3, cC3, cD3, cE3, cF3, vinT, vinN, li_clamp, iN_clamp, ↓reduceIte, if_true, if_false, iN_add1, iL_add, lI_add, iN_add, lI_mul, iL_mul, iN_mul, iN_sub, iL_sub, lI_sub, and_self, and_true, true_and, and_false, false_and, z10L, lc_eq, lc_lt, lc_le, lc_ge, lc_gt, u2_s, u2_k, u2_a, u2_T1, u2_T2, u2_T3, u2_T4, u2_T5, u2_T6, u2_T7, u2_T8, m1, mk, y, mc_179 mf z]
        exact r
      · have r := nx 0 (by
          unfold c0F
          rw [if_neg (fun q => y q.2), z_and])
        simp (maxSteps := 2000000) (disch := first | rfl | exact Nat.le_of_ble_eq_true rfl | assumption | omega) only [n_194_0, ric_0, n_194_1, ri_istore, s1_i1, s2_in, s2_io, s2_it, s1_r1, s2_rn, s2_ro, s2_rt, s1_n1, s2_nn, s2_no, s2_nt, s1_j1, s2_jn, s2_jo, s2_jt, sto1_1l, sto1_z, sto2_z0, sto2_z1, sto2_z2, s1_2, s2_2, s1_3, s2_3, s1_4, s2_4, s1_5, s2_5, s1_6, s2_6, s1_7, s2_7, s1_8, s2_8, s1_9, s2_9, s1_10, s2_10, s1_11, s2_11, s1_12, s2_12, s1_13, s2_13, s1_14, s2_14, s1_15, s2_15, tl_c, tl_n, n_194_2, ri_ret, tk_0, tk_1, tk_2, tk_3, tk_4, tk_5, tk_6, tk_7, tk_8, tk_9, tk_10, tk_11, tk_12, tk_13, ri_iload_3, n_194_3, ric_12, n_194_5, ri_icmp_ge, tn_53, n_194_8, ri_aload_0, ri_aloadN_0, n_194_9, gf_1091124_106, n_194_12, n_194_13, n_194_14, n_194_15, gf_971102_106, n_194_18, n_194_19, al_2, al_3, al_5, al_6, al_7, al_10, al_11, al_12, al_39, al_41, al_44, al_45, al_46, al_47, al_49, al_51, al_53, al_107, al_108, al_109, al_110, al_111, al_112, al_113, al_114, al_115, al_116, al_117, al_118, al_119, al_120, al_121, al_122, al_c, al_d, al_14, al_bk, al_52, al_x0, al_x1, al_x2, al_x3, n_194_20, tn_45, n_194_23, n_194_24, n_194_25, ri_V, rc_177, n_194_28, ri_if_eq, n_194_31, n_194_32, n_194_33, n_194_36, ri_lload_1, n_194_37, rd2_21, n_194_40, ri_lxor, n_194_41, ri_land, n_194_42, ri_goto, tn_46, n_194_45, rlc_0, n_194_46, as_2, as_3, as_5, as_6, as_7, as_10, as_11, as_12, as_39, as_41, as_44, as_45, as_46, as_47, as_49, as_51, as_53, as_107, as_108, as_109, as_110, as_111, as_112, as_113, as_114, as_115, as_116, as_117, as_118, as_119, as_120, as_121, as_122, as_c, as_d, n_194_47, rin_3_1, n_194_50, tn_2, n_194_53, rt_194, ent_n, ent_i, ent_l, ent_r, ent_u, tL_n, tL_s, ap_n, ap_c, b01, b01L, ite_not, z10, cA0, cB0, cC0, cD0, cE0, cF0, cA1, cB1, cC1, cD1, cE1, cF1, cA2, cB2, cC2, cD2, cE2, cF2, cA3, cB3, cC3, cD3, cE3, cF3, vinT, vinN, li_clamp, iN_clamp, ↓reduceIte, if_true, if_false, iN_add1, iL_add, lI_add, iN_add, lI_mul, iL_mul, iN_mul, iN_sub, iL_sub, lI_sub, and_self, and_true, true_and, and_false, false_and, z10L, lc_eq, lc_lt, lc_le, lc_ge, lc_gt, u2_s, u2_k, u2_a, u2_T1, u2_T2, u2_T3, u2_T4, u2_T5, u2_T6, u2_T7, u2_T8, m1, mk, y]
        exact r
    · have r := nx 0 (by
        unfold c0F
        rw [if_neg (fun q => z q.1), z_and])
      simp (maxSteps := 2000000) (disch := first | rfl | exact Nat.le_of_ble_eq_true rfl | assumption | omega) only [n_194_0, ric_0, n_194_1, ri_istore, s1_i1, s2_in, s2_io, s2_it, s1_r1, s2_rn, s2_ro, s2_rt, s1_n1, s2_nn, s2_no, s2_nt, s1_j1, s2_jn, s2_jo, s2_jt, sto1_1l, sto1_z, sto2_z0, sto2_z1, sto2_z2, s1_2, s2_2, s1_3, s2_3, s1_4, s2_4, s1_5, s2_5, s1_6, s2_6, s1_7, s2_7, s1_8, s2_8, s1_9, s2_9, s1_10, s2_10, s1_11, s2_11, s1_12, s2_12, s1_13, s2_13, s1_14, s2_14, s1_15, s2_15, tl_c, tl_n, n_194_2, ri_ret, tk_0, tk_1, tk_2, tk_3, tk_4, tk_5, tk_6, tk_7, tk_8, tk_9, tk_10, tk_11, tk_12, tk_13, ri_iload_3, n_194_3, ric_12, n_194_5, ri_icmp_ge, tn_53, n_194_8, ri_aload_0, ri_aloadN_0, n_194_9, gf_1091124_106, n_194_12, n_194_13, n_194_14, n_194_15, gf_971102_106, n_194_18, n_194_19, al_2, al_3, al_5, al_6, al_7, al_10, al_11, al_12, al_39, al_41, al_44, al_45, al_46, al_47, al_49, al_51, al_53, al_107, al_108, al_109, al_110, al_111, al_112, al_113, al_114, al_115, al_116, al_117, al_118, al_119, al_120, al_121, al_122, al_c, al_d, al_14, al_bk, al_52, al_x0, al_x1, al_x2, al_x3, n_194_20, tn_45, n_194_23, n_194_24, n_194_25, ri_V, rc_177, n_194_28, ri_if_eq, n_194_31, n_194_32, n_194_33, n_194_36, ri_lload_1, n_194_37, rd2_21, n_194_40, ri_lxor, n_194_41, ri_land, n_194_42, ri_goto, tn_46, n_194_45, rlc_0, n_194_46, as_2, as_3, as_5, as_6, as_7, as_10, as_11, as_12, as_39, as_41, as_44, as_45, as_46, as_47, as_49, as_51, as_53, as_107, as_108, as_109, as_110, as_111, as_112, as_113, as_114, as_115, as_116, as_117, as_118, as_119, as_120, as_121, as_122, as_c, as_d, n_194_47, rin_3_1, n_194_50, tn_2, n_194_53, rt_194, ent_n, ent_i, ent_l, ent_r, ent_u, tL_n, tL_s, ap_n, ap_c, b01, b01L, ite_not, z10, cA0, cB0, cC0, cD0, cE0, cF0, cA1, cB1, cC1, cD1, cE1, cF1, cA2, cB2, cC2, cD2, cE2, cF2, cA3, cB3, cC3, cD3, cE3, cF3, vinT, vinN, li_clamp, iN_clamp, ↓reduceIte, if_true, if_false, iN_add1, iL_add, lI_add, iN_add, lI_mul, iL_mul, iN_mul, iN_sub, iL_sub, lI_sub, and_self, and_true, true_and, and_false, false_and, z10L, lc_eq, lc_lt, lc_le, lc_ge, lc_gt, u2_s, u2_k, u2_a, u2_T1, u2_T2, u2_T3, u2_T4, u2_T5, u2_T6, u2_T7, u2_T8, m1]
      exact r
theorem ic_194 {M n nx : Nat} {ls s : List Value} {h : Nat} {his : Nat → Bool} {cb : Nat → Int64} {used : Int64} (mf : MF I L h his cb) (hn : n % 1000 = 194) (hc : cs s ≤ 8) (K : ∀ O, F1x 119 L O → (∀ t, t < 12 → O 119 t = c0F h his cb t &&& (used ^^^ (-1))) → Rn (EE N xs) M nx ls s (K0, I, O) Q) : RnC (EE N xs) 0 M n nx ls (.long used :: .ref 106 :: s) (K0, I, L) Q := by
  have e := RnC_V (E := EE N xs) (M := M) (nx := nx) (a := 106) (ls := ls) (as := [.long used]) (r := s) (h := (K0, I, L)) (Q := Q) hn rfl (show K0[106]? = some (.inl (ciM 194, _)) from rfl) (show (3 : Nat) ≤ mlM 194 by decide) hc
  refine e.mpr ?_
  have go := lp_194 (N := N) (xs := xs) (I := I) (L := L) (Q := fun x h1 => Rn (EE N xs) M nx ls (x.toList ++ s) h1 Q) (his := his) (cb := cb) (h := h) (used := used) (fun O a b => K O a b) 12 0 L rfl mf (fun _ _ _ => rfl) (fun s hs => absurd hs (Nat.not_lt_zero s))
  simp (maxSteps := 2000000) (disch := first | rfl | exact Nat.le_of_ble_eq_true rfl | assumption | omega) only [n_194_0, ric_0, n_194_1, ri_istore, s1_i1, s2_in, s2_io, s2_it, s1_r1, s2_rn, s2_ro, s2_rt, s1_n1, s2_nn, s2_no, s2_nt, s1_j1, s2_jn, s2_jo, s2_jt, sto1_1l, sto1_z, sto2_z0, sto2_z1, sto2_z2, s1_2, s2_2, s1_3, s2_3, s1_4, s2_4, s1_5, s2_5, s1_6, s2_6, s1_7, s2_7, s1_8, s2_8, s1_9, s2_9, s1_10, s2_10, s1_11, s2_11, s1_12, s2_12, s1_13, s2_13, s1_14, s2_14, s1_15, s2_15, tl_c, tl_n, n_194_2, ri_ret, tk_0, tk_1, tk_2, tk_3, tk_4, tk_5, tk_6, tk_7, tk_8, tk_9, tk_10, tk_11, tk_12, tk_13, ri_iload_3, n_194_3, ric_12, n_194_5, ri_icmp_ge, tn_53, n_194_8, ri_aload_0, ri_aloadN_0, n_194_9, gf_1091124_106, n_194_12, n_194_13, n_194_14, n_194_15, gf_971102_106, n_194_18, n_194_19, al_2, al_3, al_5, al_6, al_7, al_10, al_11, al_12, al_39, al_41, al_44, al_45, al_46, al_47, al_49, al_51, al_53, al_107, al_108, al_109, al_110, al_111, al_112, al_113, al_114, al_115, al_116, al_117, al_118, al_119, al_120, al_121, al_122, al_c, al_d, al_14, al_bk, al_52, al_x0, al_x1, al_x2, al_x3, n_194_20, tn_45, n_194_23, n_194_24, n_194_25, ri_V, rc_177, n_194_28, ri_if_eq, n_194_31, n_194_32, n_194_33, n_194_36, ri_lload_1, n_194_37, rd2_21, n_194_40, ri_lxor, n_194_41, ri_land, n_194_42, ri_goto, tn_46, n_194_45, rlc_0, n_194_46, as_2, as_3, as_5, as_6, as_7, as_10, as_11, as_12, as_39, as_41, as_44, as_45, as_46, as_47, as_49, as_51, as_53, as_107, as_108, as_109, as_110, as_111, as_112, as_113, as_114, as_115, as_116, as_117, as_118, as_119, as_120, as_121, as_122, as_c, as_d, n_194_47, rin_3_1, n_194_50, tn_2, n_194_53, rt_194, ent_n, ent_i, ent_l, ent_r, ent_u, tL_n, tL_s, ap_n, ap_c, b01, b01L, ite_not, z10, cA0, cB0, cC0, cD0, cE0, cF0, cA1, cB1, cC1, cD1, cE1, cF1, cA2, cB2, cC2, cD2, cE2, cF2, cA3, cB3, cC3, cD3, cE3, cF3, vinT, vinN, li_clamp, iN_clamp, ↓reduceIte, if_true, if_false, iN_add1, iL_add, lI_add, iN_add, lI_mul, iL_mul, iN_mul, iN_sub, iL_sub, lI_sub, and_self, and_true, true_and, and_false, false_and, z10L, lc_eq, lc_lt, lc_le, lc_ge, lc_gt, u2_s, u2_k, u2_a, u2_T1, u2_T2, u2_T3, u2_T4, u2_T5, u2_T6, u2_T7, u2_T8]
  exact go
theorem lp_195l {s low : Nat} {a1 a2 a3 : Int32} (hs : s < 4096) (hl : low < 12) (h1 : s.testBit low = true) (h2 : ∀ i, i < low → s.testBit i = false) (K : Rn (EE N xs) 195 44 [.ref 106, .int a1, .int a2, .int a3, .int (Int32.ofNat s), .int (Int32.ofNat low)] [] (K0, I, L) Q) : ∀ d l, l + d = low → Rn (EE N xs) 195 10028 [.ref 106, .int a1, .int a2, .int a3, .int (Int32.ofNat s), .int (Int32.ofNat l)] [] (K0, I, L) Q
  | 0, l, e => by
    have e : l = low := e
    subst e
    have b := sar1 (s := s) (n := l) (by omega)
    rw [h1, if_pos rfl] at b
    rw [n_195_10028]
    simp (maxSteps := 2000000) (disch := first | rfl | exact Nat.le_of_ble_eq_true rfl | assumption | omega) only [n_195_25, ric_0, n_195_26, ri_istore, s1_i1, s2_in, s2_io, s2_it, s1_r1, s2_rn, s2_ro, s2_rt, s1_n1, s2_nn, s2_no, s2_nt, s1_j1, s2_jn, s2_jo, s2_jt, sto1_1l, sto1_z, sto2_z0, sto2_z1, sto2_z2, s1_2, s2_2, s1_3, s2_3, s1_4, s2_4, s1_5, s2_5, s1_6, s2_6, s1_7, s2_7, s1_8, s2_8, s1_9, s2_9, s1_10, s2_10, s1_11, s2_11, s1_12, s2_12, s1_13, s2_13, s1_14, s2_14, s1_15, s2_15, tl_c, tl_n, n_195_28, ri_ret, tk_0, tk_1, tk_2, tk_3, tk_4, tk_5, tk_6, tk_7, tk_8, tk_9, tk_10, tk_11, tk_12, tk_13, ri_iload_4, n_195_30, ri_iload_5, n_195_32, ri_ishr, n_195_33, ric_1, n_195_34, ri_iand, n_195_35, ri_if_ne, tn_44, n_195_38, rin_5_1, n_195_41, ri_goto, tn_28, ite_not, cA0, cB0, cC0, cD0, cE0, cF0, cA1, cB1, cC1, cD1, cE1, cF1, cA2, cB2, cC2, cD2, cE2, cF2, cA3, cB3, cC3, cD3, cE3, cF3, vinT, vinN, li_clamp, iN_clamp, ↓reduceIte, if_true, if_false, iN_add1, iL_add, lI_add, iN_add, lI_mul, iL_mul, iN_mul, iN_sub, iL_sub, lI_sub, and_self, and_true, true_and, and_false, false_and, b01, b01L, z10, z10L, lc_eq, lc_lt, lc_le, lc_ge, lc_gt, ent_n, ent_i, ent_l, ent_r, ent_u, tL_n, tL_s, ap_n, ap_c, b]
    exact K
  | d + 1, l, e => by
    have r := lp_195l hs hl h1 h2 K d (l + 1) (by omega)
    have b := sar1 (s := s) (n := l) (by omega)
    rw [h2 l (by omega), if_neg (by decide)] at b
    rw [n_195_10028]
    simp (maxSteps := 2000000) (disch := first | rfl | exact Nat.le_of_ble_eq_true rfl | assumption | omega) only [n_195_25, ric_0, n_195_26, ri_istore, s1_i1, s2_in, s2_io, s2_it, s1_r1, s2_rn, s2_ro, s2_rt, s1_n1, s2_nn, s2_no, s2_nt, s1_j1, s2_jn, s2_jo, s2_jt, sto1_1l, sto1_z, sto2_z0, sto2_z1, sto2_z2, s1_2, s2_2, s1_3, s2_3, s1_4, s2_4, s1_5, s2_5, s1_6, s2_6, s1_7, s2_7, s1_8, s2_8, s1_9, s2_9, s1_10, s2_10, s1_11, s2_11, s1_12, s2_12, s1_13, s2_13, s1_14, s2_14, s1_15, s2_15, tl_c, tl_n, n_195_28, ri_ret, tk_0, tk_1, tk_2, tk_3, tk_4, tk_5, tk_6, tk_7, tk_8, tk_9, tk_10, tk_11, tk_12, tk_13, ri_iload_4, n_195_30, ri_iload_5, n_195_32, ri_ishr, n_195_33, ric_1, n_195_34, ri_iand, n_195_35, ri_if_ne, tn_44, n_195_38, rin_5_1, n_195_41, ri_goto, tn_28, ite_not, cA0, cB0, cC0, cD0, cE0, cF0, cA1, cB1, cC1, cD1, cE1, cF1, cA2, cB2, cC2, cD2, cE2, cF2, cA3, cB3, cC3, cD3, cE3, cF3, vinT, vinN, li_clamp, iN_clamp, ↓reduceIte, if_true, if_false, iN_add1, iL_add, lI_add, iN_add, lI_mul, iL_mul, iN_mul, iN_sub, iL_sub, lI_sub, and_self, and_true, true_and, and_false, false_and, b01, b01L, z10, z10L, lc_eq, lc_lt, lc_le, lc_ge, lc_gt, ent_n, ent_i, ent_l, ent_r, ent_u, tL_n, tL_s, ap_n, ap_c, b, eq_self]
    exact r
theorem lp_195t {h s low : Nat} {his : Nat → Bool} {cb : Nat → Int64} {a1 a2 a3 : Int32} (mf : MF I L h his cb) : ∀ d t, t + d = h → ((∀ i, t ≤ i → i < h → s.testBit i = true → VBF his cb i = true) → ∀ a4, Rn (EE N xs) 195 147 [.ref 106, .int a1, .int a2, .int a3, .int (Int32.ofNat s), .int (Int32.ofNat low), .int 1, .int a4] [] (K0, I, L) Q) → ((¬ ∀ i, t ≤ i → i < h → s.testBit i = true → VBF his cb i = true) → ∀ a4, Rn (EE N xs) 195 147 [.ref 106, .int a1, .int a2, .int a3, .int (Int32.ofNat s), .int (Int32.ofNat low), .int 0, .int a4] [] (K0, I, L) Q) → Rn (EE N xs) 195 10088 [.ref 106, .int a1, .int a2, .int a3, .int (Int32.ofNat s), .int (Int32.ofNat low), .int 1, .int (Int32.ofNat t)] [] (K0, I, L) Q
  | 0, t, e, K1, K2 => by
    have e : t = h := e
    subst e
    have m1 := mf.1
    have m2 := mf.2.1
    have r := K1 (fun i h1 h2 => absurd h2 (by omega)) (Int32.ofNat t)
    rw [n_195_10088]
    simp (maxSteps := 2000000) (disch := first | rfl | exact Nat.le_of_ble_eq_true rfl | assumption | omega) only [n_195_84, ri_iload_5, n_195_86, ri_istore, s1_i1, s2_in, s2_io, s2_it, s1_r1, s2_rn, s2_ro, s2_rt, s1_n1, s2_nn, s2_no, s2_nt, s1_j1, s2_jn, s2_jo, s2_jt, sto1_1l, sto1_z, sto2_z0, sto2_z1, sto2_z2, s1_2, s2_2, s1_3, s2_3, s1_4, s2_4, s1_5, s2_5, s1_6, s2_6, s1_7, s2_7, s1_8, s2_8, s1_9, s2_9, s1_10, s2_10, s1_11, s2_11, s1_12, s2_12, s1_13, s2_13, s1_14, s2_14, s1_15, s2_15, tl_c, tl_n, n_195_88, ri_ret, tk_0, tk_1, tk_2, tk_3, tk_4, tk_5, tk_6, tk_7, tk_8, tk_9, tk_10, tk_11, tk_12, tk_13, ri_iload_7, n_195_90, ri_aload_0, ri_aloadN_0, n_195_91, gf_971102_106, n_195_94, ric_0, n_195_95, al_2, al_3, al_5, al_6, al_7, al_10, al_11, al_12, al_39, al_41, al_44, al_45, al_46, al_47, al_49, al_51, al_53, al_107, al_108, al_109, al_110, al_111, al_112, al_113, al_114, al_115, al_116, al_117, al_118, al_119, al_120, al_121, al_122, al_c, al_d, al_14, al_bk, al_52, al_x0, al_x1, al_x2, al_x3, n_195_96, ri_icmp_ge, tn_147, n_195_99, ri_iload_6, n_195_101, ri_if_eq, n_195_104, ri_iload_4, n_195_106, n_195_108, ri_ishr, n_195_109, ric_1, n_195_110, ri_iand, n_195_111, tn_134, n_195_114, n_195_115, n_195_117, ri_V, rc_177, n_195_120, tn_138, n_195_123, n_195_124, n_195_126, n_195_129, rlc_0, n_195_130, ri_lcmp, n_195_131, n_195_134, n_195_135, ri_goto, tn_139, n_195_138, n_195_139, n_195_141, rin_7_1, n_195_144, tn_88, ent_n, ent_i, ent_l, ent_r, ent_u, tL_n, tL_s, ap_n, ap_c, b01, b01L, ite_not, z10, cA0, cB0, cC0, cD0, cE0, cF0, cA1, cB1, cC1, cD1, cE1, cF1, cA2, cB2, cC2, cD2, cE2, cF2, cA3, cB3, cC3, cD3, cE3, cF3, vinT, vinN, li_clamp, iN_clamp, ↓reduceIte, if_true, if_false, iN_add1, iL_add, lI_add, iN_add, lI_mul, iL_mul, iN_mul, iN_sub, iL_sub, lI_sub, and_self, and_true, true_and, and_false, false_and, z10L, lc_eq, lc_lt, lc_le, lc_ge, lc_gt, m1]
    exact r
  | d + 1, t, e, K1, K2 => by
    have m1 := mf.1
    have m2 := mf.2.1
    have mk := (mf.2.2 t (by omega)).2
    have b := sar1 (s := s) (n := t) (by omega)
    have good : (s.testBit t = true → VBF his cb t = true) → Rn (EE N xs) 195 10088 [.ref 106, .int a1, .int a2, .int a3, .int (Int32.ofNat s), .int (Int32.ofNat low), .int 1, .int (Int32.ofNat (t + 1))] [] (K0, I, L) Q := fun g => by
      refine lp_195t mf d (t + 1) (by omega) (fun q => K1 (fun i h1 h2 h3 => ?_)) (fun q => K2 (fun p => q (fun i h1 h2 h3 => p i (by omega) h2 h3)))
      by_cases z : i = t
      · subst z
        exact g h3
      · exact q i (by omega) h2 h3
    have bad : (s.testBit t = true ∧ VBF his cb t = false) → Rn (EE N xs) 195 10088 [.ref 106, .int a1, .int a2, .int a3, .int (Int32.ofNat s), .int (Int32.ofNat low), .int 0, .int (Int32.ofNat (t + 1))] [] (K0, I, L) Q := fun g => by
      have r := K2 (fun p => by
        have := p t (Nat.le_refl _) (by omega) g.1
        rw [g.2] at this
        cases this) (Int32.ofNat (t + 1))
      rw [n_195_10088]
      by_cases z : t + 1 < h
      · simp (maxSteps := 2000000) (disch := first | rfl | exact Nat.le_of_ble_eq_true rfl | assumption | omega) only [n_195_84, ri_iload_5, n_195_86, ri_istore, s1_i1, s2_in, s2_io, s2_it, s1_r1, s2_rn, s2_ro, s2_rt, s1_n1, s2_nn, s2_no, s2_nt, s1_j1, s2_jn, s2_jo, s2_jt, sto1_1l, sto1_z, sto2_z0, sto2_z1, sto2_z2, s1_2, s2_2, s1_3, s2_3, s1_4, s2_4, s1_5, s2_5, s1_6, s2_6, s1_7, s2_7, s1_8, s2_8, s1_9, s2_9, s1_10, s2_10, s1_11, s2_11, s1_12, s2_12, s1_13, s2_13, s1_14, s2_14, s1_15, s2_15, tl_c, tl_n, n_195_88, ri_ret, tk_0, tk_1, tk_2, tk_3, tk_4, tk_5, tk_6, tk_7, tk_8, tk_9, tk_10, tk_11, tk_12, tk_13, ri_iload_7, n_195_90, ri_aload_0, ri_aloadN_0, n_195_91, gf_971102_106, n_195_94, ric_0, n_195_95, al_2, al_3, al_5, al_6, al_7, al_10, al_11, al_12, al_39, al_41, al_44, al_45, al_46, al_47, al_49, al_51, al_53, al_107, al_108, al_109, al_110, al_111, al_112, al_113, al_114, al_115, al_116, al_117, al_118, al_119, al_120, al_121, al_122, al_c, al_d, al_14, al_bk, al_52, al_x0, al_x1, al_x2, al_x3, n_195_96, ri_icmp_ge, tn_147, n_195_99, ri_iload_6, n_195_101, ri_if_eq, n_195_104, ri_iload_4, n_195_106, n_195_108, ri_ishr, n_195_109, ric_1, n_195_110, ri_iand, n_195_111, tn_134, n_195_114, n_195_115, n_195_117, ri_V, rc_177, n_195_120, tn_138, n_195_123, n_195_124, n_195_126, n_195_129, rlc_0, n_195_130, ri_lcmp, n_195_131, n_195_134, n_195_135, ri_goto, tn_139, n_195_138, n_195_139, n_195_141, rin_7_1, n_195_144, tn_88, ent_n, ent_i, ent_l, ent_r, ent_u, tL_n, tL_s, ap_n, ap_c, b01, b01L, ite_not, z10, cA0, cB0, cC0, cD0, cE0, cF0, cA1, cB1, cC1, cD1, cE1, cF1, cA2, cB2, cC2, cD2, cE2, cF2, cA3, cB3, cC3, cD3, cE3, cF3, vinT, vinN, li_clamp, iN_clamp, ↓reduceIte, if_true, if_false, iN_add1, iL_add, lI_add, iN_add, lI_mul, iL_mul, iN_mul, iN_sub, iL_sub, lI_sub, and_self, and_true, true_and, and_false, false_and, z10L, lc_eq, lc_lt, lc_le, lc_ge, lc_gt, m1, eq_self]
        exact r
      · simp (maxSteps := 2000000) (disch := first | rfl | exact Nat.le_of_ble_eq_true rfl | assumption | omega) only [n_195_84, ri_iload_5, n_195_86, ri_istore, s1_i1, s2_in, s2_io, s2_it, s1_r1, s2_rn, s2_ro, s2_rt, s1_n1, s2_nn, s2_no, s2_nt, s1_j1, s2_jn, s2_jo, s2_jt, sto1_1l, sto1_z, sto2_z0, sto2_z1, sto2_z2, s1_2, s2_2, s1_3, s2_3, s1_4, s2_4, s1_5, s2_5, s1_6, s2_6, s1_7, s2_7, s1_8, s2_8, s1_9, s2_9, s1_10, s2_10, s1_11, s2_11, s1_12, s2_12, s1_13, s2_13, s1_14, s2_14, s1_15, s2_15, tl_c, tl_n, n_195_88, ri_ret, tk_0, tk_1, tk_2, tk_3, tk_4, tk_5, tk_6, tk_7, tk_8, tk_9, tk_10, tk_11, tk_12, tk_13, ri_iload_7, n_195_90, ri_aload_0, ri_aloadN_0, n_195_91, gf_971102_106, n_195_94, ric_0, n_195_95, al_2, al_3, al_5, al_6, al_7, al_10, al_11, al_12, al_39, al_41, al_44, al_45, al_46, al_47, al_49, al_51, al_53, al_107, al_108, al_109, al_110, al_111, al_112, al_113, al_114, al_115, al_116, al_117, al_118, al_119, al_120, al_121, al_122, al_c, al_d, al_14, al_bk, al_52, al_x0, al_x1, al_x2, al_x3, n_195_96, ri_icmp_ge, tn_147, n_195_99, ri_iload_6, n_195_101, ri_if_eq, n_195_104, ri_iload_4, n_195_106, n_195_108, ri_ishr, n_195_109, ric_1, n_195_110, ri_iand, n_195_111, tn_134, n_195_114, n_195_115, n_195_117, ri_V, rc_177, n_195_120, tn_138, n_195_123, n_195_124, n_195_126, n_195_129, rlc_0, n_195_130, ri_lcmp, n_195_131, n_195_134, n_195_135, ri_goto, tn_139, n_195_138, n_195_139, n_195_141, rin_7_1, n_195_144, tn_88, ent_n, ent_i, ent_l, ent_r, ent_u, tL_n, tL_s, ap_n, ap_c, b01, b01L, ite_not, z10, cA0, cB0, cC0, cD0, cE0, cF0, cA1, cB1, cC1, cD1, cE1, cF1, cA2, cB2, cC2, cD2, cE2, cF2, cA3, cB3, cC3, cD3, cE3, cF3, vinT, vinN, li_clamp, iN_clamp, ↓reduceIte, if_true, if_false, iN_add1, iL_add, lI_add, iN_add, lI_mul, iL_mul, iN_mul, iN_sub, iL_sub, lI_sub, and_self, and_true, true_and, and_false, false_and, z10L, lc_eq, lc_lt, lc_le, lc_ge, lc_gt, m1]
        exact r
    rw [n_195_10088]
    cases w : s.testBit t with
    | false =>
      rw [w, if_neg (by decide)] at b
      have r := good (fun q => by rw [w] at q; cases q)
      simp (maxSteps := 2000000) (disch := first | rfl | exact Nat.le_of_ble_eq_true rfl | assumption | omega) only [n_195_84, ri_iload_5, n_195_86, ri_istore, s1_i1, s2_in, s2_io, s2_it, s1_r1, s2_rn, s2_ro, s2_rt, s1_n1, s2_nn, s2_no, s2_nt, s1_j1, s2_jn, s2_jo, s2_jt, sto1_1l, sto1_z, sto2_z0, sto2_z1, sto2_z2, s1_2, s2_2, s1_3, s2_3, s1_4, s2_4, s1_5, s2_5, s1_6, s2_6, s1_7, s2_7, s1_8, s2_8, s1_9, s2_9, s1_10, s2_10, s1_11, s2_11, s1_12, s2_12, s1_13, s2_13, s1_14, s2_14, s1_15, s2_15, tl_c, tl_n, n_195_88, ri_ret, tk_0, tk_1, tk_2, tk_3, tk_4, tk_5, tk_6, tk_7, tk_8, tk_9, tk_10, tk_11, tk_12, tk_13, ri_iload_7, n_195_90, ri_aload_0, ri_aloadN_0, n_195_91, gf_971102_106, n_195_94, ric_0, n_195_95, al_2, al_3, al_5, al_6, al_7, al_10, al_11, al_12, al_39, al_41, al_44, al_45, al_46, al_47, al_49, al_51, al_53, al_107, al_108, al_109, al_110, al_111, al_112, al_113, al_114, al_115, al_116, al_117, al_118, al_119, al_120, al_121, al_122, al_c, al_d, al_14, al_bk, al_52, al_x0, al_x1, al_x2, al_x3, n_195_96, ri_icmp_ge, tn_147, n_195_99, ri_iload_6, n_195_101, ri_if_eq, n_195_104, ri_iload_4, n_195_106, n_195_108, ri_ishr, n_195_109, ric_1, n_195_110, ri_iand, n_195_111, tn_134, n_195_114, n_195_115, n_195_117, ri_V, rc_177, n_195_120, tn_138, n_195_123, n_195_124, n_195_126, n_195_129, rlc_0, n_195_130, ri_lcmp, n_195_131, n_195_134, n_195_135, ri_goto, tn_139, n_195_138, n_195_139, n_195_141, rin_7_1, n_195_144, tn_88, ent_n, ent_i, ent_l, ent_r, ent_u, tL_n, tL_s, ap_n, ap_c, b01, b01L, ite_not, z10, cA0, cB0, cC0, cD0, cE0, cF0, cA1, cB1, cC1, cD1, cE1, cF1, cA2, cB2, cC2, cD2, cE2, cF2, cA3, cB3, cC3, cD3, cE3, cF3, vinT, vinN, li_clamp, iN_clamp, ↓reduceIte, if_true, if_false, iN_add1, iL_add, lI_add, iN_add, lI_mul, iL_mul, iN_mul, iN_sub, iL_sub, lI_sub, and_self, and_true, true_and, and_false, false_and, z10L, lc_eq, lc_lt, lc_le, lc_ge, lc_gt, m1, b, eq_self]
      exact r
    | true =>
      rw [w, if_pos rfl] at b
      by_cases y : his t = true
      · by_cases c : cb t = 0
        · have r := bad ⟨w, by unfold VBF; rw [c, decide_eq_true rfl, y]; rfl⟩
          simp (maxSteps := 2000000) (disch := first | rfl | exact Nat.le_of_ble_eq_true rfl | assumption | omega) only [n_195_84, ri_iload_5, n_195_86, ri_istore, s1_i1, s2_in, s2_io, s2_it, s1_r1, s2_rn, s2_ro, s2_rt, s1_n1, s2_nn, s2_no, s2_nt, s1_j1, s2_jn, s2_jo, s2_jt, sto1_1l, sto1_z, sto2_z0, sto2_z1, sto2_z2, s1_2, s2_2, s1_3, s2_3, s1_4, s2_4, s1_5, s2_5, s1_6, s2_6, s1_7, s2_7, s1_8, s2_8, s1_9, s2_9, s1_10, s2_10, s1_11, s2_11, s1_12, s2_12, s1_13, s2_13, s1_14, s2_14, s1_15, s2_15, tl_c, tl_n, n_195_88, ri_ret, tk_0, tk_1, tk_2, tk_3, tk_4, tk_5, tk_6, tk_7, tk_8, tk_9, tk_10, tk_11, tk_12, tk_13, ri_iload_7, n_195_90, ri_aload_0, ri_aloadN_0, n_195_91, gf_971102_106, n_195_94, ric_0, n_195_95, al_2, al_3, al_5, al_6, al_7, al_10, al_11, al_12, al_39, al_41, al_44, al_45, al_46, al_47, al_49, al_51, al_53, al_107, al_108, al_109, al_110, al_111, al_112, al_113, al_114, al_115, al_116, al_117, al_118, al_119, al_120, al_121, al_122, al_c, al_d, al_14, al_bk, al_52, al_x0, al_x1, al_x2, al_x3, n_195_96, ri_icmp_ge, tn_147, n_195_99, ri_iload_6, n_195_101, ri_if_eq, n_195_104, ri_iload_4, n_195_106, n_195_108, ri_ishr, n_195_109, ric_1, n_195_110, ri_iand, n_195_111, tn_134, n_195_114, n_195_115, n_195_117, ri_V, rc_177, n_195_120, tn_138, n_195_123, n_195_124, n_195_126, n_195_129, rlc_0, n_195_130, ri_lcmp, n_195_131, n_195_134, n_195_135, ri_goto, tn_139, n_195_138, n_195_139, n_195_141, rin_7_1, n_195_144, tn_88, ent_n, ent_i, ent_l, ent_r, ent_u, tL_n, tL_s, ap_n, ap_c, b01, b01L, ite_not, z10, cA0, cB0, cC0, cD0, cE0, cF0, cA1, cB1, cC1, cD1, cE1, cF1, cA2, cB2, cC2, cD2, cE2, cF2, cA3, cB3, cC3, cD3, cE3, cF3, vinT, vinN, li_clamp, iN_clamp, ↓reduceIte, if_true, if_false, iN_add1, iL_add, lI_add, iN_add, lI_mul, iL_mul, iN_mul, iN_sub, iL_sub, lI_sub, and_self, and_true, true_and, and_false, false_and, z10L, lc_eq, lc_lt, lc_le, lc_ge, lc_gt, m1, b, mk, y, mc_179 mf (show t < h by omega), c]
          exact r
        · have r := good (fun _ => by unfold VBF; rw [decide_eq_false c, y]; rfl)
          simp (maxSteps := 2000000) (disch := first | rfl | exact Nat.le_of_ble_eq_true rfl | assumption | omega) only [n_195_84, ri_iload_5, n_195_86, ri_istore, s1_i1, s2_in, s2_io, s2_it, s1_r1, s2_rn, s2_ro, s2_rt, s1_n1, s2_nn, s2_no, s2_nt, s1_j1, s2_jn, s2_jo, s2_jt, sto1_1l, sto1_z, sto2_z0, sto2_z1, sto2_z2, s1_2, s2_2, s1_3, s2_3, s1_4, s2_4, s1_5, s2_5, s1_6, s2_6, s1_7, s2_7, s1_8, s2_8, s1_9, s2_9, s1_10, s2_10, s1_11, s2_11, s1_12, s2_12, s1_13, s2_13, s1_14, s2_14, s1_15, s2_15, tl_c, tl_n, n_195_88, ri_ret, tk_0, tk_1, tk_2, tk_3, tk_4, tk_5, tk_6, tk_7, tk_8, tk_9, tk_10, tk_11, tk_12, tk_13, ri_iload_7, n_195_90, ri_aload_0, ri_aloadN_0, n_195_91, gf_971102_106, n_195_94, ric_0, n_195_95, al_2, al_3, al_5, al_6, al_7, al_10, al_11, al_12, al_39, al_41, al_44, al_45, al_46, al_47, al_49, al_51, al_53, al_107, al_108, al_109, al_110, al_111, al_112, al_113, al_114, al_115, al_116, al_117, al_118, al_119, al_120, al_121, al_122, al_c, al_d, al_14, al_bk, al_52, al_x0, al_x1, al_x2, al_x3, n_195_96, ri_icmp_ge, tn_147, n_195_99, ri_iload_6, n_195_101, ri_if_eq, n_195_104, ri_iload_4, n_195_106, n_195_108, ri_ishr, n_195_109, ric_1, n_195_110, ri_iand, n_195_111, tn_134, n_195_114, n_195_115, n_195_117, ri_V, rc_177, n_195_120, tn_138, n_195_123, n_195_124, n_195_126, n_195_129, rlc_0, n_195_130, ri_lcmp, n_195_131, n_195_134, n_195_135, ri_goto, tn_139, n_195_138, n_195_139, n_195_141, rin_7_1, n_195_144, tn_88, ent_n, ent_i, ent_l, ent_r, ent_u, tL_n, tL_s, ap_n, ap_c, b01, b01L, ite_not, z10, cA0, cB0, cC0, cD0, cE0, cF0, cA1, cB1, cC1, cD1, cE1, cF1, cA2, cB2, cC2, cD2, cE2, cF2, cA3, cB3, cC3, cD3, cE3, cF3, vinT, vinN, li_clamp, iN_clamp, ↓reduceIte, if_true, if_false, iN_add1, iL_add, lI_add, iN_add, lI_mul, iL_mul, iN_mul, iN_sub, iL_sub, lI_sub, and_self, and_true, true_and, and_false, false_and, z10L, lc_eq, lc_lt, lc_le, lc_ge, lc_gt, m1, b, mk, y, mc_179 mf (show t < h by omega), c]
          exact r
      · have r := bad ⟨w, by unfold VBF; rw [Bool.eq_false_iff.mpr y]; rfl⟩
        simp (maxSteps := 2000000) (disch := first | rfl | exact Nat.le_of_ble_eq_true rfl | assumption | omega) only [n_195_84, ri_iload_5, n_195_86, ri_istore, s1_i1, s2_in, s2_io, s2_it, s1_r1, s2_rn, s2_ro, s2_rt, s1_n1, s2_nn, s2_no, s2_nt, s1_j1, s2_jn, s2_jo, s2_jt, sto1_1l, sto1_z, sto2_z0, sto2_z1, sto2_z2, s1_2, s2_2, s1_3, s2_3, s1_4, s2_4, s1_5, s2_5, s1_6, s2_6, s1_7, s2_7, s1_8, s2_8, s1_9, s2_9, s1_10, s2_10, s1_11, s2_11, s1_12, s2_12, s1_13, s2_13, s1_14, s2_14, s1_15, s2_15, tl_c, tl_n, n_195_88, ri_ret, tk_0, tk_1, tk_2, tk_3, tk_4, tk_5, tk_6, tk_7, tk_8, tk_9, tk_10, tk_11, tk_12, tk_13, ri_iload_7, n_195_90, ri_aload_0, ri_aloadN_0, n_195_91, gf_971102_106, n_195_94, ric_0, n_195_95, al_2, al_3, al_5, al_6, al_7, al_10, al_11, al_12, al_39, al_41, al_44, al_45, al_46, al_47, al_49, al_51, al_53, al_107, al_108, al_109, al_110, al_111, al_112, al_113, al_114, al_115, al_116, al_117, al_118, al_119, al_120, al_121, al_122, al_c, al_d, al_14, al_bk, al_52, al_x0, al_x1, al_x2, al_x3, n_195_96, ri_icmp_ge, tn_147, n_195_99, ri_iload_6, n_195_101, ri_if_eq, n_195_104, ri_iload_4, n_195_106, n_195_108, ri_ishr, n_195_109, ric_1, n_195_110, ri_iand, n_195_111, tn_134, n_195_114, n_195_115, n_195_117, ri_V, rc_177, n_195_120, tn_138, n_195_123, n_195_124, n_195_126, n_195_129, rlc_0, n_195_130, ri_lcmp, n_195_131, n_195_134, n_195_135, ri_goto, tn_139, n_195_138, n_195_139, n_195_141, rin_7_1, n_195_144, tn_88, ent_n, ent_i, ent_l, ent_r, ent_u, tL_n, tL_s, ap_n, ap_c, b01, b01L, ite_not, z10, cA0, cB0, cC0, cD0, cE0, cF0, cA1, cB1, cC1, cD1, cE1, cF1, cA2, cB2, cC2, cD2, cE2, cF2, cA3, cB3, cC3, cD3, cE3, cF3, vinT, vinN, li_clamp, iN_clamp, ↓reduceIte, if_true, if_false, iN_add1, iL_add, lI_add, iN_add, lI_mul, iL_mul, iN_mul, iN_sub, iL_sub, lI_sub, and_self, and_true, true_and, and_false, false_and, z10L, lc_eq, lc_lt, lc_le, lc_ge, lc_gt, m1, b, mk, y]
        exact r
end S76
