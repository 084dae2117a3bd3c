/-! TAKERS -/
theorem HL_congr {m : Nat} {V V2 : Nat → Bool} {ch ch2 : Nat → Nat → Bool} (h1 : ∀ t, t < 12 → V2 t = V t) (h2 : ∀ t, t < 12 → ∀ n, n < 60 → ch2 t n = ch t n) (h : HL m V ch) : HL m V2 ch2 := by
  intro S hS
  have a := h S (fun t ht q => by rw [← h1 t ht]; exact hS t ht q)
  have e : pcN (NS S ch2) 60 = pcN (NS S ch) 60 := pcN_congr 60 (fun n hn => anyN_congr (fun t ht => by rw [h2 t ht n hn]))
  rw [e]
  exact a
theorem MT_congr {m : Nat} {V V2 : Nat → Bool} {ch ch2 : Nat → Nat → Bool} (h1 : ∀ t, t < 12 → V2 t = V t) (h2 : ∀ t, t < 12 → ∀ n, n < 60 → ch2 t n = ch t n) (h : MT m V ch) : MT m V2 ch2 := by
  obtain ⟨f, ⟨p1, p2⟩, p3⟩ := h
  exact ⟨f, ⟨fun t ht q => by rw [h2 t ht _ q]; exact p1 t ht q, p2⟩, fun t ht q => p3 t ht (by rw [← h1 t ht]; exact q)⟩
theorem WP_HL {Nt : Nat → Int64} {fm h W m : Nat} {lo : Int32} {VB V : Nat → Bool} (wp : WP Nt fm lo VB (2 ^ h) W) (h12 : h ≤ 12) (hm : m < 1000000) (hV : ∀ t, t < 12 → (V t = true ↔ t < h ∧ fm ≤ t ∧ VB t = true)) (hz : ∀ t, t < 12 → ∀ n, 60 ≤ n → tb (Nt t) n = false) (hne : lo = 1 → ∀ t, t < 12 → V t = true → ∃ n, n < 60 ∧ tb (Nt t) n = true) : W ≤ m ↔ HL m V (fun t n => tb (Nt t) n) := by
  have u60 : ∀ s, pcN (US Nt s) 64 = pcN (US Nt s) 60 := fun s => pcN_z (n := 60) (fun n hn => by
    apply Bool.eq_false_iff.mpr
    intro q
    obtain ⟨t, ht, w⟩ := anyN_iff.mp q
    rw [hz t ht n hn, Bool.and_false] at w
    cases w) 4
  rw [wp.2 m hm]
  constructor
  · intro a S hS
    obtain ⟨s, s1, s2⟩ := set_of h S
    have eq : ∀ t, t < 12 → S t = s.testBit t := fun t ht => by
      by_cases z : t < h
      · exact (s2 t z).symm
      · rw [bit_ge s1 (by omega)]
        apply Bool.eq_false_iff.mpr
        intro q
        exact z ((hV t ht).mp (hS t ht q)).1
    have e1 : pcN S 12 = pcN (fun t => s.testBit t) 12 := pcN_congr 12 eq
    have e2 : pcN (NS S fun t n => tb (Nt t) n) 60 = pcN (US Nt s) 60 := pcN_congr 60 (fun n hn => anyN_congr (fun t ht => by rw [eq t ht]))
    rw [e1, e2]
    by_cases s0 : s = 0
    · subst s0
      rw [pcN_none 12 (fun t ht => Nat.zero_testBit t)]
      exact Nat.zero_le _
    · rcases a s (by omega) s1 (fun t ht q => by
        rw [← eq t ht] at q
        exact ((hV t ht).mp (hS t ht q)).2) with ⟨b1, b2⟩ | ⟨b1, b2⟩
      · obtain ⟨l, l1, l2, -⟩ := set_low (s := s) (by omega) (by have := p12 h (by omega); omega)
        rw [← eq l l1] at l2
        obtain ⟨n, n1, n2⟩ := hne b2 l l1 (hS l l1 l2)
        have := pcN_pos (p := US Nt s) (l := n) (anyN_iff.mpr ⟨l, l1, by rw [← eq l l1, l2, n2]; rfl⟩) 64 (by omega)
        omega
      · rw [← u60]
        exact b2
  · intro a s s1 s2 ok
    have b := a (fun t => s.testBit t) (fun t ht q => (hV t ht).mpr (by
      obtain ⟨c1, c2⟩ := ok t ht q
      refine ⟨?_, c1, c2⟩
      apply Classical.byContradiction
      intro z
      have q : s.testBit t = true := q
      rw [bit_ge s2 (by omega)] at q
      cases q))
    have e2 : pcN (NS (fun t => s.testBit t) fun t n => tb (Nt t) n) 60 = pcN (US Nt s) 60 := rfl
    rw [e2, ← u60] at b
    obtain ⟨l, l1, l2, -⟩ := set_low (s := s) (by omega) (by have := p12 h (by omega); omega)
    have pos := pcN_pos (p := fun t => s.testBit t) (l := l) l2 12 l1
    refine Or.inr ⟨?_, b⟩
    apply Nat.pos_of_ne_zero
    intro z
    rw [z, Nat.mul_zero] at b
    omega
theorem HL_12 {V : Nat → Bool} {ch : Nat → Nat → Bool} (h : ∀ t, t < 12 → V t = true → ∃ n, n < 60 ∧ ch t n = true) : HL 12 V ch := by
  intro S hS
  have le := pcN_le S 12
  by_cases z : pcN S 12 = 0
  · omega
  · have : ∃ t, t < 12 ∧ S t = true := by
      apply Classical.byContradiction
      intro q
      apply z
      exact pcN_none 12 (fun t ht => by
        apply Bool.eq_false_iff.mpr
        intro w
        exact q ⟨t, ht, w⟩)
    obtain ⟨t, ht, w⟩ := this
    obtain ⟨n, n1, n2⟩ := h t ht (hS t ht w)
    have := pcN_pos (p := NS S ch) (l := n) (anyN_iff.mpr ⟨t, ht, by rw [w, n2]; rfl⟩) 60 n1
    omega
theorem sp59 : ∀ n : Nat, n < 64 → tb (spF 0 59) n = decide (n < 60) := by decide +kernel
theorem and_m1 {x : Int64} : x &&& (0 ^^^ (-1)) = x := by
  apply tb_ext
  intro i hi
  rw [tb_and, tb_inv hi, tb_zero]
  cases tb x i <;> rfl
theorem bit_of {x : Int64} (h : ¬ x = 0) (hz : ∀ n, 60 ≤ n → tb x n = false) : ∃ n, n < 60 ∧ tb x n = true := by
  apply Classical.byContradiction
  intro q
  apply h
  apply tb_ext
  intro i hi
  rw [tb_zero]
  by_cases z : i < 60
  · apply Bool.eq_false_iff.mpr
    intro w
    exact q ⟨i, z, w⟩
  · exact hz i (by omega)
theorem MF_of {nc h : Nat} {I : Nat → Nat → Int32} {L : Nat → Nat → Int64} (iy : InvY nc I L) (ib : InvB nc I) (iu : InvU I) (hh : I 13 1 = Int32.ofNat h) (h12 : h ≤ 12) : MF I L h (hisC I) (ngC I L) ∧ ∀ t, t < h → ∀ n, 60 ≤ n → tb (ngC I L t) n = false := by
  obtain ⟨h2, h13, b1, b2, b3⟩ := InvB_get ib
  have e : h2 = h := by
    rw [b1] at hh
    exact (iN_eq (by omega) (by omega)).mp hh
  subst e
  obtain ⟨u, u1, -⟩ := iu
  obtain ⟨p, q⟩ := u1 4 (by decide)
  refine ⟨⟨b2, h12, fun t ht => ?_⟩, fun t ht n hn => ?_⟩
  · skip
    obtain ⟨ck, ca, cb, cg, cl, ce, cn, ⟨k1, k2, k3, k4, k5, k6, k7, k8⟩, ⟨f0, g0⟩, ⟨f1, g1⟩, ⟨f2, g2⟩, ⟨f3, g3⟩, ⟨f4, g4⟩, ⟨f5, g5⟩, ⟨f6, g6⟩, cc⟩ := b3 t ht
    have y0 := iy.1
    refine ⟨⟨ck, by omega, g0, ?_⟩, ?_⟩
    · have ng := ng_eq iy k1 k2 k3 f0 f1 f2
      have le : Int32.ofNat ca ≤ Int32.ofNat (cb - 1) := by
        rw [iN_le (by omega) (by omega)]
        omega
      rw [ng, g1, g2, show (1 : Int32) = Int32.ofNat 1 from rfl, iN_sub (by omega), if_pos le]
    · unfold hisC
      rw [g5, g3, q, f5, f3, p, mk_eq ce k7 cg k4]
      simp
  · skip
    obtain ⟨ck, ca, cb, cg, cl, ce, cn, ⟨k1, k2, k3, k4, k5, k6, k7, k8⟩, ⟨f0, g0⟩, ⟨f1, g1⟩, ⟨f2, g2⟩, ⟨f3, g3⟩, ⟨f4, g4⟩, ⟨f5, g5⟩, ⟨f6, g6⟩, cc⟩ := b3 t ht
    have ng := ng_eq iy k1 k2 k3 f0 f1 f2
    obtain ⟨y0, y1, y2, y3, y4, y5, y6⟩ := iy
    rw [ng, y5]
    by_cases z : n < 64
    · rw [tb_and, tb_and, tb_and, sp59 n z, decide_eq_false (by omega)]
      rfl
    · exact tb_ge (by omega)
theorem MF.fi {I J : Nat → Nat → Int32} {L : Nat → Nat → Int64} {h : Nat} {his : Nat → Bool} {cb : Nat → Int64} (mf : MF I L h his cb) (h1 : ∀ k, J 107 k = I 107 k) (h2 : J 114 4 = I 114 4) : MF J L h his cb := by
  obtain ⟨m1, m2, m3⟩ := mf
  refine ⟨(h1 0).trans m1, m2, fun t ht => ?_⟩
  obtain ⟨⟨k, k1, k2, k3⟩, m4⟩ := m3 t ht
  refine ⟨⟨k, k1, (h1 _).trans k2, ?_⟩, ?_⟩
  · rw [h1, h1]
    exact k3
  · rw [h1, h1, h2]
    exact m4
theorem c0F_V {h : Nat} {his : Nat → Bool} {cb : Nat → Int64} {t : Nat} : ¬ c0F h his cb t = 0 ↔ t < h ∧ VBF his cb t = true := by
  unfold c0F VBF
  by_cases z : t < h
  · by_cases y : his t = true
    · rw [if_pos ⟨z, y⟩, y]
      simp [z]
    · rw [if_neg (fun q => y q.2), Bool.eq_false_iff.mpr y]
      simp
  · rw [if_neg (fun q => z q.1)]
    simp [z]
theorem c0F_z {h : Nat} {his : Nat → Bool} {cb : Nat → Int64} (hz : ∀ t, t < h → ∀ n, 60 ≤ n → tb (cb t) n = false) (t n : Nat) (hn : 60 ≤ n) : tb (c0F h his cb t) n = false := by
  unfold c0F
  by_cases z : t < h ∧ his t = true
  · rw [if_pos z]
    exact hz t z.1 n hn
  · rw [if_neg z]
    exact tb_zero
theorem inv_tk {I J : Nat → Nat → Int32} {L M : Nat → Nat → Int64} (inv : Inv I L) (fr : ∀ a k, a ≠ 45 → a ≠ 46 → a ≠ 47 → ¬ (a = 106 ∧ k = 0) → J a k = I a k) (fl : ∀ a k, a ≠ 44 → a ≠ 119 → a ≠ 120 → M a k = L a k) : Inv J M := Inv_ag (fun a k z => fr a k (fun e => by
  subst e
  rw [show relI 45 k = false from rfl] at z
  cases z) (fun e => by
  subst e
  rw [show relI 46 k = false from rfl] at z
  cases z) (fun e => by
  subst e
  rw [show relI 47 k = false from rfl] at z
  cases z) (fun e => by
  rw [e.1, e.2, show relI 106 0 = false from rfl] at z
  cases z)) (fun a k z => fl a k (fun e => by
  subst e
  rw [show relL 44 k = false from rfl] at z
  cases z) (fun e => by
  subst e
  rw [show relL 119 k = false from rfl] at z
  cases z) (fun e => by
  subst e
  rw [show relL 120 k = false from rfl] at z
  cases z)) inv
section S78
variable {N : Nat} {xs : Nat → Int32} {I : Nat → Nat → Int32} {L : Nat → Nat → Int64} {Q : Option Value → AH → Prop}
theorem op_94 (inv : Inv I L) : Op (EE N xs) 94 193 [] I L := by
  obtain ⟨it, ⟨nc, iy, ib, im⟩, iu, iw, ia⟩ := id inv
  obtain ⟨nt, hnt, t1, t2, t3⟩ := id it
  obtain ⟨y0, y1, y2, y3, y4, y5, y6⟩ := id iy
  obtain ⟨h, h12, b1, b2, b3⟩ := InvB_get ib
  obtain ⟨u, u1, ⟨u2a, u2b⟩, u3q, ⟨u4a, u4b⟩, ⟨u5a, u5b⟩, u6q⟩ := id iu
  obtain ⟨mf, nz⟩ := MF_of iy ib iu b1 h12
  have V0 : ∀ t, t < 12 → c0F h (hisC I) (ngC I L) t ≠ 0 → ∃ n, n < 60 ∧ tb (c0F h (hisC I) (ngC I L) t) n = true := fun t ht q => bit_of q (c0F_z nz t)
  refine op_ex (P := fun J M v => FT I J ∧ F44 L M ∧ ∃ w, v = Int32.ofNat w ∧ w ≤ 12 ∧ (∀ m, m < w → ¬ HL m (fun t => decide (¬ c0F h (hisC I) (ngC I L) t = 0)) (fun t n => tb (c0F h (hisC I) (ngC I L) t) n)) ∧ (w < 12 → HL w (fun t => decide (¬ c0F h (hisC I) (ngC I L) t = 0)) (fun t n => tb (c0F h (hisC I) (ngC I L) t) n))) (fun Q K => ?_) (fun J M v p Q K => ?_)
  · simp (maxSteps := 2000000) (disch := first | rfl | exact Nat.le_of_ble_eq_true rfl | assumption | omega) only [n_94_0, ri_aload_0, ri_aloadN_0, n_94_1, gf_61005_0, n_94_4, ri_V, in_95, n_94_7, rt_94, n_95_0, n_95_1, n_95_4, ric_0, n_95_5, ri_istore, s1_i1, s2_in, s2_io, s2_it, s1_r1, s2_rn, s2_ro, s2_rt, s1_n1, s2_nn, s2_no, s2_nt, s1_j1, s2_jn, s2_jo, s2_jt, sto1_1l, sto1_z, sto2_z0, sto2_z1, sto2_z2, s1_2, s2_2, s1_3, s2_3, s1_4, s2_4, s1_5, s2_5, s1_6, s2_6, s1_7, s2_7, s1_8, s2_8, s1_9, s2_9, s1_10, s2_10, s1_11, s2_11, s1_12, s2_12, s1_13, s2_13, s1_14, s2_14, s1_15, s2_15, tl_c, tl_n, n_95_6, ri_ret, tk_0, tk_1, tk_2, tk_3, tk_4, tk_5, tk_6, tk_7, tk_8, tk_9, tk_10, tk_11, tk_12, tk_13, ri_iload_1, n_95_7, ric_12, n_95_9, ri_icmp_ge, tn_28, n_95_12, n_95_13, n_95_14, n_95_17, ri_if_eq, tn_22, n_95_20, n_95_21, rt_95, n_95_22, rin_1_1, n_95_25, ri_goto, tn_6, n_95_28, n_95_30, ent_n, ent_i, ent_l, ent_r, ent_u, tL_n, tL_s, ap_n, ap_c, b01, b01L, ite_not, z10, cA0, cB0, cC0, cD0, cE0, cF0, cA1, cB1, cC1, cD1, cE1, cF1, cA2, cB2, cC2, cD2, cE2, cF2, cA3, cB3, cC3, cD3, cE3, cF3, vinT, vinN, li_clamp, iN_clamp, ↓reduceIte, if_true, if_false, iN_add1, iL_add, lI_add, iN_add, lI_mul, iL_mul, iN_mul, iN_sub, iL_sub, lI_sub, and_self, and_true, true_and, and_false, false_and, z10L, lc_eq, lc_lt, lc_le, lc_ge, lc_gt]
    refine ic_96 b1 h12 rfl (Nat.le_of_ble_eq_true rfl) (fun O fr ch => ?_)
    have hz : Z60 O := fun t ht n hn => by
      rw [ch t ht]
      exact c0F_z nz t n hn
    have e1 : ∀ t, t < 12 → vL O t = decide (¬ c0F h (hisC I) (ngC I L) t = 0) := fun t ht => by
      unfold vL
      rw [ch t ht]
    have e2 : ∀ t, t < 12 → ∀ n, n < 60 → chL O t n = tb (c0F h (hisC I) (ngC I L) t) n := fun t ht n hn => by
      unfold chL
      rw [ch t ht]
    simp (maxSteps := 2000000) (disch := first | rfl | exact Nat.le_of_ble_eq_true rfl | assumption | omega) only [n_94_0, ri_aload_0, ri_aloadN_0, n_94_1, gf_61005_0, n_94_4, ri_V, in_95, n_94_7, rt_94, n_95_0, n_95_1, n_95_4, ric_0, n_95_5, ri_istore, s1_i1, s2_in, s2_io, s2_it, s1_r1, s2_rn, s2_ro, s2_rt, s1_n1, s2_nn, s2_no, s2_nt, s1_j1, s2_jn, s2_jo, s2_jt, sto1_1l, sto1_z, sto2_z0, sto2_z1, sto2_z2, s1_2, s2_2, s1_3, s2_3, s1_4, s2_4, s1_5, s2_5, s1_6, s2_6, s1_7, s2_7, s1_8, s2_8, s1_9, s2_9, s1_10, s2_10, s1_11, s2_11, s1_12, s2_12, s1_13, s2_13, s1_14, s2_14, s1_15, s2_15, tl_c, tl_n, n_95_6, ri_ret, tk_0, tk_1, tk_2, tk_3, tk_4, tk_5, tk_6, tk_7, tk_8, tk_9, tk_10, tk_11, tk_12, tk_13, ri_iload_1, n_95_7, ric_12, n_95_9, ri_icmp_ge, tn_28, n_95_12, n_95_13, n_95_14, n_95_17, ri_if_eq, tn_22, n_95_20, n_95_21, rt_95, n_95_22, rin_1_1, n_95_25, ri_goto, tn_6, n_95_28, n_95_30, ent_n, ent_i, ent_l, ent_r, ent_u, tL_n, tL_s, ap_n, ap_c, b01, b01L, ite_not, z10, cA0, cB0, cC0, cD0, cE0, cF0, cA1, cB1, cC1, cD1, cE1, cF1, cA2, cB2, cC2, cD2, cE2, cF2, cA3, cB3, cC3, cD3, cE3, cF3, vinT, vinN, li_clamp, iN_clamp, ↓reduceIte, if_true, if_false, iN_add1, iL_add, lI_add, iN_add, lI_mul, iL_mul, iN_mul, iN_sub, iL_sub, lI_sub, and_self, and_true, true_and, and_false, false_and, z10L, lc_eq, lc_lt, lc_le, lc_ge, lc_gt]
    refine lp_95 hz (fun J v ft v12 n1 n2 => ?_) 12 0 I rfl (fun _ _ _ _ _ => rfl) (fun k hk => absurd hk (Nat.not_lt_zero k))
    have K2 := K J O (Int32.ofNat v) ⟨ft, fr, v, rfl, v12, fun m hm q => n1 m hm (HL_congr e1 e2 q), fun q => HL_congr (fun t ht => (e1 t ht).symm) (fun t ht n hn => (e2 t ht n hn).symm) (n2 q)⟩
    simp (maxSteps := 2000000) (disch := first | rfl | exact Nat.le_of_ble_eq_true rfl | assumption | omega) only [n_94_0, ri_aload_0, ri_aloadN_0, n_94_1, gf_61005_0, n_94_4, ri_V, n_94_7, rt_94, ent_n, ent_i, ent_l, ent_r, ent_u, tL_n, tL_s, ap_n, ap_c, b01, b01L, ite_not, z10, cA0, cB0, cC0, cD0, cE0, cF0, cA1, cB1, cC1, cD1, cE1, cF1, cA2, cB2, cC2, cD2, cE2, cF2, cA3, cB3, cC3, cD3, cE3, cF3, vinT, vinN, li_clamp, iN_clamp, ↓reduceIte, if_true, if_false, iN_add1, iL_add, lI_add, iN_add, lI_mul, iL_mul, iN_mul, iN_sub, iL_sub, lI_sub, and_self, and_true, true_and, and_false, false_and, z10L, lc_eq, lc_lt, lc_le, lc_ge, lc_gt]
    exact K2
  · obtain ⟨ft, fr, w, rfl, w12, w1, w2⟩ := p
    have mf2 : MF (u2 J 106 0 0) M h (hisC I) (ngC I L) := (MF.fr mf (a0 := 44) fr (by decide) (by decide)).fi (fun k => (congrFun (u2_a (by decide)) k).trans (ft 107 k (by decide) (by decide) (by decide))) ((congrFun (u2_a (by decide)) 4).trans (ft 114 4 (by decide) (by decide) (by decide)))
    simp (maxSteps := 2000000) (disch := first | rfl | exact Nat.le_of_ble_eq_true rfl | assumption | omega) only [n_193_0, ri_aload_0, ri_aloadN_0, n_193_1, ric_0, n_193_2, pf_1141100_106, n_193_5, n_193_6, rlc_0, n_193_7, ri_V, n_193_10, n_193_11, n_193_12, ric_1, n_193_13, n_193_16, rt_193, ent_n, ent_i, ent_l, ent_r, ent_u, tL_n, tL_s, ap_n, ap_c, b01, b01L, ite_not, z10, cA0, cB0, cC0, cD0, cE0, cF0, cA1, cB1, cC1, cD1, cE1, cF1, cA2, cB2, cC2, cD2, cE2, cF2, cA3, cB3, cC3, cD3, cE3, cF3, vinT, vinN, li_clamp, iN_clamp, ↓reduceIte, if_true, if_false, iN_add1, iL_add, lI_add, iN_add, lI_mul, iL_mul, iN_mul, iN_sub, iL_sub, lI_sub, and_self, and_true, true_and, and_false, false_and, z10L, lc_eq, lc_lt, lc_le, lc_ge, lc_gt, u2_s, u2_k, u2_a, u2_T1, u2_T2, u2_T3, u2_T4, u2_T5, u2_T6, u2_T7, u2_T8]
    refine ic_194 (used := 0) mf2 rfl (Nat.le_of_ble_eq_true rfl) (fun O fr2 hN => ?_)
    simp (maxSteps := 2000000) (disch := first | rfl | exact Nat.le_of_ble_eq_true rfl | assumption | omega) only [n_193_0, ri_aload_0, ri_aloadN_0, n_193_1, ric_0, n_193_2, pf_1141100_106, n_193_5, n_193_6, rlc_0, n_193_7, ri_V, n_193_10, n_193_11, n_193_12, ric_1, n_193_13, n_193_16, rt_193, ent_n, ent_i, ent_l, ent_r, ent_u, tL_n, tL_s, ap_n, ap_c, b01, b01L, ite_not, z10, cA0, cB0, cC0, cD0, cE0, cF0, cA1, cB1, cC1, cD1, cE1, cF1, cA2, cB2, cC2, cD2, cE2, cF2, cA3, cB3, cC3, cD3, cE3, cF3, vinT, vinN, li_clamp, iN_clamp, ↓reduceIte, if_true, if_false, iN_add1, iL_add, lI_add, iN_add, lI_mul, iL_mul, iN_mul, iN_sub, iL_sub, lI_sub, and_self, and_true, true_and, and_false, false_and, z10L, lc_eq, lc_lt, lc_le, lc_ge, lc_gt, u2_s, u2_k, u2_a, u2_T1, u2_T2, u2_T3, u2_T4, u2_T5, u2_T6, u2_T7, u2_T8]
    refine ic_195 (fm := 0) (lo := 1) (Nat.zero_le _) (Or.inr rfl) (mf2.fr fr2 (by decide) (by decide)) (Nt := c0F h (hisC I) (ngC I L)) (fun t ht => by rw [hN t ht, and_m1]) rfl (Nat.le_of_ble_eq_true rfl) (fun O2 W fr3 wp => ?_)
    have key := fun m hm => WP_HL (m := m) (V := fun t => decide (¬ c0F h (hisC I) (ngC I L) t = 0)) wp h12 hm (fun t ht => by
      rw [decide_eq_true_eq, c0F_V]
      simp) (fun t ht n hn => c0F_z nz t n hn) (fun _ t ht q => V0 t ht (of_decide_eq_true q))
    have W12 : W ≤ 12 := (key 12 (by decide)).mpr (HL_12 (fun t ht q => V0 t ht (of_decide_eq_true q)))
    have ew : W = w := by
      rcases Nat.lt_trichotomy W w with q | q | q
      · exact absurd ((key W (by omega)).mp (Nat.le_refl _)) (w1 W q)
      · exact q
      · have := (key w (by omega)).mpr (w2 (by omega))
        omega
    subst ew
    have K2 := K (u2 J 106 0 0) O2 (inv_tk inv (fun a k z1 z2 z3 z4 => (if_neg z4 : (if a = 106 ∧ k = 0 then (0 : Int32) else J a k) = J a k).trans (ft a k z1 z2 z3)) (fun a k z1 z2 z3 => (fr3 a k z3).trans ((fr2 a k z2).trans (fr a k z1))))
    simp (maxSteps := 2000000) (disch := first | rfl | exact Nat.le_of_ble_eq_true rfl | assumption | omega) only [n_193_0, ri_aload_0, ri_aloadN_0, n_193_1, ric_0, n_193_2, pf_1141100_106, n_193_5, n_193_6, rlc_0, n_193_7, ri_V, n_193_10, n_193_11, n_193_12, ric_1, n_193_13, n_193_16, rt_193, ent_n, ent_i, ent_l, ent_r, ent_u, tL_n, tL_s, ap_n, ap_c, b01, b01L, ite_not, z10, cA0, cB0, cC0, cD0, cE0, cF0, cA1, cB1, cC1, cD1, cE1, cF1, cA2, cB2, cC2, cD2, cE2, cF2, cA3, cB3, cC3, cD3, cE3, cF3, vinT, vinN, li_clamp, iN_clamp, ↓reduceIte, if_true, if_false, iN_add1, iL_add, lI_add, iN_add, lI_mul, iL_mul, iN_mul, iN_sub, iL_sub, lI_sub, and_self, and_true, true_and, and_false, false_and, z10L, lc_eq, lc_lt, lc_le, lc_ge, lc_gt, u2_s, u2_k, u2_a, u2_T1, u2_T2, u2_T3, u2_T4, u2_T5, u2_T6, u2_T7, u2_T8]
    exact K2
end S78
