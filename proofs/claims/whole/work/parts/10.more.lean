theorem w_oinit1 : Cond.instanceMethod Lib.objectInit ∈ gTbl := hasG_in (p := 92) (by decide +kernel)
theorem w_oinit2 : Cond.code Lib.objectInit ⟨#[0xb1]⟩ 1 none ∈ gTbl := hasG_in (p := 93) (by decide +kernel)
theorem w_acp1 : Cond.static arraycopyName ∈ gTbl := hasG_in (p := 580) (by decide +kernel)
theorem w_acp2 : Cond.native arraycopyName ∈ gTbl := hasG_in (p := 581) (by decide +kernel)
theorem w_acp3 : Cond.initialized "java/lang/System" ∈ gTbl := by decide +kernel
theorem w_cl1 : Cond.sameMethod "[I" "java/lang/Object" "clone" "()Ljava/lang/Object;" ∈ gTbl := hasG_in (p := 229) (by decide +kernel)
theorem w_cl2 : Cond.native ⟨"java/lang/Object", "clone", "()Ljava/lang/Object;"⟩ ∈ gTbl := hasG_in (p := 230) (by decide +kernel)
theorem w_cl3 : Cond.instanceMethod ⟨"java/lang/Object", "clone", "()Ljava/lang/Object;"⟩ ∈ gTbl := hasG_in (p := 231) (by decide +kernel)
theorem w_cl4 : Cond.selects "[I" ⟨"[I", "clone", "()Ljava/lang/Object;"⟩ ⟨"java/lang/Object", "clone", "()Ljava/lang/Object;"⟩ ∈ gTbl := hasG_in (p := 232) (by decide +kernel)
theorem w_cl5 : Cond.castable "[I" "java/lang/Cloneable" ∈ lw_tbl := hasW_in (p := 233) (by decide +kernel)
theorem w_cl6 : Cond.classLink "OnlyBatteries$Facts" 30 "[I" ∈ gTbl := hasG_in (p := 234) (by decide +kernel)
theorem w_ma0 : Cond.initialized "java/lang/Math" ∈ gTbl := hasG_in (p := 78) (by decide +kernel)
theorem w_mi1 : Cond.static Lib.Math.min.name ∈ gTbl := hasG_in (p := 455) (by decide +kernel)
theorem w_mi2 : Cond.code Lib.Math.min.name Lib.Math.min.code 2 (some .int) ∈ gTbl := hasG_in (p := 456) (by decide +kernel)
theorem w_mx1 : Cond.static Lib.Math.max.name ∈ gTbl := hasG_in (p := 650) (by decide +kernel)
theorem w_mx2 : Cond.code Lib.Math.max.name Lib.Math.max.code 2 (some .int) ∈ gTbl := hasG_in (p := 651) (by decide +kernel)
theorem w_arr0 : Cond.arrayClass .int ∈ gTbl := hasG_in (p := 124) (by decide +kernel)
theorem w_arr1 : Cond.arrayClass .long ∈ gTbl := hasG_in (p := 152) (by decide +kernel)
theorem w_arr2 : Cond.arrayClass .byte ∈ gTbl := hasG_in (p := 123) (by decide +kernel)
theorem w_arr3 : Cond.arrayClass .boolean ∈ gTbl := hasG_in (p := 397) (by decide +kernel)
theorem seT_rg : seT.all (fun x => Nat.ble 1 x.2.2.1 && Nat.blt x.2.2.1 4) = true := by decide +kernel
theorem sl_app {K : List Kd} {x : Kd} : sl (K ++ [x]) = sl K + sz x := by simp [sl]
theorem cs_map {base : Nat} {ext : Nat → Nat} (st : List Value) : ((st.map (cv base ext)).map fun v => v.category).sum = cs st := by
  simp only [cs, List.map_map]
  congr 1
  apply List.map_congr_left
  intro v _
  exact cv_cat base ext v
theorem neg_of {n : Int32} (h : 0 ≤ n.toInt) : ¬ n < 0 := by
  rw [Int32.lt_iff_toInt_lt]
  simpa using h
theorem cl_le {n : Int32} {k : Nat} (h0 : 0 ≤ n.toInt) (h : n.toInt ≤ (k : Int)) : n.toNatClampNeg ≤ k := by
  show n.toInt.toNat ≤ k
  omega
section MORE
variable {p : Program} {l : Launch} {e : Env} {R : Room} {s : State} {m : MethodId} {args : Array Value} {below : List Frame} {meth : Method} {c : Code} {Q : State → Prop} {base : Nat} {ext : Nat → Nat} {DA : Nat → ClassId} {D : va_G} {E : EX} {n0 s0 M pc nx : Nat} {ls r : List Value} {h : AH}
theorem ss_ldcw (C : Cx p s m args meth c M) {n : Nat} {x : Nat × Nat × Int32 × Nat} (hx : kiT[n]? = some x) (hc : chkB M pc (.ldc_w n) nx = true) (k : WW p l e R s m args below meth c Q base ext DA D n0 s0 M nx ls (.int x.2.2.1 :: r) h) : WW p l e R s m args below meth c Q base ext DA D n0 s0 M pc ls r h := by
  obtain ⟨hlt, ins, len, hd, hr⟩ := chk_get (show chkR M pc (.ldc_w n) nx = true from hc)
  intro H locs arr hH hS hL
  have k1 := k H locs arr hH hS hL
  obtain ⟨w1, j, v, q⟩ := x
  have hw := C.2.2.2.2.2.2.2 _ (hasG_in (ki_ok hx))
  simp only [relB, Bool.and_eq_true] at hr
  obtain ⟨hn, hr⟩ := hr
  rw [Nat.mod_eq_of_lt hlt, Nat.eq_of_beq_eq_true hn] at k1
  rw [hx] at hr
  split at hr
  · next i w2 j2 v2 q2 he =>
    cases he
    simp only [Bool.and_eq_true] at hr
    obtain ⟨⟨h1, h2⟩, h3⟩ := hr
    rw [Nat.eq_of_beq_eq_true h1] at hd k1
    rw [Nat.eq_of_beq_eq_true h3] at hd
    dsimp only at hw
    rw [Nat.eq_of_beq_eq_true h2] at hw
    exact lv_ldc C.1 C.2.1 C.2.2.2.2.1 hw hd k1
  · next i w2 j2 v2 q2 he =>
    cases he
    simp only [Bool.and_eq_true] at hr
    obtain ⟨⟨h1, h2⟩, h3⟩ := hr
    rw [Nat.eq_of_beq_eq_true h1] at hd k1
    rw [Nat.eq_of_beq_eq_true h3] at hd
    dsimp only at hw
    rw [Nat.eq_of_beq_eq_true h2] at hw
    exact lv_ldcw C.1 C.2.1 C.2.2.2.2.1 hw hd k1
  · cases hr
theorem ss_ldc2w (C : Cx p s m args meth c M) {n : Nat} {x : Nat × Nat × Int64 × Nat} (hx : klT[n]? = some x) (hc : chkB M pc (.ldc2_w n) nx = true) (k : WW p l e R s m args below meth c Q base ext DA D n0 s0 M nx ls (.long x.2.2.1 :: r) h) : WW p l e R s m args below meth c Q base ext DA D n0 s0 M pc ls r h := by
  obtain ⟨hlt, ins, len, hd, hr⟩ := chk_get (show chkR M pc (.ldc2_w n) nx = true from hc)
  intro H locs arr hH hS hL
  have k1 := k H locs arr hH hS hL
  obtain ⟨w1, j, v, q⟩ := x
  have hw := C.2.2.2.2.2.2.2 _ (hasG_in (kl_ok hx))
  simp only [relB, Bool.and_eq_true] at hr
  obtain ⟨⟨hn, h1⟩, hr⟩ := hr
  rw [Nat.mod_eq_of_lt hlt, Nat.eq_of_beq_eq_true hn] at k1
  rw [Nat.eq_of_beq_eq_true h1] at hd
  rw [hx] at hr
  split at hr
  · next i w2 j2 v2 q2 he =>
    cases he
    simp only [Bool.and_eq_true] at hr
    obtain ⟨h2, h3⟩ := hr
    rw [Nat.eq_of_beq_eq_true h3] at hd
    dsimp only at hw
    rw [Nat.eq_of_beq_eq_true h2] at hw
    exact lv_ldc2 C.1 C.2.1 C.2.2.2.2.1 hw hd k1
  · cases hr
theorem ss_ldcS (C : Cx p s m args meth c M) (w : Wd base ext DA D E s) {n : Nat} (hc : chkB M pc (.ldc n) nx = true) (k : WW p l e R s m args below meth c Q base ext DA D n0 s0 M nx ls (.ref (1000010 + n % 100) :: r) h) : WW p l e R s m args below meth c Q base ext DA D n0 s0 M pc ls r h := by
  obtain ⟨hlt, ins, len, hd, hr⟩ := chk_get (show chkR M pc (.ldc n) nx = true from hc)
  intro H locs arr hH hS hL
  have k1 := k H locs arr hH hS hL
  simp only [relB, Bool.and_eq_true] at hr
  obtain ⟨⟨hn, h1⟩, hr⟩ := hr
  rw [Nat.mod_eq_of_lt hlt, Nat.eq_of_beq_eq_true hn] at k1
  rw [Nat.eq_of_beq_eq_true h1] at hd
  split at hr
  · next i w2 j2 v2 q2 he =>
    simp only [Bool.and_eq_true] at hr
    obtain ⟨⟨h2, h3⟩, h4⟩ := hr
    have hw := w.2.2.2.2.1 _ (List.mem_of_getElem? he)
    dsimp only at hw
    rw [Nat.eq_of_beq_eq_true h2] at hw
    rw [Nat.eq_of_beq_eq_true h3] at hd
    have h4 := Nat.eq_of_beq_eq_true h4
    have e1 : ((Value.ref (1000010 + n % 100) :: r).map (cv base ext)) = .ref (ext (10 + v2)) :: r.map (cv base ext) := by
      rw [List.map_cons]
      simp only [cv]
      rw [ca_ge (by omega), show 1000010 + n % 100 - 1000000 = 10 + v2 by omega]
    rw [e1] at k1
    exact va_ldcS C.1 C.2.1 C.2.2.2.2.1 hw hd k1
  · cases hr
theorem ss_gets (C : Cx p s m args meth c M) (w : Wd base ext DA D E s) {n : Nat} (hc : chkB M pc (.getstatic n) nx = true) (k : WW p l e R s m args below meth c Q base ext DA D n0 s0 M nx ls (.ref (1000000 + n % 100) :: r) h) : WW p l e R s m args below meth c Q base ext DA D n0 s0 M pc ls r h := by
  obtain ⟨hlt, ins, len, hd, hr⟩ := chk_get (show chkR M pc (.getstatic n) nx = true from hc)
  intro H locs arr hH hS hL
  have k1 := k H locs arr hH hS hL
  simp only [relB, Bool.and_eq_true] at hr
  obtain ⟨⟨hn, h1⟩, hr⟩ := hr
  rw [Nat.mod_eq_of_lt hlt, Nat.eq_of_beq_eq_true hn] at k1
  rw [Nat.eq_of_beq_eq_true h1] at hd
  split at hr
  · next i w2 j2 v2 q2 nest he =>
    simp only [Bool.and_eq_true] at hr
    obtain ⟨⟨h2, h3⟩, h4⟩ := hr
    have hg := List.all_eq_true.mp seT_rg _ (List.mem_of_getElem? he)
    simp only [Bool.and_eq_true] at hg
    have g1 : 1 ≤ v2 := Nat.le_of_ble_eq_true hg.1
    have g2 : v2 < 4 := of_decide_eq_true (by simpa [Nat.blt_eq] using hg.2)
    have hF := se_ok he
    have h2 := Nat.eq_of_beq_eq_true h2
    rw [Nat.eq_of_beq_eq_true h3] at hd
    have h4 := Nat.eq_of_beq_eq_true h4
    have hZ := w.2.2.2.1 v2 g1 g2
    have e1 : ((Value.ref (1000000 + n % 100) :: r).map (cv base ext)) = .ref (ext v2) :: r.map (cv base ext) := by
      rw [List.map_cons]
      simp only [cv]
      rw [ca_ge (by omega), show 1000000 + n % 100 - 1000000 = v2 by omega]
    rw [e1] at k1
    simp only [chkSe] at hF
    rw [h2] at hF
    cases nest
    · exact va_gets C.1 C.2.1 hZ hS C.2.2.2.2.1 (C.2.2.2.2.2.2.2 _ (hasG_in hF)) (fun _ q => q) hd k1
    · exact va_getsN C.1 C.2.1 hZ hS C.2.2.2.2.1 (va_Nw.use rfl (w.2.1 _ (hasW_in hF) rfl)) (fun _ q => q) hd k1
  · cases hr
theorem inR_of {t : Int} (h : inR t = true) : 0 ≤ t ∧ t < 10000 := of_decide_eq_true h
theorem ss_tswitch (C : Cx p s m args meth c M) {d lo hi : Int} {os : Array Int} {x : Int32} {t : Nat} (ht : swT d lo hi os.toList x.toInt = some t) (hc : chkB M pc (.tableswitch d lo hi os) nx = true) (k : WW p l e R s m args below meth c Q base ext DA D n0 s0 M t ls r h) : WW p l e R s m args below meth c Q base ext DA D n0 s0 M pc ls (.int x :: r) h := by
  obtain ⟨hlt, ins, len, hd, hr⟩ := chk_get (show chkR M pc (.tableswitch d lo hi os) nx = true from hc)
  intro H locs arr hH hS hL
  have k1 := k H locs arr hH hS hL
  simp only [relB, Bool.and_eq_true] at hr
  obtain ⟨⟨hid, hio⟩, hr⟩ := hr
  have hid := inR_of hid
  split at hr
  · next d2 lo2 hi2 os2 =>
    simp only [Bool.and_eq_true, decide_eq_true_eq] at hr
    obtain ⟨⟨⟨⟨rfl, rfl⟩, he⟩, ho⟩, -⟩ := hr
    unfold swT at ht
    split at ht
    · next hq =>
      cases ht
      rw [Nat.mod_eq_of_lt (by omega)] at k1
      exact lv_tableOut C.1 C.2.1 hd hq (he.trans (by omega)) k1
    · next hq =>
      cases hz : os.toList[(x.toInt - lo2).toNat]? with
      | none => rw [hz] at ht; cases ht
      | some t2 =>
        rw [hz] at ht
        have ht2 : t2.toNat = t := Option.some.inj ht
        have hin := inR_of (List.all_eq_true.mp hio t2 (List.mem_of_getElem? hz))
        rw [← ho, List.getElem?_map] at hz
        cases hy : os2.toList[(x.toInt - lo2).toNat]? with
        | none => rw [hy] at hz; cases hz
        | some off =>
          rw [hy] at hz
          have hz : ((pc % 10000 : Nat) : Int) + off = t2 := Option.some.inj hz
          rw [Nat.mod_eq_of_lt (by omega), ← ht2] at k1
          exact lv_tableIn C.1 C.2.1 hd (fun q => hq (Or.inl q)) (fun q => hq (Or.inr q)) (by simpa using hy) (hz.trans (by omega)) k1
  · cases hr
theorem lkT_ok {rp : Nat} {x d : Int} : ∀ (ps : List (Int × Int)), (∀ q ∈ ps, 0 ≤ (rp : Int) + q.2) → 0 ≤ (rp : Int) + d → ((lkT ((rp : Int) + d) x (ps.map (fun q => (q.1, (rp : Int) + q.2))) : Nat) : Int) = (rp : Int) + Op.lookupswitch.offset ps d x
  | [], _, hd => by
    simp only [List.map_nil, lkT, Op.lookupswitch.offset_nil]
    omega
  | (a, o) :: ps, h, hd => by
    simp only [List.map_cons, lkT, Op.lookupswitch.offset_cons]
    by_cases e : a = x
    · have := h (a, o) List.mem_cons_self
      simp only at this
      simp [e]
      omega
    · have e2 : ¬ x = a := fun q => e q.symm
      simp only [e, e2, if_false]
      exact lkT_ok ps (fun q hq => h q (List.mem_cons_of_mem _ hq)) hd
theorem lkT_lt {d x : Int} : ∀ (ps : List (Int × Int)), (∀ q ∈ ps, q.2 < 10000) → d < 10000 → lkT d x ps < 10000
  | [], _, hd => by simp only [lkT]; omega
  | (a, o) :: ps, h, hd => by
    simp only [lkT]
    split
    · have := h (a, o) List.mem_cons_self
      simp only at this
      omega
    · exact lkT_lt ps (fun q hq => h q (List.mem_cons_of_mem _ hq)) hd
theorem ss_lswitch (C : Cx p s m args meth c M) {d : Int} {ps : Array (Int × Int)} {x : Int32} (hc : chkB M pc (.lookupswitch d ps) nx = true) (k : WW p l e R s m args below meth c Q base ext DA D n0 s0 M (lkT d x.toInt ps.toList) ls r h) : WW p l e R s m args below meth c Q base ext DA D n0 s0 M pc ls (.int x :: r) h := by
  obtain ⟨hlt, ins, len, hd, hr⟩ := chk_get (show chkR M pc (.lookupswitch d ps) nx = true from hc)
  intro H locs arr hH hS hL
  have k1 := k H locs arr hH hS hL
  simp only [relB, Bool.and_eq_true] at hr
  obtain ⟨⟨hid, hio⟩, hr⟩ := hr
  have hid := inR_of hid
  split at hr
  · next d2 ps2 =>
    simp only [Bool.and_eq_true, decide_eq_true_eq] at hr
    obtain ⟨⟨he, ho⟩, hp⟩ := hr
    have hio : ∀ q ∈ ps.toList, 0 ≤ q.2 ∧ q.2 < 10000 := fun q hq => inR_of (List.all_eq_true.mp hio q hq)
    have hlt2 : lkT d x.toInt ps.toList < 10000 := lkT_lt _ (fun q hq => (hio q hq).2) hid.2
    rw [Nat.mod_eq_of_lt hlt2] at k1
    refine lv_lookup C.1 C.2.1 hd hp rfl ?_ k1
    rw [← he, ← ho]
    refine (lkT_ok _ (fun q hq => ?_) (by omega)).symm
    have h9 := (hio (q.1, ((pc % 10000 : Nat) : Int) + q.2) (by rw [← ho]; exact List.mem_map.mpr ⟨q, hq, rfl⟩)).1
    exact h9
  · cases hr
theorem sl_set {K : List Kd} {a : Nat} {x y : Kd} (hx : K[a]? = some x) (e : sz y = sz x) : sl (K.set a y) = sl K := by
  unfold sl
  rw [List.map_set]
  have hal : a < K.length := (List.getElem?_eq_some_iff.mp hx).1
  congr 1
  apply List.ext_getElem?
  intro j
  by_cases hj : j = a
  · subst hj
    rw [List.getElem?_set_self (by rw [List.length_map]; exact hal), List.getElem?_map, hx, e]; rfl
  · rw [List.getElem?_set_ne (Ne.symm hj)]
theorem ss_aastore (C : Cx p s m args meth c M) (w : Wd base ext DA D E s) {a b t n ci : Nat} {rs rb : List Nat} {j : Int32} (hx : h.1[a]? = some (.inr (t, n, rs))) (hy : h.1[b]? = some (.inl (ci, rb))) (ht : (t = 4 ∧ ci = 6) ∨ (t = 5 ∧ ci = 0)) (hj : vinB j n = true) (hjl : j.toNatClampNeg < rs.length) (hc : chkB M pc .aastore nx = true) (k : WW p l e R s m args below meth c Q base ext DA D n0 s0 M nx ls r (h.1.set a (.inr (t, n, rs.set j.toNatClampNeg (b + 1))), h.2.1, h.2.2)) : WW p l e R s m args below meth c Q base ext DA D n0 s0 M pc ls (.ref b :: .int j :: .ref a :: r) h := by
  obtain ⟨hn, hd⟩ := chk_s (fun _ _ _ _ => rfl) (show chkR M pc .aastore nx = true from hc)
  intro H locs arr hH hS hL
  have k1 := fun H1 locs1 q1 q2 => k H1 locs1 arr q1 q2 hL
  simp only [List.length_set, sl_set hx (show sz (.inr (t, n, rs.set j.toNatClampNeg (b + 1))) = sz (.inr (t, n, rs)) from rfl), hn] at k1
  have hal := kd_lt hx
  have ha : a < 1000000 := Nat.lt_of_lt_of_le hal hH.1.2
  have hb : b < 1000000 := Nat.lt_of_lt_of_le (kd_lt hy) hH.1.2
  have e1 : ((Value.ref b :: Value.int j :: Value.ref a :: r).map (cv base ext)) = .ref (base + b) :: .int j :: .ref (base + a) :: r.map (cv base ext) := by rw [List.map_cons, List.map_cons, List.map_cons, cv_ref ha, cv_ref hb]; rfl
  rw [e1]
  have hvi := vin_of hj
  have hlt : j.toNatClampNeg < n := Nat.not_le.mp fun q => hvi (Or.inr q)
  have h0 : ¬ j < 0 := fun q => hvi (Or.inl q)
  obtain ⟨r', hr', cellV, g1, g2, g3, -⟩ := hH.2 b _ (cz_obj hy)
  have ht6 : t < 6 := by omega
  have hty : tyA t = .object r'.1 := by
    rcases ht with ⟨rfl, rfl⟩ | ⟨rfl, rfl⟩
    · cases hr'; rfl
    · cases hr'; rfl
  have hcls := (w.1.1.1 ci r' hr').2
  obtain ⟨hAr, hRA⟩ := w.1.1.2 t _ (tys_get DA ht6)
  rw [hty] at hRA
  obtain ⟨kA, comp, k1', k2, k3, -⟩ := hRA
  have hcomp : comp = D.1 ci := Option.some.inj (k3.symm.trans hcls.1)
  subst hcomp
  obtain ⟨kC, hkC, -⟩ := hcls.2
  have hce : cax base ext h a t n rs = (n, .inr (.inr (.inr (.inr (fun j => rva base ext (rs.getD j 0)))))) := by
    rcases ht with ⟨rfl, -⟩ | ⟨rfl, -⟩ <;> rfl
  have hcell : H[base + a]? = some (arrV (DA t) n (fun q => va_rf (rva base ext (rs.getD q 0)))) := by
    have h2 := hH.2 a _ (cz_arr hx)
    rw [hce] at h2
    exact h2
  refine W.aast C.1 C.2.1 hcell (fun q h => by cases h) (fun h => by cases h) k1' k2 rfl hkC ⟨h0, by rw [arrV_size]; exact hlt⟩ g1 (fun q h => by rw [g3] at h; cases h) (by rw [g2]; exact hkC) (by rw [g2]; exact va_assign hcls) rfl rfl hd fun H1 e1 z oq => ?_
  refine k1 H1 _ (hH.upd (a := a) (by simp) (fun i hi => ce_set hi) z (fun _ => ?_) oq) (hS.put z oq (Nat.le_add_right _ _))
  rw [ce_arr (t := t) (n := n) (rs := rs.set j.toNatClampNeg (b + 1)) (by simp [List.getElem?_set, hal])]
  show H1[base + a]? = some (vp_cell _ _)
  have hce2 : cax base ext (h.1.set a (.inr (t, n, rs.set j.toNatClampNeg (b + 1))), h.2.1, h.2.2) a t n (rs.set j.toNatClampNeg (b + 1)) = (n, .inr (.inr (.inr (.inr (fun q => rva base ext ((rs.set j.toNatClampNeg (b + 1)).getD q 0)))))) := by
    rcases ht with ⟨rfl, -⟩ | ⟨rfl, -⟩ <;> rfl
  rw [e1, hce2, vp_cell_q, arrV_store]
  congr 2
  funext q
  by_cases hq : q = j.toNatClampNeg
  · subst hq
    simp [updV, List.getD_eq_getElem?_getD, hjl, rva, va_rf, ca_lt hb]
  · simp [updV, hq, List.getD_eq_getElem?_getD, List.getElem?_set_ne (Ne.symm hq)]
theorem ss_new (C : Cx p s m args meth c M) (w : Wd base ext DA D E s) {n : Nat} (hlt6 : h.1.length < 1000000) (hn0 : n0 ≤ h.1.length) (hs0 : s0 ≤ sl h.1) (hRc : h.1.length + 1 - n0 ≤ R.cells) (hRs : sl h.1 + nF (n % 100) - s0 ≤ R.slots) (hc : chkB M pc (.new n) nx = true)
    (k : WW p l e R s m args below meth c Q base ext DA D n0 s0 M nx ls (.ref h.1.length :: r) (h.1 ++ [.inl (n % 100, List.replicate (nF (n % 100)) 0)], u1 h.2.1 h.1.length (fun _ => 0), u1 h.2.2 h.1.length (fun _ => 0))) : WW p l e R s m args below meth c Q base ext DA D n0 s0 M pc ls r h := by
  obtain ⟨hlt, ins, len, hd, hr⟩ := chk_get (show chkR M pc (.new n) nx = true from hc)
  intro H locs arr hH hS hL
  have k1 := fun H1 locs1 q1 q2 => k H1 locs1 arr q1 q2 hL
  simp only [relB, Bool.and_eq_true] at hr
  obtain ⟨⟨hn, h3⟩, hr⟩ := hr
  have hnx := (Nat.mod_eq_of_lt hlt).trans (Nat.eq_of_beq_eq_true hn)
  simp only [hnx] at k1
  rw [Nat.eq_of_beq_eq_true h3] at hd
  split at hr
  · next i w1 j ci q1 q2 q3 q4 hne =>
    simp only [Bool.and_eq_true] at hr
    obtain ⟨⟨h1, h2⟩, h4⟩ := hr
    have h1 := Nat.eq_of_beq_eq_true h1
    have h2 := Nat.eq_of_beq_eq_true h2
    have h4 := Nat.eq_of_beq_eq_true h4
    subst h2
    have hF := ne_ok hne
    simp only [chkN] at hF
    split at hF
    · next Cn T N hcl =>
      simp only [Bool.and_eq_true, decide_eq_true_eq] at hF
      obtain ⟨⟨⟨⟨f1, f2⟩, f3⟩, f4⟩, f5⟩ := hF
      rw [h1] at f1
      have hts := C.2.2.2.2.2.2.2
      have hok := cls_ok _ _ hcl
      subst h4
      have hK := w.1.1.1 _ _ hcl
      refine W.newc C.1 C.2.1 (n := N) C.2.2.2.2.1 (hts _ (hasG_in f1)) (by have q := hts _ (hasG_in f2); rw [f4] at q; exact q) (hts _ (hasG_in f3)) rfl hd (by omega) (by rw [f5] at hRs; omega) (fun cC kC g1 g2 g3 g4 => ?_)
      have hcC : cC = D.1 (n % 100) := Option.some.inj (g1.symm.trans hK.2.1)
      have k2 := k1 (H.push { cls := cC, slots := kC.instanceTypes.map defaultValue, vm := .none }) locs ?_ hS.pushed
      · rw [f5] at hRs
        refine W.cs (cells' := (h.1 ++ [(Sum.inl (n % 100, List.replicate (nF (n % 100)) 0) : Kd)]).length - n0) (slots' := sl (h.1 ++ [(Sum.inl (n % 100, List.replicate (nF (n % 100)) 0) : Kd)]) - s0) (by simp; omega) (by rw [sl_app]; simp only [sz]; omega) ?_
        have e1 : ((Value.ref h.1.length :: r).map (cv base ext)) = .ref H.size :: r.map (cv base ext) := by rw [List.map_cons, cv_ref hlt6, hH.1.1]
        rw [e1] at k2
        exact k2
      · refine hH.push hlt6 (fun i hi => ce_new hi) ?_
        have hcell : (H.push { cls := cC, slots := kC.instanceTypes.map defaultValue, vm := .none })[H.size]? = some (blank cC kC) := by rw [Array.getElem?_push_size]; rfl
        rw [ce_obj (ci := n % 100) (rs := List.replicate (nF (n % 100)) 0) (by simp)]
        refine ⟨_, hcl, ?_⟩
        rw [← hH.1.1]
        rw [hcC] at g2 hcell
        have hb := u_born (ws := gTbl) (args := args) (tyC (n % 100)) hts hok.1 hK g2 hcell hok.2.1
        refine (by rw [hcC]; exact hb : t_OB H.size (D.1 (n % 100)) N (D.2 (n % 100)) _ (fun k => defaultValue (tyC (n % 100) k))).to (fun kk hk => ?_)
        have hkn : kk < nF (n % 100) := by rw [f5]; exact hk
        simp only [vp_V]
        rw [List.getD_eq_getElem?_getD, cfl_get hkn]
        rcases fk_cases (hok.2.2.2.2 kk hk) with q | q | q
        · rw [fval_0 q.1, q.2.1]; simp [u1]; rfl
        · rw [fval_1 q.1, q.2.1]; simp [u1]; rfl
        · rw [fval_2 q.1]
          have e0 : (List.replicate (nF (n % 100)) 0).getD kk 0 = 0 := by
            rw [List.getD_eq_getElem?_getD, List.getElem?_replicate]
            split <;> rfl
          rw [e0]
          rcases q.2.2.2 with ⟨z, hz⟩ | ⟨z, hz⟩ <;> (rw [hz]; rfl)
    · cases hF
  · cases hr
theorem ss_newarray (C : Cx p s m args meth c M) (w : Wd base ext DA D E s) {a : ArrayType} {n : Int32} (hn1 : 0 ≤ n.toInt) (hn2 : n.toInt ≤ 65536) (hlt6 : h.1.length < 1000000) (hn0 : n0 ≤ h.1.length) (hs0 : s0 ≤ sl h.1) (hRc : h.1.length + 1 - n0 ≤ R.cells) (hRs : sl h.1 + n.toNatClampNeg - s0 ≤ R.slots) (hc : chkB M pc (.newarray a) nx = true)
    (k : WW p l e R s m args below meth c Q base ext DA D n0 s0 M nx ls (.ref h.1.length :: r) (h.1 ++ [.inr (atN a, n.toNatClampNeg, [])], u1 h.2.1 h.1.length (fun _ => 0), u1 h.2.2 h.1.length (fun _ => 0))) : WW p l e R s m args below meth c Q base ext DA D n0 s0 M pc ls (.int n :: r) h := by
  obtain ⟨hlt, ins, len, hd, hr⟩ := chk_get (show chkR M pc (.newarray a) nx = true from hc)
  intro H locs arr hH hS hL
  have k1 := fun H1 locs1 q1 q2 => k H1 locs1 arr q1 q2 hL
  simp only [relB, Bool.and_eq_true] at hr
  obtain ⟨⟨hn, h3⟩, hr⟩ := hr
  have hnx := (Nat.mod_eq_of_lt hlt).trans (Nat.eq_of_beq_eq_true hn)
  simp only [hnx] at k1
  rw [Nat.eq_of_beq_eq_true h3] at hd
  have hcl : n.toNatClampNeg ≤ 65536 := cl_le hn1 hn2
  split at hr
  · next b =>
    simp only [Bool.and_eq_true, decide_eq_true_eq] at hr
    obtain ⟨rfl, hr⟩ := hr
    have fin2 : ∀ (t : Nat) (ht : t < 4) (hw : Cond.arrayClass (newarray.typeOf b) ∈ gTbl) (hty : newarray.typeOf b = tyA t) (hat : atN b = t) (hcb : componentBytes (newarray.typeOf b) ≤ 8), W p l e R s m args below meth c H locs (h.1.length - n0) (sl h.1 - s0) Q (F0 m (pc % 10000) arr (.int n :: r.map (cv base ext))) := by
      intro t ht hw hty hat hcb
      refine W.newa C.1 C.2.1 (atype := b) (C.2.2.2.2.2.2.2 _ hw) rfl hd rfl (neg_of hn1) (Nat.le_trans (Nat.mul_le_mul hcl hcb) (by decide)) (by omega) (by omega) (fun cA kA comp g1 g2 g3 => ?_)
      have hRA := (w.1.1.2 t _ (tys_get DA (by omega))).2
      have hcA : cA = DA t := by
        rw [hty] at g1
        have h9 : s.vm.findClass ("[" ++ (tyA t).toString) = some (DA t) := by
          rcases (show t = 0 ∨ t = 1 ∨ t = 2 ∨ t = 3 by omega) with rfl | rfl | rfl | rfl <;> exact hRA
        exact Option.some.inj (g1.symm.trans h9)
      have k2 := k1 (H.push { cls := cA, slots := Array.replicate n.toNatClampNeg (defaultValue (newarray.typeOf b)), vm := .none }) locs ?_ hS.pushed
      · refine W.cs (cells' := (h.1 ++ [(Sum.inr (atN b, n.toNatClampNeg, []) : Kd)]).length - n0) (slots' := sl (h.1 ++ [(Sum.inr (atN b, n.toNatClampNeg, []) : Kd)]) - s0) (by simp; omega) (by rw [sl_app]; simp only [sz]; omega) ?_
        have e1 : ((Value.ref h.1.length :: r).map (cv base ext)) = .ref H.size :: r.map (cv base ext) := by rw [List.map_cons, cv_ref hlt6, hH.1.1]
        rw [e1] at k2
        exact k2
      · refine hH.push hlt6 (fun i hi => ce_new hi) ?_
        rw [ce_arr (t := atN b) (n := n.toNatClampNeg) (rs := []) (by simp)]
        show (H.push _)[base + h.1.length]? = some (vp_cell _ _)
        rw [← hH.1.1, Array.getElem?_push_size, hcA, hty, hat, arrV_new]
        rcases (show t = 0 ∨ t = 1 ∨ t = 2 ∨ t = 3 by omega) with rfl | rfl | rfl | rfl <;>
          (refine congrArg some ?_
           simp only [cax]
           first | rw [vp_cell_i] | rw [vp_cell_l]
           congr 1
           funext q
           simp [u1, tyA]
           rfl)
    have e0 : ((Value.int n :: r).map (cv base ext)) = .int n :: r.map (cv base ext) := rfl
    rw [e0]
    cases b
    case int => exact fin2 0 (by decide) w_arr0 rfl rfl (by decide)
    case long => exact fin2 1 (by decide) w_arr1 rfl rfl (by decide)
    case byte => exact fin2 2 (by decide) w_arr2 rfl rfl (by decide)
    case boolean => exact fin2 3 (by decide) w_arr3 rfl rfl (by decide)
    all_goals cases hr
  · cases hr
theorem ss_anewarray (C : Cx p s m args meth c M) (w : Wd base ext DA D E s) {i : Nat} {n : Int32} (hn1 : 0 ≤ n.toInt) (hn2 : n.toInt ≤ 65536) (hlt6 : h.1.length < 1000000) (hn0 : n0 ≤ h.1.length) (hs0 : s0 ≤ sl h.1) (hRc : h.1.length + 1 - n0 ≤ R.cells) (hRs : sl h.1 + n.toNatClampNeg - s0 ≤ R.slots) (hc : chkB M pc (.anewarray i) nx = true)
    (k : WW p l e R s m args below meth c Q base ext DA D n0 s0 M nx ls (.ref h.1.length :: r) (h.1 ++ [.inr (i % 100, n.toNatClampNeg, List.replicate n.toNatClampNeg 0)], u1 h.2.1 h.1.length (fun _ => 0), u1 h.2.2 h.1.length (fun _ => 0))) : WW p l e R s m args below meth c Q base ext DA D n0 s0 M pc ls (.int n :: r) h := by
  obtain ⟨hlt, ins, len, hd, hr⟩ := chk_get (show chkR M pc (.anewarray i) nx = true from hc)
  intro H locs arr hH hS hL
  have k1 := fun H1 locs1 q1 q2 => k H1 locs1 arr q1 q2 hL
  simp only [relB, Bool.and_eq_true] at hr
  obtain ⟨⟨hn, h3⟩, hr⟩ := hr
  have hnx := (Nat.mod_eq_of_lt hlt).trans (Nat.eq_of_beq_eq_true hn)
  simp only [hnx] at k1
  rw [Nat.eq_of_beq_eq_true h3] at hd
  have hcl : n.toNatClampNeg ≤ 65536 := cl_le hn1 hn2
  split at hr
  · next i2 w1 j t q1 q2 hae =>
    simp only [Bool.and_eq_true] at hr
    obtain ⟨⟨h1, h2⟩, h4⟩ := hr
    have h1 := Nat.eq_of_beq_eq_true h1
    have h2 := Nat.eq_of_beq_eq_true h2
    have h4 := Nat.eq_of_beq_eq_true h4
    subst h2
    have hF := ae_ok hae
    have fin2 : ∀ (Cn : String) (ht : t = 4 ∨ t = 5) (hw : Cond.classLink (ownS (owM M)) i2 Cn ∈ gTbl) (hov : va_AO Cn s) (hty : tyA t = .object Cn), W p l e R s m args below meth c H locs (h.1.length - n0) (sl h.1 - s0) Q (F0 m (pc % 10000) arr (.int n :: r.map (cv base ext))) := by
      intro Cn ht hw hov hty
      refine W.anew C.1 C.2.1 C.2.2.2.2.1 (C.2.2.2.2.2.2.2 _ hw) (va_AO.use hov) rfl hd rfl (neg_of hn1) (Nat.le_trans (Nat.mul_le_mul hcl (Nat.le_refl 4)) (by decide)) (by omega) (by omega) (fun cA kA comp g1 g2 g3 g4 => ?_)
      have hRA := (w.1.1.2 t _ (tys_get DA (by omega))).2
      rw [hty] at hRA
      obtain ⟨kA2, comp2, a1, a2, a3, a4⟩ := hRA
      have hcA : cA = DA t := Option.some.inj (g1.symm.trans a4)
      have k2 := k1 (H.push { cls := cA, slots := Array.replicate n.toNatClampNeg .null, vm := .none }) locs ?_ hS.pushed
      · refine W.cs (cells' := (h.1 ++ [(Sum.inr (i % 100, n.toNatClampNeg, List.replicate n.toNatClampNeg 0) : Kd)]).length - n0) (slots' := sl (h.1 ++ [(Sum.inr (i % 100, n.toNatClampNeg, List.replicate n.toNatClampNeg 0) : Kd)]) - s0) (by simp; omega) (by rw [sl_app]; simp only [sz]; omega) ?_
        have e1 : ((Value.ref h.1.length :: r).map (cv base ext)) = .ref H.size :: r.map (cv base ext) := by rw [List.map_cons, cv_ref hlt6, hH.1.1]
        rw [e1] at k2
        exact k2
      · refine hH.push hlt6 (fun i hi => ce_new hi) ?_
        rw [ce_arr (t := i % 100) (n := n.toNatClampNeg) (rs := List.replicate n.toNatClampNeg 0) (by simp)]
        show (H.push _)[base + h.1.length]? = some (vp_cell _ _)
        rw [← hH.1.1, Array.getElem?_push_size, hcA, ← h4, arrV_new]
        have e0 : (fun j => va_rf (rva base ext ((List.replicate n.toNatClampNeg 0).getD j 0))) = (fun _ => Value.null) := by
          funext q
          have : (List.replicate n.toNatClampNeg 0).getD q 0 = 0 := by
            rw [List.getD_eq_getElem?_getD, List.getElem?_replicate]
            split <;> rfl
          rw [this]; rfl
        rcases ht with rfl | rfl
        · refine congrArg some ?_
          show _ = vp_cell _ (_, _)
          rw [vp_cell_q, e0]
        · refine congrArg some ?_
          show _ = vp_cell _ (_, _)
          rw [vp_cell_q, e0]
    have e0 : ((Value.int n :: r).map (cv base ext)) = .int n :: r.map (cv base ext) := rfl
    rw [e0]
    simp only [chkA] at hF
    split at hF
    · simp only [Bool.and_eq_true] at hF
      rw [h1] at hF
      exact fin2 _ (Or.inl rfl) (hasG_in hF.1) w.1.2.1 rfl
    · simp only [Bool.and_eq_true] at hF
      rw [h1] at hF
      exact fin2 _ (Or.inr rfl) (hasG_in hF.1) w.1.2.2 rfl
    · cases hF
  · cases hr
end MORE
