theorem ca_lt {base : Nat} {ext : Nat → Nat} {a : Nat} (h : a < 1000000) : ca base ext a = base + a := by simp [ca, h]
theorem ca_ge {base : Nat} {ext : Nat → Nat} {a : Nat} (h : ¬ a < 1000000) : ca base ext a = ext (a - 1000000) := by simp [ca, h]
theorem cv_ref {base : Nat} {ext : Nat → Nat} {a : Nat} (h : a < 1000000) : cv base ext (.ref a) = .ref (base + a) := by simp [cv, ca_lt h]
theorem vin_of {j : Int32} {n : Nat} (h : vinB j n = true) : vp_in j n := vp_in_iff.mpr (of_decide_eq_true h)
section HEAPL
variable {base : Nat} {ext : Nat → Nat} {DA : Nat → ClassId} {D : va_G}
theorem cfl_ext {h h1 : AH} {i ci : Nat} {rs rs1 : List Nat} {k : Nat} {v : Value} (hk : k < nF ci)
    (hv : fval base ext h1 i ci rs1 k = v)
    (hne : ∀ j, j ≠ k → h1.2.1 i j = h.2.1 i j ∧ h1.2.2 i j = h.2.2 i j ∧ rs1.getD j 0 = rs.getD j 0) : cfl base ext h1 i ci rs1 = (cfl base ext h i ci rs).set k v := by
  apply List.ext_getElem?
  intro j
  by_cases hj : j < nF ci
  · by_cases e : j = k
    · subst e
      rw [List.getElem?_set_self (by rw [cfl_len]; exact hj), cfl_get hj, hv]
    · rw [List.getElem?_set_ne (Ne.symm e), cfl_get hj, cfl_get hj]
      obtain ⟨e1, e2, e3⟩ := hne j e
      simp only [fval, e1, e2, e3]
  · rw [List.getElem?_eq_none (by rw [cfl_len]; omega), List.getElem?_eq_none (by rw [List.length_set, cfl_len]; omega)]
end HEAPL
section HEAPS
variable {p : Program} {l : Launch} {e : Env} {R : Room} {s : State} {m : MethodId} {args : Array Value} {below : List Frame} {meth : Method} {c : Code} {Q : State → Prop} {base : Nat} {ext : Nat → Nat} {DA : Nat → ClassId} {D : va_G} {E : EX} {n0 s0 M pc nx : Nat} {ls r : List Value} {h : AH}
/-- a field access: what the tables say of it -/
theorem fld_get (C : Cx p s m args meth c M) (w : Wd base ext DA D E s) {n i : Nat} {x : Nat × Nat × Nat × Nat × Nat × Bool} (hfe : feT[n / 10000]? = some x)
    (hr : (match (some x : Option (Nat × Nat × Nat × Nat × Nat × Bool)) with
      | some (w, j, ci, k, _, _) => Nat.beq w (owM M) && Nat.beq i j && Nat.beq ci (n % 10000 / 100) && Nat.beq k (n % 100)
      | none => false) = true) :
    ∃ (Cn : String) (T : u_T) (N : Nat), clsL[n % 10000 / 100]? = some (Cn, T, N) ∧ n % 100 < N ∧ ClsOk (n % 10000 / 100) (Cn, T, N) ∧
      ((Cond.fieldLink (ownS (owM M)) i (T (n % 100)).1 (T (n % 100)).2.1 (T (n % 100)).2.2.1).before args s = true ∨ (Cond.fieldLinkNest (ownS (owM M)) i (T (n % 100)).1 (T (n % 100)).2.1 (T (n % 100)).2.2.1 "OnlyBatteries").before args s = true) := by
  obtain ⟨w1, j, ci, k, q, nest⟩ := x
  simp only [Bool.and_eq_true] at hr
  obtain ⟨⟨⟨h1, h2⟩, h3⟩, h4⟩ := hr
  have h1 := Nat.eq_of_beq_eq_true h1
  have h2 := Nat.eq_of_beq_eq_true h2
  have h3 := Nat.eq_of_beq_eq_true h3
  have h4 := Nat.eq_of_beq_eq_true h4
  have hF := fe_ok hfe
  simp only [chkF] at hF
  rw [h3] at hF
  split at hF
  · next Cn T N hcl =>
    simp only [Bool.and_eq_true] at hF
    obtain ⟨hk, hw⟩ := hF
    have hk : k < N := of_decide_eq_true (by simpa [Nat.blt_eq] using hk)
    rw [h4] at hk hw
    rw [h1, ← h2] at hw
    refine ⟨Cn, T, N, hcl, hk, cls_ok _ _ hcl, ?_⟩
    cases nest
    · exact Or.inl (C.2.2.2.2.2.2.2 _ (hasG_in hw))
    · exact Or.inr (va_Nw.use rfl (w.2.1 _ (hasW_in hw) rfl))
  · cases hF
theorem fk_cases {ci k : Nat} {T : u_T} {Cn : String} (h : fkOk ci k T Cn = true) : (fk ci k = 0 ∧ tyC ci k = .int ∧ (T k).2.2.2 = false) ∨ (fk ci k = 1 ∧ tyC ci k = .long ∧ (T k).2.2.2 = false) ∨ (fk ci k = 2 ∧ (T k).2.2.2 = true ∧ (T k).1 = Cn ∧ ((∃ n, tyC ci k = .object n) ∨ ∃ t, tyC ci k = .array t)) := by
  unfold fkOk at h
  split at h
  · next e =>
    simp only [Bool.and_eq_true, decide_eq_true_eq, Bool.not_eq_true'] at h
    exact Or.inl ⟨e, h.1, h.2⟩
  · next e =>
    simp only [Bool.and_eq_true, decide_eq_true_eq, Bool.not_eq_true'] at h
    exact Or.inr (Or.inl ⟨e, h.1, h.2⟩)
  · next e =>
    simp only [Bool.and_eq_true, decide_eq_true_eq] at h
    refine Or.inr (Or.inr ⟨e, h.1.1, h.1.2, ?_⟩)
    have h2 := h.2
    split at h2
    · next q => exact Or.inl ⟨_, q⟩
    · next q => exact Or.inr ⟨_, q⟩
    · cases h2
  · cases h
theorem ss_getfield (C : Cx p s m args meth c M) (w : Wd base ext DA D E s) {n a ci : Nat} {rs : List Nat} {v : Value} (hx : h.1[a]? = some (.inl (ci, rs))) (hci : ci = n % 10000 / 100)
    (hv : fval base ext h a ci rs (n % 100) = cv base ext v) (hc : chkB M pc (.getfield n) nx = true) (k : WW p l e R s m args below meth c Q base ext DA D n0 s0 M nx ls (v :: r) h) : WW p l e R s m args below meth c Q base ext DA D n0 s0 M pc ls (.ref a :: r) h := by
  obtain ⟨hlt, ins, len, hd, hr⟩ := chk_get (show chkR M pc (.getfield n) nx = true from hc)
  intro H locs arr hH hS hL
  have k1 := k H locs arr hH hS hL
  simp only [relB, Bool.and_eq_true] at hr
  obtain ⟨⟨hn, h3⟩, hr⟩ := hr
  rw [Nat.mod_eq_of_lt hlt, Nat.eq_of_beq_eq_true hn] at k1
  rw [Nat.eq_of_beq_eq_true h3] at hd
  have ha : a < 1000000 := Nat.lt_of_lt_of_le (kd_lt hx) hH.1.2
  subst hci
  split at hr
  · next i w1 j ci2 k2 q nest hfe =>
    obtain ⟨Cn, T, N, hcl, hk, hok, hw⟩ := fld_get C w hfe hr
    have hvv : (cfl base ext h a (n % 10000 / 100) rs)[n % 100]? = some (cv base ext v) := by rw [cfl_get (by rw [hok.2.2.2.1]; exact hk), hv]
    have hg : W p l e R s m args below meth c H locs (h.1.length - n0) (sl h.1 - s0) Q (F0 m (pc % 10000) arr (.ref (base + a) :: r.map (cv base ext))) := by
      rcases hw with hw | hw
      · exact va_get C.1 C.2.1 (Ts := gTbl) C.2.2.2.2.2.2.2 hok.1 C.2.2.2.2.1 w.1.1 hH.2 a (cz_obj hx) hcl (n % 100) hk hw (fun _ q => q) hvv hd k1
      · exact va_getN C.1 C.2.1 (Ts := gTbl) C.2.2.2.2.2.2.2 hok.1 C.2.2.2.2.1 w.1.1 hH.2 a (cz_obj hx) hcl (n % 100) hk hw (fun _ q => q) hvv hd k1
    have e1 : ((Value.ref a :: r).map (cv base ext)) = .ref (base + a) :: r.map (cv base ext) := by rw [List.map_cons, cv_ref ha]
    rw [e1]
    exact hg
  · cases hr
theorem put_gen (C : Cx p s m args meth c M) (w : Wd base ext DA D E s) {H : Heap} {locs : List Loc} {cells slots : Nat} {arr : Array Slot} {rest : List Value} {n a i : Nat} {rs : List Nat} {v : Value} {h1 : AH} (hH : Hold base ext DA D h H) (hS : va_S (Ab base) s.heap H locs)
    (hx : h.1[a]? = some (.inl (n % 10000 / 100, rs))) {Cn : String} {T : u_T} {N : Nat} (hcl : clsL[n % 10000 / 100]? = some (Cn, T, N)) (hk : n % 100 < N) (hok : ClsOk (n % 10000 / 100) (Cn, T, N))
    (hw : (Cond.fieldLink (ownS (owM M)) i (T (n % 100)).1 (T (n % 100)).2.1 (T (n % 100)).2.2.1).before args s = true ∨ ((T (n % 100)).2.2.2 = false ∧ (Cond.fieldLinkNest (ownS (owM M)) i (T (n % 100)).1 (T (n % 100)).2.1 (T (n % 100)).2.2.1 "OnlyBatteries").before args s = true))
    (hfin : (T (n % 100)).2.2.2 = false ∨ ((T (n % 100)).2.2.2 = true ∧ meth.name = "<init>" ∧ (T (n % 100)).1 = ownS (owM M))) (hnar : narrow (tyC (n % 10000 / 100) (n % 100)) v = v) (hfit : fits (tyC (n % 10000 / 100) (n % 100)) v = true)
    (hlen : h1.1.length = h.1.length) (hne : ∀ j, j ≠ a → ce base ext DA h1 j = ce base ext DA h j) (hce : ce base ext DA h1 a = .inr (n % 10000 / 100, (cfl base ext h a (n % 10000 / 100) rs).set (n % 100) v))
    (hd : decode (bM M) (pc % 10000) = .ok (.putfield i, 3)) (kk : ∀ (H1 : Heap) (locs1 : List Loc), Hold base ext DA D h1 H1 → va_S (Ab base) s.heap H1 locs1 → W p l e R s m args below meth c H1 locs1 cells slots Q (F0 m (pc % 10000 + 3) arr rest)) :
    W p l e R s m args below meth c H locs cells slots Q (F0 m (pc % 10000) arr (v :: .ref (base + a) :: rest)) := by
  have hts := C.2.2.2.2.2.2.2
  have hown := C.2.2.2.2.1
  have hap := va_apart (own := ownS (owM M)) (Ts := gTbl) hts hok.1 (tyC (n % 10000 / 100)) hok.2.1 hok.2.2.1 w.1.1 hcl
  obtain ⟨r1, q0, cell, q1, q2, q3, q4⟩ := hH.2 a _ (cz_obj hx)
  have hr1 : r1 = (Cn, T, N) := Option.some.inj (q0.symm.trans hcl)
  subst hr1
  obtain ⟨hSl, hfc, kC, hkC, hkind⟩ := w.1.1.1 (n % 10000 / 100) _ hcl
  obtain ⟨cf, kf, fi, f, hi, hsl⟩ := hSl (n % 100) hk
  have hlays := u_lays (ws := gTbl) (args := args) (s := s) hts hok.1 hk
  have hst := (u_facts hfc hkC hlays hi).1
  have hl : n % 100 < (cfl base ext h a (n % 10000 / 100) rs).length := by rw [cfl_len, hok.2.2.2.1]; exact hk
  have fin2 : ∀ H1 : Heap, H1[base + a]? = some (cell.setSlot f.slot v) → H1.size = H.size → (∀ q, q ≠ base + a → H1[q]? = H[q]?) → W p l e R s m args below meth c H1 (locs ++ [⟨base + a, f.slot⟩]) cells slots Q (F0 m (pc % 10000 + 3) arr rest) := by
    intro H1 e1 e2 e3
    refine kk H1 _ (hH.upd (a := a) hlen hne e2 (fun _ => ?_) e3) (hS.put e2 e3 (Nat.le_add_right _ _))
    rw [hce]
    refine ⟨_, hcl, ?_⟩
    rw [hsl] at e1
    exact t_OB.to (V := updV (vp_V (cfl base ext h a (n % 10000 / 100) rs)) (n % 100) v) ⟨_, e1, q2, q3, t_set q4 hap hk v⟩ (fun j _ => vp_updV_set hl v j)
  have hlt : f.slot < cell.slots.size := by rw [hsl]; exact k2_hasslot (q4 _ hk)
  rcases hfin with hfin | ⟨hfin, hin2, hdecl⟩
  · have hlay := hts _ (hok.1 _ (u_in_lay hk))
    unfold u_lay at hlay
    rw [if_neg (by rw [hfin]; decide)] at hlay
    have h6 := u_store hfc hkC hkind hlay hi (hok.2.1 _ hk) hnar hfit
    rcases hw with hw | ⟨-, hw⟩
    · exact W.putK C.1 C.2.1 (f := f) ⟨hown, hw, ⟨_, _, _, hi⟩, hst⟩ (by rw [q2]; exact h6) q1 q3 hlt rfl rfl hd fin2
    · exact va_WputK C.1 C.2.1 (f := f) hown hw hi hst (by rw [q2]; exact h6) q1 q3 hlt rfl rfl hd fin2
  · have hlay := hts _ (hok.1 _ (u_in_lay hk))
    unfold u_lay at hlay
    rw [if_pos hfin] at hlay
    have hcf : m.cls = cf := by
      obtain ⟨_, _, c', _, _, _, -, -, hf', -, -, -, hown2, -⟩ := Cond.laysFinal_spec hlay
      have e1 : c' = cf := by have := hi.symm.trans hf'; simp at this; exact this.1.symm
      rw [hdecl] at hown2
      rw [← e1]; exact Option.some.inj (hown.symm.trans hown2)
    have h6 := u_fits hfc hkC hkind (Or.inr hlay) hi (hok.2.1 _ hk) hnar hfit
    rcases hw with hw | ⟨hf0, -⟩
    · exact W.putFinK C.1 C.2.1 hown hw hi hst hcf hin2 (by rw [q2]; exact h6) q1 q3 hlt rfl rfl hd fin2
    · rw [hfin] at hf0; cases hf0
theorem ss_putI (C : Cx p s m args meth c M) (w : Wd base ext DA D E s) {n a ci : Nat} {rs : List Nat} {x : Int32} (hx : h.1[a]? = some (.inl (ci, rs))) (hci : ci = n % 10000 / 100) (hfk : fk ci (n % 100) = 0) (hc : chkB M pc (.putfield n) nx = true) (k : WW p l e R s m args below meth c Q base ext DA D n0 s0 M nx ls r (h.1, u2 h.2.1 a (n % 100) x, h.2.2)) : WW p l e R s m args below meth c Q base ext DA D n0 s0 M pc ls (.int x :: .ref a :: r) h := by
  obtain ⟨hlt, ins, len, hd, hr⟩ := chk_get (show chkR M pc (.putfield n) nx = true from hc)
  intro H locs arr hH hS hL
  have k1 := fun H1 locs1 q1 q2 => k H1 locs1 arr q1 q2 hL
  simp only [relB, Bool.and_eq_true] at hr
  obtain ⟨⟨hn, h3⟩, hr⟩ := hr
  rw [Nat.mod_eq_of_lt hlt, Nat.eq_of_beq_eq_true hn] at k1
  rw [Nat.eq_of_beq_eq_true h3] at hd
  have ha : a < 1000000 := Nat.lt_of_lt_of_le (kd_lt hx) hH.1.2
  subst hci
  split at hr
  · next i w1 j ci2 k2 q nest hfe =>
    obtain ⟨Cn, T, N, hcl, hk, hok, hw⟩ := fld_get C w hfe hr
    have hkn : n % 100 < nF (n % 10000 / 100) := by rw [hok.2.2.2.1]; exact hk
    rcases fk_cases (hok.2.2.2.2 _ hk) with q | q | q
    all_goals first
      | (rw [hfk] at q; exact absurd q.1 (by decide))
      | skip
    have e1 : ((.int x :: Value.ref a :: r).map (cv base ext)) = .int x :: .ref (base + a) :: r.map (cv base ext) := by rw [List.map_cons, List.map_cons, cv_ref ha]; rfl
    rw [e1]
    refine put_gen C w (h1 := (h.1, u2 h.2.1 a (n % 100) x, h.2.2)) hH hS hx hcl hk hok (hw.imp_right (fun z => ⟨q.2.2, z⟩)) (Or.inl q.2.2) (by rw [q.2.1]; rfl) (by rw [q.2.1]; rfl) rfl (fun j hj => ce_u2I hj) ?_ hd k1
    rw [ce_obj (h := (h.1, u2 h.2.1 a (n % 100) x, h.2.2)) (a := a) hx]
    refine congrArg (fun z => Sum.inr (n % 10000 / 100, z)) ?_
    refine cfl_ext hkn ?_ (fun j hj => ?_)
    · rw [fval_0 hfk]; simp [u2]
    · simp [u2, hj]
  · cases hr
theorem ss_putL (C : Cx p s m args meth c M) (w : Wd base ext DA D E s) {n a ci : Nat} {rs : List Nat} {x : Int64} (hx : h.1[a]? = some (.inl (ci, rs))) (hci : ci = n % 10000 / 100) (hfk : fk ci (n % 100) = 1) (hc : chkB M pc (.putfield n) nx = true) (k : WW p l e R s m args below meth c Q base ext DA D n0 s0 M nx ls r (h.1, h.2.1, u2 h.2.2 a (n % 100) x)) : WW p l e R s m args below meth c Q base ext DA D n0 s0 M pc ls (.long x :: .ref a :: r) h := by
  obtain ⟨hlt, ins, len, hd, hr⟩ := chk_get (show chkR M pc (.putfield n) nx = true from hc)
  intro H locs arr hH hS hL
  have k1 := fun H1 locs1 q1 q2 => k H1 locs1 arr q1 q2 hL
  simp only [relB, Bool.and_eq_true] at hr
  obtain ⟨⟨hn, h3⟩, hr⟩ := hr
  rw [Nat.mod_eq_of_lt hlt, Nat.eq_of_beq_eq_true hn] at k1
  rw [Nat.eq_of_beq_eq_true h3] at hd
  have ha : a < 1000000 := Nat.lt_of_lt_of_le (kd_lt hx) hH.1.2
  subst hci
  split at hr
  · next i w1 j ci2 k2 q nest hfe =>
    obtain ⟨Cn, T, N, hcl, hk, hok, hw⟩ := fld_get C w hfe hr
    have hkn : n % 100 < nF (n % 10000 / 100) := by rw [hok.2.2.2.1]; exact hk
    rcases fk_cases (hok.2.2.2.2 _ hk) with q | q | q
    all_goals first
      | (rw [hfk] at q; exact absurd q.1 (by decide))
      | skip
    have e1 : ((.long x :: Value.ref a :: r).map (cv base ext)) = .long x :: .ref (base + a) :: r.map (cv base ext) := by rw [List.map_cons, List.map_cons, cv_ref ha]; rfl
    rw [e1]
    refine put_gen C w (h1 := (h.1, h.2.1, u2 h.2.2 a (n % 100) x)) hH hS hx hcl hk hok (hw.imp_right (fun z => ⟨q.2.2, z⟩)) (Or.inl q.2.2) (by rw [q.2.1]; rfl) (by rw [q.2.1]; rfl) rfl (fun j hj => ce_u2L hj) ?_ hd k1
    rw [ce_obj (h := (h.1, h.2.1, u2 h.2.2 a (n % 100) x)) (a := a) hx]
    refine congrArg (fun z => Sum.inr (n % 10000 / 100, z)) ?_
    refine cfl_ext hkn ?_ (fun j hj => ?_)
    · rw [fval_1 hfk]; simp [u2]
    · simp [u2, hj]
  · cases hr
theorem ss_putR (C : Cx p s m args meth c M) (w : Wd base ext DA D E s) {n a b ci : Nat} {rs : List Nat} (hx : h.1[a]? = some (.inl (ci, rs))) (hci : ci = n % 10000 / 100) (hfk : fk ci (n % 100) = 2) (hlr : n % 100 < rs.length) (hc : chkB M pc (.putfield n) nx = true) (hin : meth.name = "<init>") (hdecl : (ownS (owM M)) = ((clsL[ci]?).map (fun q => q.1)).getD "") (hb : ∃ x, feT[n / 10000]? = some x ∧ x.2.2.2.2.2 = false) (k : WW p l e R s m args below meth c Q base ext DA D n0 s0 M nx ls r (h.1.set a (.inl (ci, rs.set (n % 100) (b + 1))), h.2.1, h.2.2)) : WW p l e R s m args below meth c Q base ext DA D n0 s0 M pc ls (.ref b :: .ref a :: r) h := by
  obtain ⟨hlt, ins, len, hd, hr⟩ := chk_get (show chkR M pc (.putfield n) nx = true from hc)
  intro H locs arr hH hS hL
  have hal := kd_lt hx
  have k1 := fun H1 locs1 q1 q2 => k H1 locs1 arr q1 q2 hL
  simp only [relB, Bool.and_eq_true] at hr
  obtain ⟨⟨hn, h3⟩, hr⟩ := hr
  rw [Nat.mod_eq_of_lt hlt, Nat.eq_of_beq_eq_true hn] at k1
  rw [Nat.eq_of_beq_eq_true h3] at hd
  have ha : a < 1000000 := Nat.lt_of_lt_of_le (kd_lt hx) hH.1.2
  subst hci
  have hsl : sl (h.1.set a (.inl (n % 10000 / 100, rs.set (n % 100) (b + 1)))) = sl h.1 := by
    unfold sl
    rw [List.map_set]
    have e : (h.1.map sz)[a]? = some (nF (n % 10000 / 100)) := by rw [List.getElem?_map, hx]; rfl
    congr 1
    apply List.ext_getElem?
    intro j
    by_cases hj : j = a
    · subst hj
      rw [List.getElem?_set_self (by rw [List.length_map]; exact hal), e]; rfl
    · rw [List.getElem?_set_ne (Ne.symm hj)]
  simp only [List.length_set, hsl] at k1
  obtain ⟨x0, hx0, hx1⟩ := hb
  split at hr
  · next i w1 j ci2 k2 q nest hfe =>
    obtain ⟨Cn, T, N, hcl, hk, hok, hw⟩ := fld_get C w hfe hr
    have hkn : n % 100 < nF (n % 10000 / 100) := by rw [hok.2.2.2.1]; exact hk
    rw [hcl] at hdecl
    have hw2 : (Cond.fieldLink (ownS (owM M)) i (T (n % 100)).1 (T (n % 100)).2.1 (T (n % 100)).2.2.1).before args s = true := by
      have hF := fe_ok hfe
      cases hfe.symm.trans hx0
      simp only at hx1
      subst hx1
      simp only [Bool.and_eq_true] at hr
      obtain ⟨⟨⟨h1, h2⟩, h4⟩, h5⟩ := hr
      have h1 := Nat.eq_of_beq_eq_true h1
      have h2 := Nat.eq_of_beq_eq_true h2
      have h4 := Nat.eq_of_beq_eq_true h4
      have h5 := Nat.eq_of_beq_eq_true h5
      subst h2
      rw [h4, h5, h1] at hF
      simp only [chkF, hcl, Bool.and_eq_true] at hF
      exact C.2.2.2.2.2.2.2 _ (hasG_in hF.2)
    rcases fk_cases (hok.2.2.2.2 _ hk) with q | q | q
    all_goals first
      | (rw [hfk] at q; exact absurd q.1 (by decide))
      | skip
    have e1 : ((Value.ref b :: Value.ref a :: r).map (cv base ext)) = .ref (ca base ext b) :: .ref (base + a) :: r.map (cv base ext) := by rw [List.map_cons, List.map_cons, cv_ref ha]; rfl
    rw [e1]
    refine put_gen C w (h1 := (h.1.set a (.inl (n % 10000 / 100, rs.set (n % 100) (b + 1))), h.2.1, h.2.2)) hH hS hx hcl hk hok (Or.inl hw2) (Or.inr ⟨q.2.1, hin, by rw [q.2.2.1, hdecl]; rfl⟩) ?_ ?_ (by simp) (fun j hj => ce_set hj) ?_ hd k1
    · rcases q.2.2.2 with ⟨z, hz⟩ | ⟨z, hz⟩ <;> (rw [hz]; rfl)
    · rcases q.2.2.2 with ⟨z, hz⟩ | ⟨z, hz⟩ <;> (rw [hz]; rfl)
    · rw [ce_obj (ci := n % 10000 / 100) (rs := rs.set (n % 100) (b + 1)) (by simp [List.getElem?_set, hal])]
      refine congrArg (fun z => Sum.inr (n % 10000 / 100, z)) ?_
      refine cfl_ext hkn ?_ (fun j hj => ?_)
      · rw [fval_2 hfk]
        simp [List.getD_eq_getElem?_getD, hlr, rv, cv]
      · refine ⟨rfl, rfl, ?_⟩
        simp [List.getD_eq_getElem?_getD, List.getElem?_set_ne (Ne.symm hj)]
  · cases hr
theorem ss_iaload (C : Cx p s m args meth c M) (w : Wd base ext DA D E s) {a n : Nat} {rs : List Nat} {j : Int32} (hx : h.1[a]? = some (.inr (0, n, rs))) (hj : vinB j n = true) (hc : chkB M pc .iaload nx = true) (k : WW p l e R s m args below meth c Q base ext DA D n0 s0 M nx ls (.int (h.2.1 a j.toNatClampNeg) :: r) h) : WW p l e R s m args below meth c Q base ext DA D n0 s0 M pc ls (.int j :: .ref a :: r) h := by
  obtain ⟨hn, hd⟩ := chk_s (fun _ _ _ _ => rfl) (show chkR M pc .iaload nx = true from hc)
  intro H locs arr hH hS hL
  have k1 := k H locs arr hH hS hL
  rw [hn] at k1
  have ha : a < 1000000 := Nat.lt_of_lt_of_le (kd_lt hx) hH.1.2
  have e1 : ((Value.int j :: Value.ref a :: r).map (cv base ext)) = .int j :: .ref (base + a) :: r.map (cv base ext) := by rw [List.map_cons, List.map_cons, cv_ref ha]; rfl
  rw [e1]
  exact va_iald C.1 C.2.1 w.1.1 hH.2 a 0 (cz_arr hx) (tys_get DA (by decide)) (vin_of hj) hd k1
theorem ss_laload (C : Cx p s m args meth c M) (w : Wd base ext DA D E s) {a n : Nat} {rs : List Nat} {j : Int32} (hx : h.1[a]? = some (.inr (1, n, rs))) (hj : vinB j n = true) (hc : chkB M pc .laload nx = true) (k : WW p l e R s m args below meth c Q base ext DA D n0 s0 M nx ls (.long (h.2.2 a j.toNatClampNeg) :: r) h) : WW p l e R s m args below meth c Q base ext DA D n0 s0 M pc ls (.int j :: .ref a :: r) h := by
  obtain ⟨hn, hd⟩ := chk_s (fun _ _ _ _ => rfl) (show chkR M pc .laload nx = true from hc)
  intro H locs arr hH hS hL
  have k1 := k H locs arr hH hS hL
  rw [hn] at k1
  have ha : a < 1000000 := Nat.lt_of_lt_of_le (kd_lt hx) hH.1.2
  have e1 : ((Value.int j :: Value.ref a :: r).map (cv base ext)) = .int j :: .ref (base + a) :: r.map (cv base ext) := by rw [List.map_cons, List.map_cons, cv_ref ha]; rfl
  rw [e1]
  exact va_lald C.1 C.2.1 w.1.1 hH.2 a 1 (cz_arr hx) (tys_get DA (by decide)) (vin_of hj) hd k1
theorem ss_baload2 (C : Cx p s m args meth c M) (w : Wd base ext DA D E s) {a n : Nat} {rs : List Nat} {j : Int32} (hx : h.1[a]? = some (.inr (2, n, rs))) (hj : vinB j n = true) (hc : chkB M pc .baload nx = true) (k : WW p l e R s m args below meth c Q base ext DA D n0 s0 M nx ls (.int (h.2.1 a j.toNatClampNeg) :: r) h) : WW p l e R s m args below meth c Q base ext DA D n0 s0 M pc ls (.int j :: .ref a :: r) h := by
  obtain ⟨hn, hd⟩ := chk_s (fun _ _ _ _ => rfl) (show chkR M pc .baload nx = true from hc)
  intro H locs arr hH hS hL
  have k1 := k H locs arr hH hS hL
  rw [hn] at k1
  have ha : a < 1000000 := Nat.lt_of_lt_of_le (kd_lt hx) hH.1.2
  have e1 : ((Value.int j :: Value.ref a :: r).map (cv base ext)) = .int j :: .ref (base + a) :: r.map (cv base ext) := by rw [List.map_cons, List.map_cons, cv_ref ha]; rfl
  rw [e1]
  exact va_bald C.1 C.2.1 w.1.1 hH.2 a 2 (cz_arr hx) (tys_get DA (by decide)) (vin_of hj) hd k1
theorem ss_baload3 (C : Cx p s m args meth c M) (w : Wd base ext DA D E s) {a n : Nat} {rs : List Nat} {j : Int32} (hx : h.1[a]? = some (.inr (3, n, rs))) (hj : vinB j n = true) (hc : chkB M pc .baload nx = true) (k : WW p l e R s m args below meth c Q base ext DA D n0 s0 M nx ls (.int (h.2.1 a j.toNatClampNeg) :: r) h) : WW p l e R s m args below meth c Q base ext DA D n0 s0 M pc ls (.int j :: .ref a :: r) h := by
  obtain ⟨hn, hd⟩ := chk_s (fun _ _ _ _ => rfl) (show chkR M pc .baload nx = true from hc)
  intro H locs arr hH hS hL
  have k1 := k H locs arr hH hS hL
  rw [hn] at k1
  have ha : a < 1000000 := Nat.lt_of_lt_of_le (kd_lt hx) hH.1.2
  have e1 : ((Value.int j :: Value.ref a :: r).map (cv base ext)) = .int j :: .ref (base + a) :: r.map (cv base ext) := by rw [List.map_cons, List.map_cons, cv_ref ha]; rfl
  rw [e1]
  exact va_zald C.1 C.2.1 w.1.1 hH.2 a 3 (cz_arr hx) (tys_get DA (by decide)) (vin_of hj) hd k1
theorem ss_ialoadX (C : Cx p s m args meth c M) (w : Wd base ext DA D E s) {a : Nat} {j : Int32} (ha : ¬ a < 1000000) (ha4 : a - 1000000 < 4) (hj : vinB j (E (a - 1000000)).1 = true) (hc : chkB M pc .iaload nx = true) (k : WW p l e R s m args below meth c Q base ext DA D n0 s0 M nx ls (.int ((E (a - 1000000)).2 j.toNatClampNeg) :: r) h) : WW p l e R s m args below meth c Q base ext DA D n0 s0 M pc ls (.int j :: .ref a :: r) h := by
  obtain ⟨hn, hd⟩ := chk_s (fun _ _ _ _ => rfl) (show chkR M pc .iaload nx = true from hc)
  intro H locs arr hH hS hL
  have k1 := k H locs arr hH hS hL
  rw [hn] at k1
  have e1 : ((Value.int j :: Value.ref a :: r).map (cv base ext)) = .int j :: .ref (ext (a - 1000000)) :: r.map (cv base ext) := by rw [List.map_cons, List.map_cons]; simp [cv, ca_ge ha]
  rw [e1]
  have hX := w.2.2.1.1 _ ha4
  have hb2 := w.2.2.2.2.2.2.2.2
  exact va_sld C.1 C.2.1 hX.1 (Nat.lt_of_lt_of_le hX.2 hb2) (Nat.not_le.mpr hX.2) hS (vin_of hj) hd k1
theorem ss_alenX (C : Cx p s m args meth c M) (w : Wd base ext DA D E s) {a : Nat} (ha : ¬ a < 1000000) (ha4 : a - 1000000 < 4) (hc : chkB M pc .arraylength nx = true) (k : WW p l e R s m args below meth c Q base ext DA D n0 s0 M nx ls (.int (Int32.ofNat (E (a - 1000000)).1) :: r) h) : WW p l e R s m args below meth c Q base ext DA D n0 s0 M pc ls (.ref a :: r) h := by
  obtain ⟨hn, hd⟩ := chk_s (fun _ _ _ _ => rfl) (show chkR M pc .arraylength nx = true from hc)
  intro H locs arr hH hS hL
  have k1 := k H locs arr hH hS hL
  rw [hn] at k1
  have e1 : ((Value.ref a :: r).map (cv base ext)) = .ref (ext (a - 1000000)) :: r.map (cv base ext) := by rw [List.map_cons]; simp [cv, ca_ge ha]
  rw [e1]
  have hX := w.2.2.1.1 _ ha4
  have hb2 := w.2.2.2.2.2.2.2.2
  exact va_slen C.1 C.2.1 hX.1 (Nat.lt_of_lt_of_le hX.2 hb2) (Nat.not_le.mpr hX.2) hS hd k1
theorem cax_len {base : Nat} {ext : Nat → Nat} {i t n : Nat} {rs : List Nat} : (cax base ext h i t n rs).1 = n := by
  unfold cax
  split <;> rfl
theorem ss_alen (C : Cx p s m args meth c M) (w : Wd base ext DA D E s) {a t n : Nat} {rs : List Nat} (hx : h.1[a]? = some (.inr (t, n, rs))) (ht : t < 6) (hc : chkB M pc .arraylength nx = true) (k : WW p l e R s m args below meth c Q base ext DA D n0 s0 M nx ls (.int (Int32.ofNat n) :: r) h) : WW p l e R s m args below meth c Q base ext DA D n0 s0 M pc ls (.ref a :: r) h := by
  obtain ⟨hn, hd⟩ := chk_s (fun _ _ _ _ => rfl) (show chkR M pc .arraylength nx = true from hc)
  intro H locs arr hH hS hL
  have k1 := k H locs arr hH hS hL
  rw [hn] at k1
  have ha : a < 1000000 := Nat.lt_of_lt_of_le (kd_lt hx) hH.1.2
  have e1 : ((Value.ref a :: r).map (cv base ext)) = .ref (base + a) :: r.map (cv base ext) := by rw [List.map_cons, cv_ref ha]
  rw [e1]
  exact va_alen C.1 C.2.1 w.1.1 hH.2 a t (cz_arr hx) (tys_get DA ht) (by rw [cax_len]) hd k1
theorem ss_aaload (C : Cx p s m args meth c M) (w : Wd base ext DA D E s) {a t n : Nat} {rs : List Nat} {j : Int32} (hx : h.1[a]? = some (.inr (t, n, rs))) (ht : t = 4 ∨ t = 5) (hj : vinB j n = true) (hc : chkB M pc .aaload nx = true) (k : WW p l e R s m args below meth c Q base ext DA D n0 s0 M nx ls (rv (rs.getD j.toNatClampNeg 0) :: r) h) : WW p l e R s m args below meth c Q base ext DA D n0 s0 M pc ls (.int j :: .ref a :: r) h := by
  obtain ⟨hn, hd⟩ := chk_s (fun _ _ _ _ => rfl) (show chkR M pc .aaload nx = true from hc)
  intro H locs arr hH hS hL
  have k1 := k H locs arr hH hS hL
  rw [hn] at k1
  have ha : a < 1000000 := Nat.lt_of_lt_of_le (kd_lt hx) hH.1.2
  have e1 : ((Value.int j :: Value.ref a :: r).map (cv base ext)) = .int j :: .ref (base + a) :: r.map (cv base ext) := by rw [List.map_cons, List.map_cons, cv_ref ha]; rfl
  rw [e1]
  have e2 : va_rf (rva base ext (rs.getD j.toNatClampNeg 0)) = cv base ext (rv (rs.getD j.toNatClampNeg 0)) := by
    cases rs.getD j.toNatClampNeg 0 <;> rfl
  have k2 : W p l e R s m args below meth c H locs (h.1.length - n0) (sl h.1 - s0) Q (F0 m (pc % 10000 + 1) arr (va_rf (rva base ext (rs.getD j.toNatClampNeg 0)) :: r.map (cv base ext))) := by rw [e2]; exact k1
  rcases ht with rfl | rfl
  · exact va_aldq C.1 C.2.1 w.1.1 hH.2 a 4 (cz_arr hx) (tys_get DA (by decide)) (vin_of hj) hd k2
  · exact va_aldq C.1 C.2.1 w.1.1 hH.2 a 5 (cz_arr hx) (tys_get DA (by decide)) (vin_of hj) hd k2
theorem ss_iastore (C : Cx p s m args meth c M) (w : Wd base ext DA D E s) {a n : Nat} {rs : List Nat} {j : Int32} {x : Int32} (hx : h.1[a]? = some (.inr (0, n, rs))) (hj : vinB j n = true) (hc : chkB M pc .iastore nx = true) (k : WW p l e R s m args below meth c Q base ext DA D n0 s0 M nx ls r (h.1, u2 h.2.1 a j.toNatClampNeg x, h.2.2)) : WW p l e R s m args below meth c Q base ext DA D n0 s0 M pc ls (.int x :: .int j :: .ref a :: r) h := by
  obtain ⟨hn, hd⟩ := chk_s (fun _ _ _ _ => rfl) (show chkR M pc .iastore nx = true from hc)
  intro H locs arr hH hS hL
  have k1 := fun H1 locs1 q1 q2 => k H1 locs1 arr q1 q2 hL
  rw [hn] at k1
  have ha : a < 1000000 := Nat.lt_of_lt_of_le (kd_lt hx) hH.1.2
  have e1 : ((.int x :: Value.int j :: Value.ref a :: r).map (cv base ext)) = .int x :: .int j :: .ref (base + a) :: r.map (cv base ext) := by rw [List.map_cons, List.map_cons, List.map_cons, cv_ref ha]; rfl
  rw [e1]
  refine W.iast C.1 C.2.1 (hH.2 a _ (cz_arr hx)) ((w.1.1.2 0 _ (tys_get DA (by decide))).1 n (fun q => .int (h.2.1 a q))) (fun q => by cases q) (by show ¬ (j < 0 ∨ (arrV _ _ _).slots.size ≤ _); rw [arrV_size]; exact vin_of hj) rfl rfl hd fun H1 e1 z oq => ?_
  refine k1 H1 _ (hH.upd (a := a) rfl (fun i hi => ce_u2I hi) z (fun _ => ?_) oq) (hS.put z oq (Nat.le_add_right _ _))
  rw [ce_arr (h := (h.1, u2 h.2.1 a j.toNatClampNeg x, h.2.2)) (a := a) hx]
  show H1[base + a]? = some (vp_cell _ _)
  rw [e1]
  show some ((vp_cell _ (n, _)).setSlot _ _) = some (vp_cell _ (n, _))
  rw [vp_cell_i, vp_cell_i, arrV_store]
  congr 2
  funext q
  by_cases hq : q = j.toNatClampNeg
  · subst hq
    simp [updV, u2, vp_nar]
    try rfl
  · simp [updV, u2, hq]
theorem ss_lastore (C : Cx p s m args meth c M) (w : Wd base ext DA D E s) {a n : Nat} {rs : List Nat} {j : Int32} {x : Int64} (hx : h.1[a]? = some (.inr (1, n, rs))) (hj : vinB j n = true) (hc : chkB M pc .lastore nx = true) (k : WW p l e R s m args below meth c Q base ext DA D n0 s0 M nx ls r (h.1, h.2.1, u2 h.2.2 a j.toNatClampNeg x)) : WW p l e R s m args below meth c Q base ext DA D n0 s0 M pc ls (.long x :: .int j :: .ref a :: r) h := by
  obtain ⟨hn, hd⟩ := chk_s (fun _ _ _ _ => rfl) (show chkR M pc .lastore nx = true from hc)
  intro H locs arr hH hS hL
  have k1 := fun H1 locs1 q1 q2 => k H1 locs1 arr q1 q2 hL
  rw [hn] at k1
  have ha : a < 1000000 := Nat.lt_of_lt_of_le (kd_lt hx) hH.1.2
  have e1 : ((.long x :: Value.int j :: Value.ref a :: r).map (cv base ext)) = .long x :: .int j :: .ref (base + a) :: r.map (cv base ext) := by rw [List.map_cons, List.map_cons, List.map_cons, cv_ref ha]; rfl
  rw [e1]
  refine W.last C.1 C.2.1 (hH.2 a _ (cz_arr hx)) ((w.1.1.2 1 _ (tys_get DA (by decide))).1 n (fun q => .long (h.2.2 a q))) (fun q => by cases q) (by show ¬ (j < 0 ∨ (arrV _ _ _).slots.size ≤ _); rw [arrV_size]; exact vin_of hj) rfl rfl hd fun H1 e1 z oq => ?_
  refine k1 H1 _ (hH.upd (a := a) rfl (fun i hi => ce_u2L hi) z (fun _ => ?_) oq) (hS.put z oq (Nat.le_add_right _ _))
  rw [ce_arr (h := (h.1, h.2.1, u2 h.2.2 a j.toNatClampNeg x)) (a := a) hx]
  show H1[base + a]? = some (vp_cell _ _)
  rw [e1]
  show some ((vp_cell _ (n, _)).setSlot _ _) = some (vp_cell _ (n, _))
  rw [vp_cell_l, vp_cell_l, arrV_store]
  congr 2
  funext q
  by_cases hq : q = j.toNatClampNeg
  · subst hq
    simp [updV, u2, vp_nar]
    try rfl
  · simp [updV, u2, hq]
theorem ss_bastore2 (C : Cx p s m args meth c M) (w : Wd base ext DA D E s) {a n : Nat} {rs : List Nat} {j : Int32} {x : Int32} (hx : h.1[a]? = some (.inr (2, n, rs))) (hj : vinB j n = true) (hc : chkB M pc .bastore nx = true) (k : WW p l e R s m args below meth c Q base ext DA D n0 s0 M nx ls r (h.1, u2 h.2.1 a j.toNatClampNeg (vp_nar .byte x), h.2.2)) : WW p l e R s m args below meth c Q base ext DA D n0 s0 M pc ls (.int x :: .int j :: .ref a :: r) h := by
  obtain ⟨hn, hd⟩ := chk_s (fun _ _ _ _ => rfl) (show chkR M pc .bastore nx = true from hc)
  intro H locs arr hH hS hL
  have k1 := fun H1 locs1 q1 q2 => k H1 locs1 arr q1 q2 hL
  rw [hn] at k1
  have ha : a < 1000000 := Nat.lt_of_lt_of_le (kd_lt hx) hH.1.2
  have e1 : ((.int x :: Value.int j :: Value.ref a :: r).map (cv base ext)) = .int x :: .int j :: .ref (base + a) :: r.map (cv base ext) := by rw [List.map_cons, List.map_cons, List.map_cons, cv_ref ha]; rfl
  rw [e1]
  refine W.bast C.1 C.2.1 (hH.2 a _ (cz_arr hx)) ((w.1.1.2 2 _ (tys_get DA (by decide))).1 n (fun q => .int (h.2.1 a q))) (fun q => by cases q) (by show ¬ (j < 0 ∨ (arrV _ _ _).slots.size ≤ _); rw [arrV_size]; exact vin_of hj) rfl rfl hd fun H1 e1 z oq => ?_
  refine k1 H1 _ (hH.upd (a := a) rfl (fun i hi => ce_u2I hi) z (fun _ => ?_) oq) (hS.put z oq (Nat.le_add_right _ _))
  rw [ce_arr (h := (h.1, u2 h.2.1 a j.toNatClampNeg (vp_nar .byte x), h.2.2)) (a := a) hx]
  show H1[base + a]? = some (vp_cell _ _)
  rw [e1]
  show some ((vp_cell _ (n, _)).setSlot _ _) = some (vp_cell _ (n, _))
  rw [vp_cell_i, vp_cell_i, arrV_store]
  congr 2
  funext q
  by_cases hq : q = j.toNatClampNeg
  · subst hq
    simp [updV, u2, vp_nar]
    try rfl
  · simp [updV, u2, hq]
theorem ss_bastore3 (C : Cx p s m args meth c M) (w : Wd base ext DA D E s) {a n : Nat} {rs : List Nat} {j : Int32} {x : Int32} (hx : h.1[a]? = some (.inr (3, n, rs))) (hj : vinB j n = true) (hc : chkB M pc .bastore nx = true) (k : WW p l e R s m args below meth c Q base ext DA D n0 s0 M nx ls r (h.1, u2 h.2.1 a j.toNatClampNeg (vp_nar .boolean x), h.2.2)) : WW p l e R s m args below meth c Q base ext DA D n0 s0 M pc ls (.int x :: .int j :: .ref a :: r) h := by
  obtain ⟨hn, hd⟩ := chk_s (fun _ _ _ _ => rfl) (show chkR M pc .bastore nx = true from hc)
  intro H locs arr hH hS hL
  have k1 := fun H1 locs1 q1 q2 => k H1 locs1 arr q1 q2 hL
  rw [hn] at k1
  have ha : a < 1000000 := Nat.lt_of_lt_of_le (kd_lt hx) hH.1.2
  have e1 : ((.int x :: Value.int j :: Value.ref a :: r).map (cv base ext)) = .int x :: .int j :: .ref (base + a) :: r.map (cv base ext) := by rw [List.map_cons, List.map_cons, List.map_cons, cv_ref ha]; rfl
  rw [e1]
  refine W.zast C.1 C.2.1 (hH.2 a _ (cz_arr hx)) ((w.1.1.2 3 _ (tys_get DA (by decide))).1 n (fun q => .int (h.2.1 a q))) (fun q => by cases q) (by show ¬ (j < 0 ∨ (arrV _ _ _).slots.size ≤ _); rw [arrV_size]; exact vin_of hj) rfl rfl hd fun H1 e1 z oq => ?_
  refine k1 H1 _ (hH.upd (a := a) rfl (fun i hi => ce_u2I hi) z (fun _ => ?_) oq) (hS.put z oq (Nat.le_add_right _ _))
  rw [ce_arr (h := (h.1, u2 h.2.1 a j.toNatClampNeg (vp_nar .boolean x), h.2.2)) (a := a) hx]
  show H1[base + a]? = some (vp_cell _ _)
  rw [e1]
  show some ((vp_cell _ (n, _)).setSlot _ _) = some (vp_cell _ (n, _))
  rw [vp_cell_i, vp_cell_i, arrV_store]
  congr 2
  funext q
  by_cases hq : q = j.toNatClampNeg
  · subst hq
    simp [updV, u2, vp_nar]
    try rfl
  · simp [updV, u2, hq]
end HEAPS
