/-- what the resolved code must be beside: only constructors of the class itself set references, and the one cast -/
def chkX (M : Nat) (ai : Instr) : Bool := match ai with
  | .checkcast i => Nat.beq i 30 && decide (ownS (owM M) = "OnlyBatteries$Facts")
  | .putfield n => if fk (n % 10000 / 100) (n % 100) = 2 then decide ((yM M).name = "<init>") && decide (ownS (owM M) = ((clsL[n % 10000 / 100]?).map (fun q => q.1)).getD "") && (match feT[n / 10000]? with
    | some x => !x.2.2.2.2.2
    | none => false) else true
  | _ => true
def chkXL (M : Nat) : Bool := (cdT.getD M []).all (fun x => chkX M x.2.1)
set_option maxRecDepth 100000 in
theorem chkX_all : (List.range (nMeth + 1)).all chkXL = true := by decide +kernel
theorem chkX_ok {M pc : Nat} {ai : Instr} {nx : Nat} (h : ncode M pc = some (ai, nx)) : chkX M ai = true := by
  have h1 := List.all_eq_true.mp chkX_all M (List.mem_range.mpr (code_lt h))
  exact List.all_eq_true.mp h1 (pc, ai, nx) (lk_mem h)
/-- return kinds and types agree -/
def rkOk (M : Nat) : Bool := match rkM M with
  | 0 => decide (rtM M = none)
  | 1 => decide (rtM M = some .int)
  | 2 => decide (rtM M = some .boolean)
  | 3 => decide (rtM M = some .long)
  | 4 => (match rtM M with
    | some (.object _) => true
    | _ => (cdT.getD M []).isEmpty)
  | _ => false
set_option maxRecDepth 100000 in
theorem rk_all : (List.range (nMeth + 1)).all rkOk = true := by decide +kernel
section CLONE
variable {p : Program} {l : Launch} {e : Env} {R : Room} {s : State} {m : MethodId} {args : Array Value} {below : List Frame} {meth : Method} {c : Code} {Q : State → Prop} {base : Nat} {ext : Nat → Nat} {DA : Nat → ClassId} {D : va_G} {E : EX} {n0 s0 M pc nx : Nat} {ls r : List Value} {h : AH}
theorem cell_eq {cell : Cell} {cA : ClassId} {N : Nat} {f : Nat → Int32} (hc : cell.cls = cA) (hn : cell.slots.size = N) (hs : ∀ j : Nat, j < N → cell.slots[j]? = some (.int (f j))) : ({ cls := cell.cls, slots := cell.slots } : Cell) = arrV cA N (fun j => .int (f j)) := by
  have e : cell.slots = Array.ofFn (n := N) fun j => Value.int (f j.val) := by
    apply Array.ext
    · simp [hn]
    · intro j h1 h2
      have h3 := hs j (by rw [← hn]; exact h1)
      rw [Array.getElem?_eq_getElem h1] at h3
      simpa using Option.some.inj h3
  rw [e, hc]
  rfl
theorem ss_clone (C : Cx p s m args meth c M) (w : Wd base ext DA D E s) (hRf : frM M ≤ R.frames) (hRl : loM M ≤ R.locals) {k0 : Nat} (hk0 : k0 % 10 = 1) (g6 : cs r ≤ 8) (hlt6 : h.1.length < 1000000) (hn0 : n0 ≤ h.1.length) (hs0 : s0 ≤ sl h.1) (hRc : h.1.length + 1 - n0 ≤ R.cells) (hRs : sl h.1 + (E 1).1 - s0 ≤ R.slots) (hc : chkB M pc (.invokedynamic k0) nx = true)
    (k : WW p l e R s m args below meth c Q base ext DA D n0 s0 M nx ls (.ref h.1.length :: r) (h.1 ++ [.inr (0, (E 1).1, [])], u1 h.2.1 h.1.length (E 1).2, u1 h.2.2 h.1.length (fun _ => 0))) : WW p l e R s m args below meth c Q base ext DA D n0 s0 M pc ls (.ref 1000001 :: r) h := by
  obtain ⟨ins, w1, j, q, hnx, hd, hf, hl, hw1, hr⟩ := intr_get hc
  rw [hk0] at hr
  simp only [Bool.and_eq_true, decide_eq_true_eq] at hr
  obtain ⟨⟨rfl, hg⟩, hl2⟩ := hr
  have hl2 := Nat.le_of_ble_eq_true hl2
  rw [hw1] at hg
  intro H locs arr hH hS hL
  have k1 := fun H1 locs1 q1 q2 => k H1 locs1 arr q1 q2 hL
  simp only [hnx] at k1
  have hts := C.2.2.2.2.2.2.2
  obtain ⟨cell, c1, c2, c3⟩ := w.2.2.1.2
  obtain ⟨⟨scr, x1, x2, x3, x4, x5⟩, hxb⟩ := w.2.2.1.1 1 (by decide)
  cases c1.symm.trans x1
  have hbs := w.2.2.2.2.2.2.2.2
  have hHc : H[ext 1]? = some cell := by rw [hS.2.1 _ (Nat.lt_of_lt_of_le hxb hbs) (Nat.not_le.mpr hxb)]; exact c1
  obtain ⟨hA0, hRA0⟩ := w.1.1.2 0 _ (tys_get DA (by decide))
  have hnm : s.vm.findClass "[I" = some (DA 0) := va_nm_int hRA0
  obtain ⟨c9, t9, f1, f2, f3⟩ := Cond.castable_spec (va_Nw.use (A := args) rfl (w.2.1 _ w_cl5 rfl))
  cases hnm.symm.trans f1
  have e0 : ((Value.ref 1000001 :: r).map (cv base ext)) = .ref (ext 1) :: r.map (cv base ext) := by
    rw [List.map_cons]
    simp only [cv]
    rw [ca_ge (by decide)]
  rw [e0]
  intro T hT X
  obtain ⟨-, kA, hkA, comp, hkind⟩ := State.isArrayOf_alike X.warmed.alike (hA0 0 (fun _ => .null))
  obtain ⟨-, kS, hkS, compS, hkindS⟩ := hA0 0 (fun _ => .null)
  obtain ⟨vm', X', st⟩ := X.cloneArray C.1 C.2.2.2.2.1 (hts _ (hasG_in hg)) (hts _ w_cl1) (hts _ w_cl2) (hts _ w_cl3) (hts _ w_cl4) (a := ext 1) (cell := cell) (by rw [hT]; exact hHc) (fun z y => by rw [y] at c2; cases c2) x3 (by rw [c3]; exact hnm) f2 (by rw [c3]; exact f3)
    (fun i v hv => by
      rw [c3]
      have hk' : T.vm.classes[DA 0]? = some kA := hkA
      have hi : i < (E 1).1 := by rw [← x4]; exact (Array.getElem?_eq_some_iff.mp hv).1
      rw [x5 i hi] at hv
      cases hv
      simp [State.fitsSlot, State.slotType?, hk', hkind]
      rfl)
    (g := F0 m (pc % 10000) arr (.ref (ext 1) :: r.map (cv base ext))) rfl (by rw [C.2.2.1]; exact hL.1) rfl (by rw [C.2.1]; exact hd) (by omega) (by show 2 * 0 + _ + 14 ≤ _; rw [cs_map]; omega) (cells := h.1.length - n0) (slots := sl h.1 - s0) (by omega) (by rw [x4]; omega) (hloader := by rw [c3]; exact Vm.clonesLoader_of_array hkS hkindS)
  rw [cell_eq c3 x4 x5, x4] at X'
  rw [cell_eq c3 x4 x5] at st
  have hHn : Hold base ext DA D (h.1 ++ [.inr (0, (E 1).1, [])], u1 h.2.1 h.1.length (E 1).2, u1 h.2.2 h.1.length (fun _ => 0)) (H.push (arrV (DA 0) (E 1).1 (fun j => .int ((E 1).2 j)))) := by
    refine hH.push hlt6 (fun i hi => ce_new hi) ?_
    rw [ce_arr (t := 0) (n := (E 1).1) (rs := []) (by simp)]
    show (H.push _)[base + h.1.length]? = some (vp_cell _ _)
    rw [← hH.1.1, Array.getElem?_push_size]
    simp only [cax]
    rw [vp_cell_i]
    simp only [u1, if_true]
  have k2 := k1 _ locs hHn hS.pushed
  have k3 := W.cs (cells := h.1.length - n0 + 1) (slots := sl h.1 - s0 + (E 1).1) (by simp; omega) (by rw [sl_app]; simp only [sz]; omega) k2
  obtain ⟨t, b1, b2⟩ := k3 ((T.setVm vm').pushCell (arrV (DA 0) (E 1).1 (fun j => .int ((E 1).2 j)))) (by rw [← hT]; rfl) X'
  refine ⟨t, st t ?_, b2⟩
  have e1 : ((Value.ref h.1.length :: r).map (cv base ext)) = .ref H.size :: r.map (cv base ext) := by rw [List.map_cons, cv_ref hlt6, hH.1.1]
  rw [e1] at b1
  rw [hT]
  exact b1
theorem ss_checkcast (C : Cx p s m args meth c M) (w : Wd base ext DA D E s) {i a n : Nat} {rs : List Nat} (hx : h.1[a]? = some (.inr (0, n, rs))) (hX : chkX M (.checkcast i) = true) (hc : chkB M pc (.checkcast i) nx = true) (k : WW p l e R s m args below meth c Q base ext DA D n0 s0 M nx ls (.ref a :: r) h) : WW p l e R s m args below meth c Q base ext DA D n0 s0 M pc ls (.ref a :: r) h := by
  obtain ⟨hlt, ins, len, hd, hr⟩ := chk_get (show chkR M pc (.checkcast i) nx = true from hc)
  simp only [relB, Bool.and_eq_true, decide_eq_true_eq] at hr
  obtain ⟨⟨hn, h3⟩, rfl⟩ := hr
  have hnx := (Nat.mod_eq_of_lt hlt).trans (Nat.eq_of_beq_eq_true hn)
  rw [Nat.eq_of_beq_eq_true h3] at hd
  simp only [chkX, Bool.and_eq_true, decide_eq_true_eq] at hX
  obtain ⟨hi, ho⟩ := hX
  have hi := Nat.eq_of_beq_eq_true hi
  subst hi
  intro H locs arr hH hS hL
  have k1 := k H locs arr hH hS hL
  rw [hnx] at k1
  have hts := C.2.2.2.2.2.2.2
  have ha : a < 1000000 := Nat.lt_of_lt_of_le (kd_lt hx) hH.1.2
  have e1 : ((Value.ref a :: r).map (cv base ext)) = .ref (base + a) :: r.map (cv base ext) := by rw [List.map_cons, cv_ref ha]
  rw [e1] at k1 ⊢
  have hown := C.2.2.2.2.1
  rw [ho] at hown
  exact va_castA C.1 C.2.1 hown (hts _ w_cl6) hH.2 a (cz_arr hx) (va_nm_int (w.1.1.2 0 _ (tys_get DA (by decide))).2) hd k1
theorem Wd.moved {U : State} {locs : List Loc} (w : Wd base ext DA D E s) (hW : s.WarmedH U.vm) (hS : va_S (Ab base) s.heap U.heap locs) : Wd base ext DA D E U := by
  obtain ⟨⟨w1, w2, w3⟩, w4, ⟨w5, cell, c1, c2, c3⟩, w6, w7, ⟨adV, w8⟩, w9, ⟨v, wa, wb⟩, wc⟩ := w
  have hA := hW.alike
  refine ⟨⟨w1.moved hA, va_AO.moved hA w2, va_AO.moved hA w3⟩, fun x hx hn => ?_, ⟨fun j hj => ?_, cell, ?_, c2, c3⟩, fun j h1 h2 => (va_Z.moved hA (w6 j h1 h2)).kept hS.2.1, fun x hx => vk_R.warm hW (w7 x hx), ⟨adV, (w8.moved hA).kept hS.2.1⟩, (va_Z.moved hA w9).kept hS.2.1, ⟨v, (va_Z.moved hA wa).kept hS.2.1, wb⟩, Nat.le_trans wc hS.1⟩
  · have h1 := w4 x hx hn
    unfold isNst at hn
    split at hn
    · exact va_Nw.warmF hW h1
    · exact va_Nw.warmM hW h1
    · exact va_Nw.warmC hW h1
    · cases hn
  · obtain ⟨h1, h2⟩ := w5 j hj
    exact ⟨(va_X.moved hA h1).kept (hS.2.1 _ (Nat.lt_of_lt_of_le h2 wc) (Nat.not_le.mpr h2)), h2⟩
  · have h2 := (w5 1 (by decide)).2
    rw [hS.2.1 _ (Nat.lt_of_lt_of_le h2 wc) (Nat.not_le.mpr h2)]
    exact c1
theorem Wd.same {U : State} (w : Wd base ext DA D E s) (hv : U.vm = s.vm) (hh : U.heap = s.heap) : Wd base ext DA D E U := by
  obtain ⟨⟨w1, w2, w3⟩, w4, ⟨w5, cell, c1, c2, c3⟩, w6, w7, ⟨adV, w8⟩, w9, ⟨v, wa, wb⟩, wc⟩ := w
  have hA : s.vm.Alike U.vm := by rw [hv]; exact Vm.Alike.refl _
  have hq : ∀ a : Nat, a < s.heap.size → ¬ Ab base a → U.heap[a]? = s.heap[a]? := fun a _ _ => by rw [hh]
  refine ⟨⟨w1.moved hA, va_AO.moved hA w2, va_AO.moved hA w3⟩, fun x hx hn => ?_, ⟨fun j hj => ?_, cell, by rw [hh]; exact c1, c2, c3⟩, fun j h1 h2 => (va_Z.moved hA (w6 j h1 h2)).kept hq, fun x hx => vk_R.same hv (w7 x hx), ⟨adV, (w8.moved hA).kept hq⟩, (va_Z.moved hA w9).kept hq, ⟨v, (va_Z.moved hA wa).kept hq, wb⟩, by rw [hh]; exact wc⟩
  · have h1 := w4 x hx hn
    unfold isNst at hn
    split at hn
    · exact va_Nw.same rfl hv.symm h1
    · exact va_Nw.same rfl hv.symm h1
    · exact va_Nw.same rfl hv.symm h1
    · cases hn
  · obtain ⟨h1, h2⟩ := w5 j hj
    exact ⟨(va_X.moved hA h1).kept (by rw [hh]), h2⟩
end CLONE
