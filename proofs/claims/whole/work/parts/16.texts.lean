/-! THE TEXTS: length and charAt, walked in the JDK's own code -/
def PcJ (base : Nat) (ext : Nat → Nat) (DA : Nat → ClassId) (D : va_G) (E : EX) (vs : List Value) (adV : Nat → Nat) (h : AH) : Array Value → State → Prop := fun a U => a = vs.toArray ∧ Wd base ext DA D E U ∧ vk_S 7 lensS bytsS (fun i => ext (10 + i)) adV (Ab base) U U.heap ∧ Hold base ext DA D h U.heap
def QcJ (base : Nat) (ext : Nat → Nat) (DA : Nat → ClassId) (D : va_G) (r : Option Value) (h : AH) : Array Value → State → Outcome → State → Prop := fun _ st oc t => oc = .returned r ∧ Hold base ext DA D h t.heap ∧ va_F (Ab base) st t
def rmJ (f L : Nat) : Room := { frames := f, cells := 0, slots := 0, locals := L }
theorem PcJ_blind {base : Nat} {ext : Nat → Nat} {DA : Nat → ClassId} {D : va_G} {E : EX} {vs : List Value} {adV : Nat → Nat} {h : AH} : FrameBlind (PcJ base ext DA D E vs adV h) := fun _ U _ _ q => ⟨q.1, q.2.1.same rfl rfl, q.2.2.1.moved (Vm.Alike.refl _), q.2.2.2⟩
def jarr (vs : List Value) (n : Nat) : Array Slot := (lg_sl vs ++ List.replicate (n - (lg_sl vs).length) Slot.unset).toArray
theorem dj31_0 : decode (bM 31) 0 = .ok (.aload_n 0, 1) := by decide +kernel
theorem dj31_1 : decode (bM 31) 1 = .ok (.getfield 9, 3) := by decide +kernel
theorem dj31_4 : decode (bM 31) 4 = .ok (.arraylength, 1) := by decide +kernel
theorem dj31_5 : decode (bM 31) 5 = .ok (.aload_n 0, 1) := by decide +kernel
theorem dj31_6 : decode (bM 31) 6 = .ok (.invokevirtual 335, 3) := by decide +kernel
theorem dj31_9 : decode (bM 31) 9 = .ok (.ishr, 1) := by decide +kernel
theorem dj31_10 : decode (bM 31) 10 = .ok (.ireturn, 1) := by decide +kernel
theorem dj33_0 : decode (bM 33) 0 = .ok (.aload_n 0, 1) := by decide +kernel
theorem dj33_1 : decode (bM 33) 1 = .ok (.invokevirtual 492, 3) := by decide +kernel
theorem dj33_4 : decode (bM 33) 4 = .ok (.ifCond .eq 12, 3) := by decide +kernel
theorem dj33_7 : decode (bM 33) 7 = .ok (.aload_n 0, 1) := by decide +kernel
theorem dj33_8 : decode (bM 33) 8 = .ok (.getfield 9, 3) := by decide +kernel
theorem dj33_11 : decode (bM 33) 11 = .ok (.iload_n 1, 1) := by decide +kernel
theorem dj33_12 : decode (bM 33) 12 = .ok (.invokestatic 495, 3) := by decide +kernel
theorem dj33_15 : decode (bM 33) 15 = .ok (.ireturn, 1) := by decide +kernel
theorem dj33_16 : decode (bM 33) 16 = .ok (.aload_n 0, 1) := by decide +kernel
theorem dj33_17 : decode (bM 33) 17 = .ok (.getfield 9, 3) := by decide +kernel
theorem dj33_20 : decode (bM 33) 20 = .ok (.iload_n 1, 1) := by decide +kernel
theorem dj33_21 : decode (bM 33) 21 = .ok (.invokestatic 498, 3) := by decide +kernel
theorem dj33_24 : decode (bM 33) 24 = .ok (.ireturn, 1) := by decide +kernel
theorem dj32_0 : decode (bM 32) 0 = .ok (.getstatic 38, 3) := by decide +kernel
theorem dj32_3 : decode (bM 32) 3 = .ok (.ifCond .eq 10, 3) := by decide +kernel
theorem dj32_6 : decode (bM 32) 6 = .ok (.aload_n 0, 1) := by decide +kernel
theorem dj32_7 : decode (bM 32) 7 = .ok (.getfield 15, 3) := by decide +kernel
theorem dj32_10 : decode (bM 32) 10 = .ok (.goto 4, 3) := by decide +kernel
theorem dj32_13 : decode (bM 32) 13 = .ok (.iconst 1, 1) := by decide +kernel
theorem dj32_14 : decode (bM 32) 14 = .ok (.ireturn, 1) := by decide +kernel
theorem dj34_0 : decode (bM 34) 0 = .ok (.getstatic 38, 3) := by decide +kernel
theorem dj34_3 : decode (bM 34) 3 = .ok (.ifCond .eq 14, 3) := by decide +kernel
theorem dj34_6 : decode (bM 34) 6 = .ok (.aload_n 0, 1) := by decide +kernel
theorem dj34_7 : decode (bM 34) 7 = .ok (.getfield 15, 3) := by decide +kernel
theorem dj34_10 : decode (bM 34) 10 = .ok (.ifCond .ne 7, 3) := by decide +kernel
theorem dj34_13 : decode (bM 34) 13 = .ok (.iconst 1, 1) := by decide +kernel
theorem dj34_14 : decode (bM 34) 14 = .ok (.goto 4, 3) := by decide +kernel
theorem dj34_17 : decode (bM 34) 17 = .ok (.iconst 0, 1) := by decide +kernel
theorem dj34_18 : decode (bM 34) 18 = .ok (.ireturn, 1) := by decide +kernel
theorem dj36_0 : decode (bM 36) 0 = .ok (.iload_n 0, 1) := by decide +kernel
theorem dj36_1 : decode (bM 36) 1 = .ok (.iload_n 1, 1) := by decide +kernel
theorem dj36_2 : decode (bM 36) 2 = .ok (.getstatic 1053, 3) := by decide +kernel
theorem dj36_5 : decode (bM 36) 5 = .ok (.invokestatic 1059, 3) := by decide +kernel
theorem dj36_8 : decode (bM 36) 8 = .ok (.pop, 1) := by decide +kernel
theorem dj36_9 : decode (bM 36) 9 = .ok (.return_, 1) := by decide +kernel
theorem dj35_0 : decode (bM 35) 0 = .ok (.iload_n 1, 1) := by decide +kernel
theorem dj35_1 : decode (bM 35) 1 = .ok (.aload_n 0, 1) := by decide +kernel
theorem dj35_2 : decode (bM 35) 2 = .ok (.arraylength, 1) := by decide +kernel
theorem dj35_3 : decode (bM 35) 3 = .ok (.invokestatic 9, 3) := by decide +kernel
theorem dj35_6 : decode (bM 35) 6 = .ok (.aload_n 0, 1) := by decide +kernel
theorem dj35_7 : decode (bM 35) 7 = .ok (.iload_n 1, 1) := by decide +kernel
theorem dj35_8 : decode (bM 35) 8 = .ok (.baload, 1) := by decide +kernel
theorem dj35_9 : decode (bM 35) 9 = .ok (.sipush 255, 3) := by decide +kernel
theorem dj35_12 : decode (bM 35) 12 = .ok (.iand, 1) := by decide +kernel
theorem dj35_13 : decode (bM 35) 13 = .ok (.i2c, 1) := by decide +kernel
theorem dj35_14 : decode (bM 35) 14 = .ok (.ireturn, 1) := by decide +kernel
theorem dj37_0 : decode (bM 37) 0 = .ok (.iload_n 0, 1) := by decide +kernel
theorem dj37_1 : decode (bM 37) 1 = .ok (.ifCond .lt 8, 3) := by decide +kernel
theorem dj37_4 : decode (bM 37) 4 = .ok (.iload_n 0, 1) := by decide +kernel
theorem dj37_5 : decode (bM 37) 5 = .ok (.iload_n 1, 1) := by decide +kernel
theorem dj37_6 : decode (bM 37) 6 = .ok (.if_icmp .lt 10, 3) := by decide +kernel
theorem dj37_9 : decode (bM 37) 9 = .ok (.aload_n 2, 1) := by decide +kernel
theorem dj37_10 : decode (bM 37) 10 = .ok (.iload_n 0, 1) := by decide +kernel
theorem dj37_11 : decode (bM 37) 11 = .ok (.iload_n 1, 1) := by decide +kernel
theorem dj37_12 : decode (bM 37) 12 = .ok (.invokestatic 95, 3) := by decide +kernel
theorem dj37_15 : decode (bM 37) 15 = .ok (.athrow, 1) := by decide +kernel
theorem dj37_16 : decode (bM 37) 16 = .ok (.iload_n 0, 1) := by decide +kernel
theorem dj37_17 : decode (bM 37) 17 = .ok (.ireturn, 1) := by decide +kernel
section TEXTS
variable {p : Program} {l : Launch} {e : Env} {R : Room} {s : State} {m : MethodId} {args : Array Value} {below : List Frame} {meth : Method} {c : Code} {Q : State → Prop} {base : Nat} {ext : Nat → Nat} {DA : Nat → ClassId} {D : va_G} {E : EX} {M : Nat} {h : AH} {adV : Nat → Nat}
theorem metJ {y f L : Nat} {vs : List Value} {r : Option Value} (hy : y < nMeth) (hpl : plainName (yM y).cls = true)
    (body : ∀ (p : Program) (e : Env) (s : State) (m : MethodId) (args : Array Value) (below : List Frame) (meth : Method) (c : Code), Cx p s m args meth c y → Wd base ext DA D E s → vk_S 7 lensS bytsS (fun i => ext (10 + i)) adV (Ab base) s s.heap → Hold base ext DA D h s.heap →
      W p l e (rmJ f L) s m args below meth c s.heap [] 0 0 (MQ below (QcJ base ext DA D r h) args s 0 0 (Ab base)) (F0 m 0 (jarr vs (mlM y)) [])) :
    Met l (yM y) (wsY y) (rmJ f L) (PcJ base ext DA D E vs adV h) (QcJ base ext DA D r h) 0 0 (Ab base) := by
  refine Met.ofW (cc := bM y) (maxL := mlM y) (ret := rtM y) hpl rfl ?_
  intro p e s m args below meth c s₁ B hml hv
  obtain ⟨rfl, hW, hK, hH⟩ := hv
  have hts := atoms_spec (ws := wsY y) B.pre
  have C : Cx p s m vs.toArray meth c y := ⟨B.exec, B.bytes, hml, B.returns, by rw [own_ok (Nat.lt_succ_of_lt hy)]; exact findClass_of_methodNamed B.named, B.notSynchronized, Or.inl (name_of_methodNamed B.named B.method).1, fun w hw => hts w (List.mem_cons_of_mem _ hw)⟩
  rw [lg_entry_eq]
  exact body p e s m vs.toArray below meth c C hW hK hH
theorem jS {y i pc f L : Nat} {H : Heap} {locs : List Loc} {cells slots : Nat} {arr : Array Slot} {vs rest : List Value} {r : Option Value} (C : Cx p s m args meth c M) (w : Wd base ext DA D E s) (hK : vk_S 7 lensS bytsS (fun i => ext (10 + i)) adV (Ab base) s s.heap) (hH : Hold base ext DA D h H) (hS : va_S (Ab base) s.heap H locs)
    (hM : Met l (yM y) (wsY y) (rmJ f L) (PcJ base ext DA D E vs adV h) (QcJ base ext DA D r h) 0 0 (Ab base)) (hy : y < nMeth) (hlink : Cond.methodLink (ownS (owM M)) i (yM y) ∈ gTbl) (hini : Cond.initialized (yM y).cls ∈ gTbl) (hstat : Cond.static (yM y) ∈ gTbl)
    (hrm : f + 1 ≤ R.frames ∧ 8 + (mlM y + 11) + L ≤ R.locals) (hn : vs.length = naM y - inst y) (hsz : arr.size = mlM M) (hcs : (rest.map fun v => v.category).sum ≤ 8) (hfit : cells ≤ R.cells ∧ slots ≤ R.slots) (hd : decode (bM M) pc = .ok (.invokestatic i, 3))
    (k : ∀ (H1 : Heap) (locs1 : List Loc), Hold base ext DA D h H1 → va_S (Ab base) s.heap H1 locs1 → W p l e R s m args below meth c H1 locs1 cells slots Q (F0 m (pc + 3) arr (r.toList ++ rest))) : W p l e R s m args below meth c H locs cells slots Q (F0 m pc arr (vs.reverse ++ rest)) := by
  have hts := C.2.2.2.2.2.2.2
  have hSF : CallFix p m c (bM M) (mlM M) s args gTbl (ownS (owM M)) := ⟨C.1, C.2.1, C.2.2.1, C.2.2.2.2.1, hts⟩
  refine my_call (v0 := r) (B := fun t => Hold base ext DA D h t.heap) (mc := 0) (ms := 0) (va_runS (As := vs) (rest := rest) hSF hM ⟨callB_of (naM y - inst y) hts (wsY_good hy) rfl rfl rfl (hts _ hini) (hts _ hlink) (y_hd hy rfl) hrm, hts _ hstat⟩ ⟨PcJ_blind, fun U hU hW => ⟨rfl, w.moved hW (by rw [hU]; exact hS), (hK.moved hW.alike).kept (by rw [hU]; exact hS.2.1), by rw [hU]; exact hH⟩⟩ rfl hn hsz rfl ?_ hd hfit) hS ?_
  · show 2 * 0 + _ ≤ 8
    omega
  · intro t H1 locs1 ht hB hS1
    rw [ht] at hB
    exact k H1 locs1 hB hS1
theorem jV {y i pc f L b : Nat} {H : Heap} {locs : List Loc} {cells slots : Nat} {arr : Array Slot} {As rest : List Value} {r : Option Value} (C : Cx p s m args meth c M) (w : Wd base ext DA D E s) (hK : vk_S 7 lensS bytsS (fun i => ext (10 + i)) adV (Ab base) s s.heap) (hH : Hold base ext DA D h H) (hS : va_S (Ab base) s.heap H locs)
    (hM : Met l (yM y) (wsY y) (rmJ f L) (PcJ base ext DA D E (.ref b :: As) adV h) (QcJ base ext DA D r h) 0 0 (Ab base)) (hy : y < nMeth) (hlink : Cond.methodLink (ownS (owM M)) i (yM y) ∈ gTbl) (hini : Cond.initialized (yM y).cls ∈ gTbl) (hins : Cond.instanceMethod (yM y) ∈ gTbl) (hsel : Cond.selects (yM y).cls (yM y) (yM y) ∈ gTbl)
    (hb : ∃ cell : Cell, H[b]? = some cell ∧ cell.vm.isStatics = false ∧ s.vm.findClass (yM y).cls = some cell.cls)
    (hrm : f + 1 ≤ R.frames ∧ 8 + (mlM y + 11) + L ≤ R.locals) (hn : As.length = naM y - inst y) (hsz : arr.size = mlM M) (hcs : (rest.map fun v => v.category).sum ≤ 8) (hfit : cells ≤ R.cells ∧ slots ≤ R.slots) (hd : decode (bM M) pc = .ok (.invokevirtual i, 3))
    (k : ∀ (H1 : Heap) (locs1 : List Loc), Hold base ext DA D h H1 → va_S (Ab base) s.heap H1 locs1 → W p l e R s m args below meth c H1 locs1 cells slots Q (F0 m (pc + 3) arr (r.toList ++ rest))) : W p l e R s m args below meth c H locs cells slots Q (F0 m pc arr (As.reverse ++ .ref b :: rest)) := by
  have hts := C.2.2.2.2.2.2.2
  have hSF : CallFix p m c (bM M) (mlM M) s args gTbl (ownS (owM M)) := ⟨C.1, C.2.1, C.2.2.1, C.2.2.2.2.1, hts⟩
  refine my_call (v0 := r) (B := fun t => Hold base ext DA D h t.heap) (mc := 0) (ms := 0) (va_runV (As := As) (rest := rest) hSF hM ⟨callB_of (naM y - inst y) hts (wsY_good hy) rfl rfl rfl (hts _ hini) (hts _ hlink) (y_hd hy rfl) hrm, hts _ hins, hts _ hsel⟩ ⟨PcJ_blind, hb, fun U hU hW => ⟨rfl, w.moved hW (by rw [hU]; exact hS), (hK.moved hW.alike).kept (by rw [hU]; exact hS.2.1), by rw [hU]; exact hH⟩⟩ rfl hn hsz rfl ?_ hd hfit) hS ?_
  · show 2 * 0 + _ ≤ 8
    omega
  · intro t H1 locs1 ht hB hS1
    rw [ht] at hB
    exact k H1 locs1 hB hS1
theorem qJ {H : Heap} {locs : List Loc} {r : Option Value} (hH : Hold base ext DA D h H) (hS : va_S (Ab base) s.heap H locs) : ∀ t : State, t.heap = H → s.WarmedH t.vm → QcJ base ext DA D r h args s (.returned r) t := fun t ht _ => ⟨rfl, by rw [ht]; exact hH, hS.F ht⟩
theorem w_links : Cond.fieldLink "java/lang/String" 38 "java/lang/String" "COMPACT_STRINGS" "Z" ∈ gTbl ∧ Cond.fieldLink "java/lang/String" 15 "java/lang/String" "coder" "B" ∈ gTbl ∧ Cond.fieldLink "java/lang/String" 9 "java/lang/String" "value" "[B" ∈ gTbl ∧ Cond.fieldLink "java/lang/String" 1053 "jdk/internal/util/Preconditions" "SIOOBE_FORMATTER" "Ljava/util/function/BiFunction;" ∈ gTbl :=
  ⟨hasG_in (p := 478) (by decide +kernel), hasG_in (p := 1396) (by decide +kernel), hasG_in (p := 1395) (by decide +kernel), hasG_in (p := 494) (by decide +kernel)⟩
theorem w_inis : Cond.initialized (yM 31).cls ∈ gTbl ∧ Cond.initialized (yM 35).cls ∈ gTbl ∧ Cond.initialized (yM 37).cls ∈ gTbl := ⟨hasG_in (p := 79) (by decide +kernel), hasG_in (p := 80) (by decide +kernel), hasG_in (p := 81) (by decide +kernel)⟩
theorem w_len : Cond.instanceMethod (yM 31) ∈ gTbl ∧ Cond.selects (yM 31).cls (yM 31) (yM 31) ∈ gTbl := ⟨hasG_in (p := 471) (by decide +kernel), hasG_in (p := 472) (by decide +kernel)⟩
theorem w_cod : Cond.methodLink (ownS (owM 31)) 335 (yM 32) ∈ gTbl ∧ Cond.instanceMethod (yM 32) ∈ gTbl ∧ Cond.selects (yM 32).cls (yM 32) (yM 32) ∈ gTbl := ⟨hasG_in (p := 474) (by decide +kernel), hasG_in (p := 475) (by decide +kernel), hasG_in (p := 476) (by decide +kernel)⟩
theorem w_cha : Cond.instanceMethod (yM 33) ∈ gTbl ∧ Cond.selects (yM 33).cls (yM 33) (yM 33) ∈ gTbl := ⟨hasG_in (p := 481) (by decide +kernel), hasG_in (p := 482) (by decide +kernel)⟩
theorem w_lat : Cond.methodLink (ownS (owM 33)) 492 (yM 34) ∈ gTbl ∧ Cond.instanceMethod (yM 34) ∈ gTbl ∧ Cond.selects (yM 34).cls (yM 34) (yM 34) ∈ gTbl := ⟨hasG_in (p := 484) (by decide +kernel), hasG_in (p := 485) (by decide +kernel), hasG_in (p := 486) (by decide +kernel)⟩
theorem w_cha1 : Cond.methodLink (ownS (owM 33)) 495 (yM 35) ∈ gTbl ∧ Cond.static (yM 35) ∈ gTbl := ⟨hasG_in (p := 488) (by decide +kernel), hasG_in (p := 489) (by decide +kernel)⟩
theorem w_chk : Cond.methodLink (ownS (owM 35)) 9 (yM 36) ∈ gTbl ∧ Cond.static (yM 36) ∈ gTbl := ⟨hasG_in (p := 491) (by decide +kernel), hasG_in (p := 492) (by decide +kernel)⟩
theorem w_chk3 : Cond.methodLink (ownS (owM 36)) 1059 (yM 37) ∈ gTbl ∧ Cond.static (yM 37) ∈ gTbl := ⟨hasG_in (p := 496) (by decide +kernel), hasG_in (p := 497) (by decide +kernel)⟩
/-- coder() -/
theorem m_coder {i : Nat} (hi : i < 7) : Met l (yM 32) (wsY 32) (rmJ 0 0) (PcJ base ext DA D E [.ref (ext (10 + i))] adV h) (QcJ base ext DA D (some (.int 0)) h) 0 0 (Ab base) := by
  refine metJ (by decide) (by decide +kernel) ?_
  intro p e s m args below meth c C w hK hH
  have hts := C.2.2.2.2.2.2.2
  have hown : s.vm.findClass "java/lang/String" = some m.cls := C.2.2.2.2.1
  have hl : (jarr [.ref (ext (10 + i))] (mlM 32))[0]? = some (.val (.ref (ext (10 + i)))) := rfl
  have hZ := w.2.2.2.2.2.2.1
  refine va_gets (cc := bM 32) (pc := 0) C.1 C.2.1 hZ va_S.rf hown (hts _ w_links.1) (fun _ q => q) dj32_0 ?_
  refine lv_if_eq (cc := bM 32) (pc := 3) (tgt := 13) C.1 C.2.1 dj32_3 (by decide) (fun q => absurd q (by decide)) (fun _ => ?_)
  refine lv_aload_n (cc := bM 32) (pc := 6) C.1 C.2.1 dj32_6 rfl hl ?_
  refine vk_getf (cc := bM 32) (pc := 7) C.1 C.2.1 (hK.1 i hi).2.1 va_S.rf hown (hts _ w_links.2.1) (fun _ q => q) dj32_7 ?_
  refine lv_goto (cc := bM 32) (pc := 10) (tgt := 14) C.1 C.2.1 dj32_10 (by decide) ?_
  exact W.zret (cc := bM 32) (ty := .byte) C.1 C.2.1 C.2.2.2.1 (by decide) (qJ hH va_S.rf) (fun _ q => by cases q) dj32_14 C.2.2.2.2.2.1
/-- isLatin1() -/
theorem m_latin {i : Nat} (hi : i < 7) : Met l (yM 34) (wsY 34) (rmJ 0 0) (PcJ base ext DA D E [.ref (ext (10 + i))] adV h) (QcJ base ext DA D (some (.int 1)) h) 0 0 (Ab base) := by
  refine metJ (by decide) (by decide +kernel) ?_
  intro p e s m args below meth c C w hK hH
  have hts := C.2.2.2.2.2.2.2
  have hown : s.vm.findClass "java/lang/String" = some m.cls := C.2.2.2.2.1
  have hl : (jarr [.ref (ext (10 + i))] (mlM 34))[0]? = some (.val (.ref (ext (10 + i)))) := rfl
  have hZ := w.2.2.2.2.2.2.1
  refine va_gets (cc := bM 34) (pc := 0) C.1 C.2.1 hZ va_S.rf hown (hts _ w_links.1) (fun _ q => q) dj34_0 ?_
  refine lv_if_eq (cc := bM 34) (pc := 3) (tgt := 17) C.1 C.2.1 dj34_3 (by decide) (fun q => absurd q (by decide)) (fun _ => ?_)
  refine lv_aload_n (cc := bM 34) (pc := 6) C.1 C.2.1 dj34_6 rfl hl ?_
  refine vk_getf (cc := bM 34) (pc := 7) C.1 C.2.1 (hK.1 i hi).2.1 va_S.rf hown (hts _ w_links.2.1) (fun _ q => q) dj34_7 ?_
  refine lv_if_ne (cc := bM 34) (pc := 10) (tgt := 17) C.1 C.2.1 dj34_10 (by decide) (fun q => absurd rfl q) (fun _ => ?_)
  refine lv_iconst (cc := bM 34) (pc := 13) C.1 C.2.1 dj34_13 (v := 1) rfl ?_
  refine lv_goto (cc := bM 34) (pc := 14) (tgt := 18) C.1 C.2.1 dj34_14 (by decide) ?_
  exact W.zret (cc := bM 34) (ty := .boolean) C.1 C.2.1 C.2.2.2.1 (by decide) (qJ hH va_S.rf) (fun _ q => by cases q) dj34_18 C.2.2.2.2.2.1
/-- Preconditions.checkIndex -/
theorem m_chk3 {j n : Int32} {v : Value} (hv : v = .null ∨ ∃ a, v = .ref a) (h0 : ¬ j < 0) (hn : j < n) : Met l (yM 37) (wsY 37) (rmJ 0 0) (PcJ base ext DA D E [.int j, .int n, v] adV h) (QcJ base ext DA D (some (.int j)) h) 0 0 (Ab base) := by
  refine metJ (by decide) (by decide +kernel) ?_
  intro p e s m args below meth c C w hK hH
  have hl0 : (jarr [.int j, .int n, v] (mlM 37))[0]? = some (.val (.int j)) := by rcases hv with rfl | ⟨a, rfl⟩ <;> rfl
  have hl1 : (jarr [.int j, .int n, v] (mlM 37))[1]? = some (.val (.int n)) := by rcases hv with rfl | ⟨a, rfl⟩ <;> rfl
  refine lv_iload_n (cc := bM 37) (pc := 0) C.1 C.2.1 dj37_0 rfl hl0 ?_
  refine lv_if_lt (cc := bM 37) (pc := 1) (tgt := 9) C.1 C.2.1 dj37_1 (by decide) (fun q => absurd q h0) (fun _ => ?_)
  refine lv_iload_n (cc := bM 37) (pc := 4) C.1 C.2.1 dj37_4 rfl hl0 ?_
  refine lv_iload_n (cc := bM 37) (pc := 5) C.1 C.2.1 dj37_5 rfl hl1 ?_
  refine lv_icmp_lt (cc := bM 37) (pc := 6) (tgt := 16) C.1 C.2.1 dj37_6 (by decide) (fun _ => ?_) (fun q => absurd hn q)
  refine lv_iload_n (cc := bM 37) (pc := 16) C.1 C.2.1 dj37_16 rfl hl0 ?_
  exact W.iret (cc := bM 37) C.1 C.2.1 C.2.2.2.1 (qJ hH va_S.rf) (fun _ q => by cases q) dj37_17 C.2.2.2.2.2.1
/-- String.checkIndex -/
theorem m_chk {j n : Int32} (h0 : ¬ j < 0) (hn : j < n) : Met l (yM 36) (wsY 36) (rmJ 1 22) (PcJ base ext DA D E [.int j, .int n] adV h) (QcJ base ext DA D none h) 0 0 (Ab base) := by
  refine metJ (by decide) (by decide +kernel) ?_
  intro p e s m args below meth c C w hK hH
  have hts := C.2.2.2.2.2.2.2
  have hown : s.vm.findClass "java/lang/String" = some m.cls := C.2.2.2.2.1
  have hl0 : (jarr [.int j, .int n] (mlM 36))[0]? = some (.val (.int j)) := rfl
  have hl1 : (jarr [.int j, .int n] (mlM 36))[1]? = some (.val (.int n)) := rfl
  obtain ⟨v, hZ, hv⟩ := w.2.2.2.2.2.2.2.1
  refine lv_iload_n (cc := bM 36) (pc := 0) C.1 C.2.1 dj36_0 rfl hl0 ?_
  refine lv_iload_n (cc := bM 36) (pc := 1) C.1 C.2.1 dj36_1 rfl hl1 ?_
  refine va_gets (cc := bM 36) (pc := 2) C.1 C.2.1 hZ va_S.rf hown (hts _ w_links.2.2.2) (fun _ q => q) dj36_2 ?_
  refine jS (pc := 5) (y := 37) (f := 0) (L := 0) (vs := [.int j, .int n, v]) (rest := []) C w hK hH va_S.rf (m_chk3 hv h0 hn) (by decide) w_chk3.1 w_inis.2.2 w_chk3.2 (by decide) rfl rfl (by decide) (by decide) dj36_5 (fun H1 locs1 hH1 hS1 => ?_)
  refine lv_pop (cc := bM 36) (pc := 8) C.1 C.2.1 dj36_8 rfl ?_
  exact W.vret (cc := bM 36) C.1 C.2.1 C.2.2.2.1 (qJ hH1 hS1) hS1.2.2 dj36_9 C.2.2.2.2.2.1
def chJ (i : Nat) (j : Nat) : Int32 := (((bytsS.getD i []).getD j 0 &&& 255).toUInt32 % 65536).toInt32
theorem chJ_ok : ∀ i : Nat, i < 7 → ∀ j : Nat, j < lensS.getD i 0 → chJ i j = (strCh i).getD j 0 ∧ narrow .char (.int (chJ i j)) = .int (chJ i j) := by decide +kernel
theorem len_ok : ∀ i : Nat, i < 7 → lensS.getD i 0 = strLen i ∧ Int32.ofNat (lensS.getD i 0) >>> ((0 : Int32) &&& 31) = Int32.ofNat (strLen i) ∧ (Int32.ofNat (lensS.getD i 0)).toInt = (lensS.getD i 0 : Int) := by decide +kernel
theorem vp_lt {j : Int32} {n : Nat} (h : vp_in j n) (hn : (Int32.ofNat n).toInt = (n : Int)) : ¬ j < 0 ∧ j < Int32.ofNat n ∧ j.toNatClampNeg < n := by
  have h1 : ¬ j < 0 := fun q => h (Or.inl q)
  have h2 : j.toNatClampNeg < n := Nat.not_le.mp fun q => h (Or.inr q)
  refine ⟨h1, ?_, h2⟩
  rw [Int32.lt_iff_toInt_lt, hn]
  have h3 : (0 : Int) ≤ j.toInt := by
    have := Int32.not_lt.mp h1
    simpa using Int32.le_iff_toInt_le.mp this
  have h4 : j.toInt.toNat < n := h2
  omega
/-- StringLatin1.charAt -/
theorem m_cha1 {i : Nat} {j : Int32} (hi : i < 7) (hj : vp_in j (lensS.getD i 0)) : Met l (yM 35) (wsY 35) (rmJ 2 43) (PcJ base ext DA D E [.ref (adV i), .int j] adV h) (QcJ base ext DA D (some (.int (chJ i j.toNatClampNeg))) h) 0 0 (Ab base) := by
  refine metJ (by decide) (by decide +kernel) ?_
  intro p e s m args below meth c C w hK hH
  have hl0 : (jarr [.ref (adV i), .int j] (mlM 35))[0]? = some (.val (.ref (adV i))) := rfl
  have hl1 : (jarr [.ref (adV i), .int j] (mlM 35))[1]? = some (.val (.int j)) := rfl
  obtain ⟨j1, j2, j3⟩ := vp_lt hj (len_ok i hi).2.2
  have hT := (hK.1 i hi).2.2.2
  refine lv_iload_n (cc := bM 35) (pc := 0) C.1 C.2.1 dj35_0 rfl hl1 ?_
  refine lv_aload_n (cc := bM 35) (pc := 1) C.1 C.2.1 dj35_1 rfl hl0 ?_
  refine va_tlen (cc := bM 35) (pc := 2) C.1 C.2.1 hT va_S.rf rfl dj35_2 ?_
  refine jS (pc := 3) (y := 36) (f := 1) (L := 22) (vs := [.int j, .int (Int32.ofNat (lensS.getD i 0))]) (rest := []) C w hK hH va_S.rf (m_chk j1 j2) (by decide) w_chk.1 w_inis.1 w_chk.2 (by decide) rfl rfl (by decide) (by decide) dj35_3 (fun H1 locs1 hH1 hS1 => ?_)
  refine lv_aload_n (cc := bM 35) (pc := 6) C.1 C.2.1 dj35_6 rfl hl0 ?_
  refine lv_iload_n (cc := bM 35) (pc := 7) C.1 C.2.1 dj35_7 rfl hl1 ?_
  refine va_tb (cc := bM 35) (pc := 8) C.1 C.2.1 hT hS1 hj rfl dj35_8 ?_
  refine lv_sipush (cc := bM 35) (pc := 9) C.1 C.2.1 dj35_9 (v := 255) rfl ?_
  refine lv_iand (cc := bM 35) (pc := 12) C.1 C.2.1 dj35_12 ?_
  refine lv_i2c (cc := bM 35) (pc := 13) C.1 C.2.1 dj35_13 (v := chJ i j.toNatClampNeg) rfl ?_
  exact W.zret (cc := bM 35) (ty := .char) C.1 C.2.1 C.2.2.2.1 (chJ_ok i hi _ j3).2 (qJ hH1 hS1) hS1.2.2 dj35_14 C.2.2.2.2.2.1
/-- String.charAt -/
theorem m_cha {i : Nat} {j : Int32} (hi : i < 7) (hj : vp_in j (lensS.getD i 0)) : Met l (yM 33) (wsY 33) (rmJ 3 64) (PcJ base ext DA D E [.ref (ext (10 + i)), .int j] adV h) (QcJ base ext DA D (some (.int (chJ i j.toNatClampNeg))) h) 0 0 (Ab base) := by
  refine metJ (by decide) (by decide +kernel) ?_
  intro p e s m args below meth c C w hK hH
  have hts := C.2.2.2.2.2.2.2
  have hown : s.vm.findClass "java/lang/String" = some m.cls := C.2.2.2.2.1
  have hl0 : (jarr [.ref (ext (10 + i)), .int j] (mlM 33))[0]? = some (.val (.ref (ext (10 + i)))) := rfl
  have hl1 : (jarr [.ref (ext (10 + i)), .int j] (mlM 33))[1]? = some (.val (.int j)) := rfl
  obtain ⟨j1, j2, j3⟩ := vp_lt hj (len_ok i hi).2.2
  refine lv_aload_n (cc := bM 33) (pc := 0) C.1 C.2.1 dj33_0 rfl hl0 ?_
  refine jV (pc := 1) (y := 34) (f := 0) (L := 0) (As := []) (rest := []) C w hK hH va_S.rf (m_latin hi) (by decide) w_lat.1 w_inis.1 w_lat.2.1 w_lat.2.2 (vk_recv (adK := fun i => ext (10 + i)) hK hi va_S.rf) (by decide) (by decide) rfl (by decide) (by decide) dj33_1 (fun H1 locs1 hH1 hS1 => ?_)
  refine lv_if_eq (cc := bM 33) (pc := 4) (tgt := 16) C.1 C.2.1 dj33_4 (by decide) (fun q => absurd q (by decide)) (fun _ => ?_)
  refine lv_aload_n (cc := bM 33) (pc := 7) C.1 C.2.1 dj33_7 rfl hl0 ?_
  refine vk_getf (cc := bM 33) (pc := 8) C.1 C.2.1 (hK.1 i hi).2.2.1 hS1 hown (hts _ w_links.2.2.1) (fun _ q => q) dj33_8 ?_
  refine lv_iload_n (cc := bM 33) (pc := 11) C.1 C.2.1 dj33_11 rfl hl1 ?_
  refine jS (pc := 12) (y := 35) (f := 2) (L := 43) (vs := [.ref (adV i), .int j]) (rest := []) C w hK hH1 hS1 (m_cha1 hi hj) (by decide) w_cha1.1 w_inis.2.1 w_cha1.2 (by decide) rfl rfl (by decide) (by decide) dj33_12 (fun H2 locs2 hH2 hS2 => ?_)
  exact W.zret (cc := bM 33) (ty := .char) C.1 C.2.1 C.2.2.2.1 (chJ_ok i hi _ j3).2 (qJ hH2 hS2) hS2.2.2 dj33_15 C.2.2.2.2.2.1
/-- String.length -/
theorem m_len {i : Nat} (hi : i < 7) : Met l (yM 31) (wsY 31) (rmJ 1 20) (PcJ base ext DA D E [.ref (ext (10 + i))] adV h) (QcJ base ext DA D (some (.int (Int32.ofNat (strLen i)))) h) 0 0 (Ab base) := by
  refine metJ (by decide) (by decide +kernel) ?_
  intro p e s m args below meth c C w hK hH
  have hts := C.2.2.2.2.2.2.2
  have hown : s.vm.findClass "java/lang/String" = some m.cls := C.2.2.2.2.1
  have hl0 : (jarr [.ref (ext (10 + i))] (mlM 31))[0]? = some (.val (.ref (ext (10 + i)))) := rfl
  have hT := (hK.1 i hi).2.2.2
  refine lv_aload_n (cc := bM 31) (pc := 0) C.1 C.2.1 dj31_0 rfl hl0 ?_
  refine vk_getf (cc := bM 31) (pc := 1) C.1 C.2.1 (hK.1 i hi).2.2.1 va_S.rf hown (hts _ w_links.2.2.1) (fun _ q => q) dj31_1 ?_
  refine va_tlen (cc := bM 31) (pc := 4) C.1 C.2.1 hT va_S.rf rfl dj31_4 ?_
  refine lv_aload_n (cc := bM 31) (pc := 5) C.1 C.2.1 dj31_5 rfl hl0 ?_
  refine jV (pc := 6) (y := 32) (f := 0) (L := 0) (As := []) (rest := [.int (Int32.ofNat (lensS.getD i 0))]) C w hK hH va_S.rf (m_coder hi) (by decide) w_cod.1 w_inis.1 w_cod.2.1 w_cod.2.2 (vk_recv (adK := fun i => ext (10 + i)) hK hi va_S.rf) (by decide) rfl rfl (by show (1 + 0 : Nat) ≤ 8; decide) (by decide) dj31_6 (fun H1 locs1 hH1 hS1 => ?_)
  refine lv_ishr (cc := bM 31) (pc := 9) C.1 C.2.1 dj31_9 ?_
  rw [(len_ok i hi).2.1]
  exact W.iret (cc := bM 31) C.1 C.2.1 C.2.2.2.1 (qJ hH1 hS1) hS1.2.2 dj31_10 C.2.2.2.2.2.1
end TEXTS
theorem cs_le {base : Nat} {ext : Nat → Nat} {r : List Value} (h : cs r ≤ 8) : ((r.map (cv base ext)).map fun v => v.category).sum ≤ 8 := by
  rw [cs_map]
  exact h
theorem strLen_ok (l : Launch) (E : EX) : StrLenOk l E := by
  intro p e R s m args below meth c Q base ext DA D n0 s0 M pc nx k0 a j ls r h C w hRf hRl hRc hRs hk0 ha1 ha2 hcs hok hc k
  obtain ⟨ins, w1, jx, q, hnx, hd, hf, hl, hw1, hr⟩ := intr_get hc
  rw [hk0] at hr
  simp only [Bool.and_eq_true, decide_eq_true_eq] at hr
  obtain ⟨⟨⟨rfl, hg⟩, g1⟩, g2⟩ := hr
  have g1 := Nat.le_of_ble_eq_true g1
  have g2 := Nat.le_of_ble_eq_true g2
  rw [hw1] at hg
  obtain ⟨i, rfl, hi⟩ : ∃ i, a = 1000010 + i ∧ i < 7 := ⟨a - 1000010, by omega, by omega⟩
  have hca : cv base ext (.ref (1000010 + i)) = .ref (ext (10 + i)) := by
    show Value.ref (ca base ext (1000010 + i)) = _
    have e0 : 1000010 + i - 1000000 = 10 + i := by omega
    rw [ca, if_neg (by omega), e0]
  intro H locs arr hH hS hL
  have k1 := fun H1 locs1 q1 q2 => k H1 locs1 arr q1 q2 hL
  simp only [hnx] at k1
  obtain ⟨adV, hK⟩ := w.2.2.2.2.2.1
  show W p l e R s m args below meth c H locs _ _ Q (F0 m (pc % 10000) arr (cv base ext (.ref (1000010 + i)) :: r.map (cv base ext)))
  rw [hca]
  have e1 : 1000010 + i - 1000010 = i := by omega
  simp only [e1] at k1
  exact jV (pc := pc % 10000) (y := 31) (f := 1) (L := 20) (As := []) (rest := r.map (cv base ext)) C w hK hH hS (m_len hi) (by decide) (hasG_in hg) w_inis.1 w_len.1 w_len.2 (vk_recv (adK := fun i => ext (10 + i)) hK hi hS) ⟨by omega, by show 8 + (1 + 11) + 20 ≤ _; omega⟩ rfl hL.1 (cs_le hcs) ⟨hRc, hRs⟩ hd (fun H1 locs1 hH1 hS1 => k1 H1 locs1 hH1 hS1)
theorem strCh_ok (l : Launch) (E : EX) : StrChOk l E := by
  intro p e R s m args below meth c Q base ext DA D n0 s0 M pc nx k0 a j ls r h C w hRf hRl hRc hRs hk0 ha1 ha2 hcs hok hc k
  obtain ⟨ins, w1, jx, q, hnx, hd, hf, hl, hw1, hr⟩ := intr_get hc
  rw [hk0] at hr
  simp only [Bool.and_eq_true, decide_eq_true_eq] at hr
  obtain ⟨⟨⟨rfl, hg⟩, g1⟩, g2⟩ := hr
  have g1 := Nat.le_of_ble_eq_true g1
  have g2 := Nat.le_of_ble_eq_true g2
  rw [hw1] at hg
  obtain ⟨i, rfl, hi⟩ : ∃ i, a = 1000010 + i ∧ i < 7 := ⟨a - 1000010, by omega, by omega⟩
  have hca : cv base ext (.ref (1000010 + i)) = .ref (ext (10 + i)) := by
    show Value.ref (ca base ext (1000010 + i)) = _
    have e0 : 1000010 + i - 1000000 = 10 + i := by omega
    rw [ca, if_neg (by omega), e0]
  have e1 : 1000010 + i - 1000010 = i := by omega
  have hok : vinB j (strLen (1000010 + i - 1000010)) = true := hok
  rw [e1, ← (len_ok i hi).1] at hok
  have hj := vin_of hok
  obtain ⟨j1, j2, j3⟩ := vp_lt hj (len_ok i hi).2.2
  intro H locs arr hH hS hL
  have k1 := fun H1 locs1 q1 q2 => k H1 locs1 arr q1 q2 hL
  simp only [hnx, e1] at k1
  rw [← (chJ_ok i hi _ j3).1] at k1
  obtain ⟨adV, hK⟩ := w.2.2.2.2.2.1
  show W p l e R s m args below meth c H locs _ _ Q (F0 m (pc % 10000) arr (.int j :: cv base ext (.ref (1000010 + i)) :: r.map (cv base ext)))
  rw [hca]
  exact jV (pc := pc % 10000) (y := 33) (f := 3) (L := 64) (As := [.int j]) (rest := r.map (cv base ext)) C w hK hH hS (m_cha hi hj) (by decide) (hasG_in hg) w_inis.1 w_cha.1 w_cha.2 (vk_recv (adK := fun i => ext (10 + i)) hK hi hS) ⟨by omega, by show 8 + (2 + 11) + 64 ≤ _; omega⟩ rfl hL.1 (cs_le hcs) ⟨hRc, hRs⟩ hd (fun H1 locs1 hH1 hS1 => k1 H1 locs1 hH1 hS1)
/-- what the engine runs, the machine does -/
theorem snd (l : Launch) (E : EX) (F : Nat) : Snd l E F := run_sound (strLen_ok l E) (strCh_ok l E) F
