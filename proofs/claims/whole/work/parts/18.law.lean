/-! THE LAW: its walk, out of a run of the engine -/
def h00 : AH := ([], fun _ _ => 0, fun _ _ => 0)
theorem law_W {p : Program} {e : Env} {s : State} {m : MethodId} {below : List Frame} {meth : Method} {c : Code} {Q : State → Prop} (l : Launch) {b L : Nat} {xs : Nat → Int32} (hx : p.tables.exec = Jvm.exec) (hb : c.code = code) (hr : meth.sig.returnType = ret) (hml : c.maxLocals = 4) (hown : s.vm.findClass "OnlyBatteriesLaw" = some m.cls) (hts : ∀ w ∈ lw_tbl, w.before #[Value.ref b] s = true) (hX : va_X b L xs s s.heap) (hbl : b < s.heap.size) (hlocks : meth.locks = false) (hgv : (Jvm.Cond.and given_1 narrow_1).before #[Value.ref b] s = true)
    {F : Nat} {h1 : AH} (hrun : run (EE L xs) F 217 0 [.ref 1000000] [] h00 = some (some (.int 1), h1)) (hc : h1.1.length ≤ 600000) (hsl : sl h1.1 ≤ 7302250)
    (hend : ∀ (H : Heap) (ls : Array Slot) (pc : Nat), decode code pc = .ok (.ireturn, 1) → W p l e room_1 s m #[Value.ref b] below meth c H [] 600000 7302250 Q (F0 m pc ls [.int 1])) : W p l e room_1 s m #[Value.ref b] below meth c s.heap [] 0 0 Q (entryFrame m ([Value.ref b] : List Value).toArray 4) := by
  obtain ⟨ext, DA, D, he, w⟩ := wd_start hts hX hbl hgv
  have C : Cx p s m #[Value.ref b] meth c 217 := ⟨hx, hb, hml, hr, hown, hlocks, Or.inr rfl, fun w hw => hts w (List.mem_filter.mp hw).1⟩
  have hH : Hold s.heap.size ext DA D h00 s.heap := ⟨⟨rfl, Nat.zero_le _⟩, fun k q hq => by simp [cz, h00] at hq⟩
  have hcv : cv s.heap.size ext (.ref 1000000) = .ref b := by
    show Value.ref (ca s.heap.size ext 1000000) = _
    rw [ca, if_neg (by decide)]
    show Value.ref (ext 0) = _
    rw [he]
  have hL : LHd s.heap.size ext [.ref 1000000] ((lg_sl ([Value.ref b] : List Value) ++ List.replicate (4 - (lg_sl ([Value.ref b] : List Value)).length) Slot.unset).toArray) 4 := by
    have h := LHd.entry (base := s.heap.size) (ext := ext) (av := [.ref 1000000]) (n := 4) (by decide)
    have e1 : ([Value.ref 1000000] : List Value).map (cv s.heap.size ext) = [Value.ref b] := by rw [List.map_cons, hcv]; rfl
    rw [e1] at h
    exact h
  rw [lg_entry_eq]
  have key := snd l (EE L xs) F 217 0 [.ref 1000000] [] h00 h1 (some (.int 1)) hrun p e room_1 s m #[Value.ref b] below meth c Q s.heap.size ext DA D 0 0 C w (by decide) (by decide) (Nat.zero_le _) (Nat.zero_le _) (by show h1.1.length - 0 ≤ 600000; omega) (by show sl h1.1 - 0 ≤ 7302250; omega) ?_ s.heap [] _ hH va_S.rf hL
  · exact key
  · intro H1 locs1 arr1 rp hH1 hS1 hro hd
    refine va_forget (fun q hq => hS1.2.2 q hq) ?_
    refine W.widen (k := 600000) (n := 7302250) (by omega) (by omega) ?_
    have hd2 : decode code rp = .ok (.ireturn, 1) := by
      have e : retI 217 = .ireturn := by decide
      rw [e] at hd
      exact hd
    exact hend H1 arr1 rp hd2
