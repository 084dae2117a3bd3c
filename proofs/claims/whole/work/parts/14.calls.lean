/-! THE CALLS: what the engine runs, the machine does -/
def retI (M : Nat) : Instr := match rkM M with
  | 0 => .return_
  | 3 => .lreturn
  | 4 => .areturn
  | _ => .ireturn
def retOk (M : Nat) (r : Option Value) : Prop := (rkM M = 0 ∧ r = none) ∨ (rkM M = 1 ∧ ∃ v, r = some (.int v)) ∨ (rkM M = 2 ∧ ∃ v, r = some (.int v) ∧ (v = 0 ∨ v = 1)) ∨ (rkM M = 3 ∧ ∃ v, r = some (.long v)) ∨ (rkM M = 4 ∧ ((∃ a, r = some (.ref a)) ∨ r = some .null))
def Snd (l : Launch) (E : EX) (F : Nat) : Prop := ∀ (M pc : Nat) (ls st : List Value) (h h1 : AH) (r : Option Value), run E F M pc ls st h = some (r, h1) →
  ∀ (p : Program) (e : Env) (R : Room) (s : State) (m : MethodId) (args : Array Value) (below : List Frame) (meth : Method) (c : Code) (Q : State → Prop) (base : Nat) (ext : Nat → Nat) (DA : Nat → ClassId) (D : va_G) (n0 s0 : Nat),
    Cx p s m args meth c M → Wd base ext DA D E s → frM M ≤ R.frames → loM M ≤ R.locals → n0 ≤ h.1.length → s0 ≤ sl h.1 → h1.1.length - n0 ≤ R.cells → sl h1.1 - s0 ≤ R.slots →
    (∀ (H1 : Heap) (locs1 : List Loc) (arr1 : Array Slot) (rp : Nat), Hold base ext DA D h1 H1 → va_S (Ab base) s.heap H1 locs1 → retOk M r → decode (bM M) rp = .ok (retI M, 1) → W p l e R s m args below meth c H1 locs1 (h1.1.length - n0) (sl h1.1 - s0) Q (F0 m rp arr1 ((r.map (cv base ext)).toList))) →
    WW p l e R s m args below meth c Q base ext DA D n0 s0 M pc ls st h
def PcY (base : Nat) (ext : Nat → Nat) (DA : Nat → ClassId) (D : va_G) (E : EX) (av : List Value) (h : AH) : Array Value → State → Prop := fun a U => a = (av.map (cv base ext)).toArray ∧ Wd base ext DA D E U ∧ Hold base ext DA D h U.heap
def QcY (base : Nat) (ext : Nat → Nat) (DA : Nat → ClassId) (D : va_G) (r : Option Value) (h1 : AH) : Array Value → State → Outcome → State → Prop := fun _ st oc t => oc = .returned (r.map (cv base ext)) ∧ Hold base ext DA D h1 t.heap ∧ va_F (Ab base) st t
def wsY (y : Nat) : List Cond := Cond.code (yM y) (bM y) (mlM y) (rtM y) :: gTbl
def rmY (y mc ms : Nat) : Room := { frames := frM y, cells := mc, slots := ms, locals := loM y }
theorem PcY_blind {base : Nat} {ext : Nat → Nat} {DA : Nat → ClassId} {D : va_G} {E : EX} {av : List Value} {h : AH} : FrameBlind (PcY base ext DA D E av h) := fun a U g mk q => ⟨q.1, q.2.1.same rfl rfl, q.2.2⟩
theorem rk_ok {M : Nat} (hM : M < nMeth + 1) : rkOk M = true := List.all_eq_true.mp rk_all M (List.mem_range.mpr hM)
theorem nar_bool {v : Int32} (h : v = 0 ∨ v = 1) : narrow .boolean (.int v) = .int v := by
  rcases h with rfl | rfl <;> rfl
theorem met_of {l : Launch} {E : EX} {F : Nat} (hF : Snd l E F) {y : Nat} (hy : y < nMeth) (hne : (cdT.getD y []).isEmpty = false) {av : List Value} {h h1 : AH} {r : Option Value} (hr : run E F y 0 (ent av) [] h = some (r, h1)) (hav : (ent av).length ≤ mlM y) (base : Nat) (ext : Nat → Nat) (DA : Nat → ClassId) (D : va_G) :
    Met l (yM y) (wsY y) (rmY y (h1.1.length - h.1.length) (sl h1.1 - sl h.1)) (PcY base ext DA D E av h) (QcY base ext DA D r h1) (h1.1.length - h.1.length) (sl h1.1 - sl h.1) (Ab base) := by
  have hpl : plainName (yM y).cls = true := by
    have h1 := y_ok y (Nat.lt_succ_of_lt hy)
    simp only [chkY, Bool.and_eq_true, Bool.or_eq_true, hne] at h1
    exact h1.1.1.1.1.1.2.resolve_right (by decide)
  refine Met.ofW (cc := bM y) (maxL := mlM y) (ret := rtM y) hpl rfl ?_
  intro p e s m args below meth c s₁ B hml hv
  obtain ⟨rfl, hW, hH⟩ := hv
  have hts := atoms_spec (ws := wsY y) B.pre
  have hown := findClass_of_methodNamed B.named
  have hname := (name_of_methodNamed B.named B.method).1
  have C : Cx p s m (av.map (cv base ext)).toArray meth c y := ⟨B.exec, B.bytes, hml, B.returns, by rw [own_ok (Nat.lt_succ_of_lt hy)]; exact hown, B.notSynchronized, Or.inl hname, fun w hw => hts w (List.mem_cons_of_mem _ hw)⟩
  have hnl : meth.locks = false := B.notSynchronized
  rw [lg_entry_eq]
  have hL := LHd.entry (base := base) (ext := ext) hav
  have hrk := rk_ok (Nat.lt_succ_of_lt hy)
  have key := hF y 0 (ent av) [] h h1 r hr p e (rmY y (h1.1.length - h.1.length) (sl h1.1 - sl h.1)) s m (av.map (cv base ext)).toArray below meth c (MQ below (QcY base ext DA D r h1) (av.map (cv base ext)).toArray s (h1.1.length - h.1.length) (sl h1.1 - sl h.1) (Ab base)) base ext DA D h.1.length (sl h.1) C hW (Nat.le_refl _) (Nat.le_refl _) (Nat.le_refl _) (Nat.le_refl _) (Nat.le_refl _) (Nat.le_refl _) (fun H1 locs1 arr1 rp hH1 hS1 hro hd => ?_) s.heap [] _ hH va_S.rf hL
  · rw [Nat.sub_self, Nat.sub_self] at key
    exact key
  · have hqq : ∀ t : State, t.heap = H1 → s.WarmedH t.vm → QcY base ext DA D r h1 (av.map (cv base ext)).toArray s (.returned (r.map (cv base ext))) t := fun t ht _ => ⟨rfl, by rw [ht]; exact hH1, hS1.F ht⟩
    unfold rkOk at hrk
    unfold retI at hd
    rcases hro with ⟨h0, rfl⟩ | ⟨h0, v, rfl⟩ | ⟨h0, v, rfl, hv⟩ | ⟨h0, v, rfl⟩ | ⟨h0, h2⟩
    · rw [h0] at hrk hd
      exact W.vret C.1 C.2.1 (C.2.2.2.1.trans (of_decide_eq_true hrk)) hqq hS1.2.2 hd hnl
    · rw [h0] at hrk hd
      exact W.iret C.1 C.2.1 (C.2.2.2.1.trans (of_decide_eq_true hrk)) hqq hS1.2.2 hd hnl
    · rw [h0] at hrk hd
      exact W.zret C.1 C.2.1 (C.2.2.2.1.trans (of_decide_eq_true hrk)) (nar_bool hv) hqq hS1.2.2 hd hnl
    · rw [h0] at hrk hd
      exact W.lret C.1 C.2.1 (C.2.2.2.1.trans (of_decide_eq_true hrk)) hqq hS1.2.2 hd hnl
    · rw [h0] at hrk hd
      simp only [hne] at hrk
      split at hrk
      · next n hn =>
        rcases h2 with ⟨a, rfl⟩ | rfl
        · exact W.aret (v := .ref (ca base ext a)) C.1 C.2.1 (C.2.2.2.1.trans hn) (Or.inl ⟨_, rfl⟩) (Or.inr ⟨_, rfl⟩) hqq hS1.2.2 hd hnl
        · exact W.aret (v := .null) C.1 C.2.1 (C.2.2.2.1.trans hn) (Or.inl ⟨_, rfl⟩) (Or.inl rfl) hqq hS1.2.2 hd hnl
      · cases hrk
theorem split_st {st : List Value} {n : Nat} {v : Value} (h1 : 1 ≤ n) (hv : st[n - 1]? = some v) : (st.take n).reverse = v :: (st.take (n - 1)).reverse ∧ st = st.take (n - 1) ++ v :: st.drop n := by
  obtain ⟨k, rfl⟩ : ∃ k, n = k + 1 := ⟨n - 1, by omega⟩
  simp only [Nat.add_sub_cancel] at hv ⊢
  have hk : k < st.length := (List.getElem?_eq_some_iff.mp hv).1
  have e1 : st.take (k + 1) = st.take k ++ [v] := by
    rw [List.take_add_one, hv]
    rfl
  refine ⟨by rw [e1]; simp, ?_⟩
  conv => lhs; rw [← List.take_append_drop (k + 1) st, e1]
  simp
section CALLS
variable {p : Program} {l : Launch} {e : Env} {R : Room} {s : State} {m : MethodId} {args : Array Value} {below : List Frame} {meth : Method} {c : Code} {Q : State → Prop} {base : Nat} {ext : Nat → Nat} {DA : Nat → ClassId} {D : va_G} {E : EX} {n0 s0 M pc nx : Nat} {ls st : List Value} {h h1 : AH}
theorem my_call {H : Heap} {locs : List Loc} {cells slots mc ms rp : Nat} {arr : Array Slot} {st0 rest : List Value} {A : Nat → Prop} {v0 : Option Value} {B : State → Prop} (hr : va_Run p l e R s m args below meth c H locs cells slots mc ms (F0 m rp arr st0) rest (fun st oc t => oc = .returned v0 ∧ B t ∧ va_F A st t) A) (hS : va_S A s.heap H locs)
    (kk : ∀ (t : State) (H1 : Heap) (locs1 : List Loc), t.heap = H1 → B t → va_S A s.heap H1 locs1 → W p l e R s m args below meth c H1 locs1 (cells + mc) (slots + ms) Q (F0 m (rp + 3) arr (v0.toList ++ rest))) : W p l e R s m args below meth c H locs cells slots Q (F0 m rp arr st0) := by
  intro T hT X
  obtain ⟨v, st₀, t, T', L, g0, X', hL, e1, e2, ⟨hv, hb, hz, hk⟩, stp⟩ := hr T hT X
  have hv : v = v0 := Outcome.returned.inj hv
  subst hv
  rw [g0] at hz hk
  obtain ⟨t2, a1, b1⟩ := kk t T'.heap (locs ++ L) e1.symm hb
    ⟨Nat.le_trans hS.1 (by rw [e1]; exact hz), fun q q1 q2 => by rw [e1, hk q (Nat.lt_of_lt_of_le q1 hS.1) q2]; exact hS.2.1 q q1 q2, fun q hq => by
      rcases List.mem_append.mp hq with z | z
      · exact hS.2.2 q z
      · exact hL q z⟩ T' rfl X'
  exact ⟨t2, stp t2 a1, b1⟩
/-- a call's entry, read -/
theorem me_get (C : Cx p s m args meth c M) (w : Wd base ext DA D E s) {i n o j mi kd : Nat} {nest : Bool} {p1 p2 p3 p4 p5 : Nat} (he : meT[n / 1000]? = some (o, j, mi, kd, nest, p1, p2, p3, p4, p5)) (h1 : o = owM M) (h2 : i = j) (h3 : mi = n % 1000) :
    n % 1000 < nMeth ∧ (cdT.getD (n % 1000) []).isEmpty = false ∧ ((Cond.methodLink (ownS (owM M)) i (yM (n % 1000))).before args s = true ∨ va_Nw (.methodLinkNest (ownS (owM M)) i (yM (n % 1000)) "OnlyBatteries") s) ∧ (Cond.initialized (yM (n % 1000)).cls).before args s = true ∧
      (match kd with
      | 0 => (Cond.instanceMethod (yM (n % 1000))).before args s = true ∧ (Cond.selects (yM (n % 1000)).cls (yM (n % 1000)) (yM (n % 1000))).before args s = true ∧ (clsL[ciM (n % 1000)]?).map (fun q => q.1) = some (yM (n % 1000)).cls ∧ inst (n % 1000) = 1
      | 1 => (Cond.static (yM (n % 1000))).before args s = true ∧ inst (n % 1000) = 0
      | _ => (Cond.instanceMethod (yM (n % 1000))).before args s = true ∧ (yM (n % 1000)).name = "<init>" ∧ rtM (n % 1000) = none ∧ inst (n % 1000) = 1) := by
  subst h1; subst h2; subst h3
  have hF := me_ok he
  have hts := C.2.2.2.2.2.2.2
  simp only [chkM, Bool.and_eq_true, Bool.not_eq_true'] at hF
  obtain ⟨⟨⟨⟨f1, f2⟩, f3⟩, f4⟩, f5⟩ := hF
  refine ⟨of_decide_eq_true (by simpa [Nat.blt_eq] using f1), f4, ?_, hts _ (hasG_in f3), ?_⟩
  · cases nest
    · exact Or.inl (hts _ (hasG_in f2))
    · exact Or.inr (w.2.1 _ (hasW_in f2) rfl)
  · split at f5
    · simp only [Bool.and_eq_true, decide_eq_true_eq] at f5
      obtain ⟨⟨⟨g1, g2⟩, g3⟩, g4⟩ := f5
      exact ⟨hts _ (hasG_in g1), hts _ (hasG_in g2), g3, Nat.eq_of_beq_eq_true g4⟩
    · simp only [Bool.and_eq_true] at f5
      exact ⟨hts _ (hasG_in f5.1), Nat.eq_of_beq_eq_true f5.2⟩
    · next q1 q2 =>
      simp only [Bool.and_eq_true, decide_eq_true_eq] at f5
      obtain ⟨⟨⟨g1, g2⟩, g3⟩, g4⟩ := f5
      split
      · exact absurd rfl q1
      · exact absurd rfl q2
      · exact ⟨hts _ (hasG_in g1), g3, g4, Nat.eq_of_beq_eq_true g2⟩
theorem wsY_good {y : Nat} (hy : y < nMeth) : GoodIn gTbl (wsY y) := gT_good (fun w hw => by
  rcases List.mem_cons.mp hw with rfl | q
  · exact codeW_in hy
  · exact q)
theorem y_hd {y : Nat} (hy : y < nMeth) {k : Nat} (hk : k = naM y - inst y) : (yM y).cls ≠ "java/lang/invoke/MethodHandle" ∧ (yM y).cls ≠ "java/lang/invoke/VarHandle" ∧ (parseMethodDescriptor (yM y).desc).map (fun d => d.parameters.length) = some k := by
  have h1 := y_ok y (Nat.lt_succ_of_lt hy)
  simp only [chkY, Bool.and_eq_true, decide_eq_true_eq] at h1
  exact ⟨h1.1.1.1.1.1.1.1, h1.1.1.1.1.1.1.2, (desc_ok (Nat.lt_succ_of_lt hy) k hk).1⟩
/-- a call of a method of known contract -/
theorem call_sound {F : Nat} (hF : Snd l E F) (C : Cx p s m args meth c M) (w : Wd base ext DA D E s) (hRf : frM M ≤ R.frames) (hRl : loM M ≤ R.locals) (hn0 : n0 ≤ h.1.length) (hs0 : s0 ≤ sl h.1) {kind n : Nat} {ai : Instr} (hai : (kind = 0 ∧ ai = .invokevirtual n) ∨ (kind = 1 ∧ ai = .invokestatic n) ∨ (kind = 2 ∧ ai = .invokespecial n)) (hc : chkB M pc ai nx = true) (hok : callOk kind (n % 1000) st h = true)
    {r : Option Value} (hr : run E F (n % 1000) 0 (ent (st.take (naM (n % 1000))).reverse) [] h = some (r, h1)) (hRc : h1.1.length - n0 ≤ R.cells) (hRs : sl h1.1 - s0 ≤ R.slots)
    (k : WW p l e R s m args below meth c Q base ext DA D n0 s0 M nx ls (r.toList ++ st.drop (naM (n % 1000))) h1) : WW p l e R s m args below meth c Q base ext DA D n0 s0 M pc ls st h := by
  obtain ⟨m1, m2⟩ := run_mono F hr
  simp only [callOk, Bool.and_eq_true] at hok
  obtain ⟨⟨⟨o1, o2⟩, o3⟩, o4⟩ := hok
  have o1 := Nat.le_of_ble_eq_true o1
  have o2 := Nat.le_of_ble_eq_true o2
  have o3 := Nat.le_of_ble_eq_true o3
  have hcc : chkR M pc ai nx = true := by rcases hai with ⟨-, rfl⟩ | ⟨-, rfl⟩ | ⟨-, rfl⟩ <;> exact hc
  obtain ⟨hlt, ins, len, hd, hrel⟩ := chk_get hcc
  have hrel2 : ∃ i o j mi nest p1 p2 p3 p4 p5, meT[n / 1000]? = some (o, j, mi, kind, nest, p1, p2, p3, p4, p5) ∧ o = owM M ∧ i = j ∧ mi = n % 1000 ∧ nx = pc % 10000 + 3 ∧ len = 3 ∧ frM (n % 1000) + 1 ≤ frM M ∧ 8 + (mlM (n % 1000) + 11) + loM (n % 1000) ≤ loM M ∧ ((kind = 0 ∧ ins = .invokevirtual i) ∨ (kind = 1 ∧ ins = .invokestatic i) ∨ (kind = 2 ∧ ins = .invokespecial i)) := by
    rcases hai with ⟨rfl, rfl⟩ | ⟨rfl, rfl⟩ | ⟨rfl, rfl⟩
    all_goals
      simp only [relB, Bool.and_eq_true] at hrel
      obtain ⟨⟨⟨⟨a1, a2⟩, a3⟩, a4⟩, a5⟩ := hrel
      split at a5
      · next i o j mi kd nest p1 p2 p3 p4 p5 he =>
        simp only [Bool.and_eq_true] at a5
        obtain ⟨⟨⟨b1, b2⟩, b3⟩, b4⟩ := a5
        have b4 := Nat.eq_of_beq_eq_true b4
        subst b4
        refine ⟨i, o, j, mi, nest, p1, p2, p3, p4, p5, he, Nat.eq_of_beq_eq_true b1, Nat.eq_of_beq_eq_true b2, Nat.eq_of_beq_eq_true b3, Nat.eq_of_beq_eq_true a1, Nat.eq_of_beq_eq_true a2, Nat.le_of_ble_eq_true a3, Nat.le_of_ble_eq_true a4, ?_⟩
        simp
      · cases a5
  obtain ⟨i, o, j, mi, nest, p1, p2, p3, p4, p5, he, b1, b2, b3, hnx, rfl, hfr, hlo, hins⟩ := hrel2
  obtain ⟨hy, hne, hlink, hini, hkd⟩ := me_get C w he b1 b2 b3
  have hM := met_of hF hy hne hr o3 base ext DA D
  intro H locs arr hH hS hL
  have k1 := fun H1 locs1 q1 q2 => k H1 locs1 arr q1 q2 hL
  have hnx2 : nx % 10000 = pc % 10000 + 3 := (Nat.mod_eq_of_lt hlt).trans hnx
  simp only [hnx2] at k1
  have hts := C.2.2.2.2.2.2.2
  have hSF : CallFix p m c (bM M) (mlM M) s args gTbl (ownS (owM M)) := ⟨C.1, C.2.1, C.2.2.1, C.2.2.2.2.1, hts⟩
  have hdsc := desc_ok (Nat.lt_succ_of_lt hy) _ rfl
  have hrm : (rmY (n % 1000) (h1.1.length - h.1.length) (sl h1.1 - sl h.1)).frames + 1 ≤ R.frames ∧ 8 + (mlM (n % 1000) + 11) + (rmY (n % 1000) (h1.1.length - h.1.length) (sl h1.1 - sl h.1)).locals ≤ R.locals := ⟨by show frM (n % 1000) + 1 ≤ _; omega, by show _ + loM (n % 1000) ≤ _; omega⟩
  have hfit : (h.1.length - n0) + (h1.1.length - h.1.length) ≤ R.cells ∧ (sl h.1 - s0) + (sl h1.1 - sl h.1) ≤ R.slots := by omega
  have hend : ∀ (t : State) (H1 : Heap) (locs1 : List Loc), t.heap = H1 → Hold base ext DA D h1 t.heap → va_S (Ab base) s.heap H1 locs1 → W p l e R s m args below meth c H1 locs1 ((h.1.length - n0) + (h1.1.length - h.1.length)) ((sl h.1 - s0) + (sl h1.1 - sl h.1)) Q (F0 m (pc % 10000 + 3) arr ((r.map (cv base ext)).toList ++ (st.drop (naM (n % 1000))).map (cv base ext))) := by
    intro t H1 locs1 ht hB hS1
    rw [ht] at hB
    have k2 := k1 H1 locs1 hB hS1
    refine W.cs (cells' := h1.1.length - n0) (slots' := sl h1.1 - s0) (by omega) (by omega) ?_
    have e1 : ((r.toList ++ st.drop (naM (n % 1000))).map (cv base ext)) = (r.map (cv base ext)).toList ++ (st.drop (naM (n % 1000))).map (cv base ext) := by
      rw [List.map_append]; cases r <;> rfl
    rw [e1] at k2
    exact k2
  have hcs : 2 * (F0 m (pc % 10000) arr (st.map (cv base ext))).monitorRoom + (((st.drop (naM (n % 1000))).map (cv base ext)).map fun v => v.category).sum ≤ 8 := by
    show 2 * 0 + _ ≤ 8
    rw [cs_map]
    omega
  have hsz : (F0 m (pc % 10000) arr (st.map (cv base ext))).locals.size = mlM M := hL.1
  rcases hins with ⟨rfl, rfl⟩ | ⟨rfl, rfl⟩ | ⟨rfl, rfl⟩
  · obtain ⟨d1, d2, d3, d4⟩ := hkd
    simp only [recvOk] at o4
    split at o4
    · next a hva =>
      split at o4
      · next ci rs hx =>
        simp only [Bool.and_eq_true] at o4
        have hci := Nat.eq_of_beq_eq_true o4.1
        have hna := Nat.le_of_ble_eq_true o4.2
        have ha : a < 1000000 := Nat.lt_of_lt_of_le (kd_lt hx) hH.1.2
        obtain ⟨t1, t2⟩ := split_st hna hva
        subst hci
        cases hq : clsL[ciM (n % 1000)]? with
        | none => rw [hq] at d3; cases d3
        | some q =>
          rw [hq] at d3
          have d3 : q.1 = (yM (n % 1000)).cls := Option.some.inj d3
          have hrecv := va_recv w.1.1 hH.2 hq (cz_obj hx)
          rw [d3] at hrecv
          have hstk : st.map (cv base ext) = (((st.take (naM (n % 1000) - 1)).reverse.map (cv base ext))).reverse ++ .ref (base + a) :: (st.drop (naM (n % 1000))).map (cv base ext) := by
            conv => lhs; rw [t2]
            rw [List.map_append, List.map_cons, cv_ref ha, List.map_reverse, List.reverse_reverse]
          have hpc : ∀ U : State, U.heap = H → s.WarmedH U.vm → PcY base ext DA D E (st.take (naM (n % 1000))).reverse h (Value.ref (base + a) :: (st.take (naM (n % 1000) - 1)).reverse.map (cv base ext)).toArray U := by
            intro U hU hW
            refine ⟨by rw [t1, List.map_cons, cv_ref ha], w.moved hW (by rw [hU]; exact hS), by rw [hU]; exact hH⟩
          have hlen2 : ((st.take (naM (n % 1000) - 1)).reverse.map (cv base ext)).length = naM (n % 1000) - inst (n % 1000) := by simp; omega
          rcases hlink with hlink | hlink
          · exact my_call (va_runV (As := (st.take (naM (n % 1000) - 1)).reverse.map (cv base ext)) (rest := (st.drop (naM (n % 1000))).map (cv base ext)) hSF hM ⟨callB_of (naM (n % 1000) - inst (n % 1000)) hts (wsY_good hy) rfl rfl rfl hini hlink (y_hd hy rfl) hrm, d1, d2⟩ ⟨PcY_blind, hrecv, hpc⟩ rfl hlen2 hsz hstk hcs hd hfit) hS hend
          · exact my_call (va_runVN (As := (st.take (naM (n % 1000) - 1)).reverse.map (cv base ext)) (rest := (st.drop (naM (n % 1000))).map (cv base ext)) hSF hM ⟨va_cnB (naM (n % 1000) - inst (n % 1000)) hts (wsY_good hy) rfl rfl rfl hlink hini (y_hd hy rfl) hrm, d1, d2⟩ ⟨PcY_blind, hrecv, hpc⟩ rfl hlen2 hsz hstk hcs hd hfit) hS hend
      · cases o4
    · cases o4
  · obtain ⟨d1, d4⟩ := hkd
    have hstk : st.map (cv base ext) = (((st.take (naM (n % 1000))).reverse.map (cv base ext))).reverse ++ (st.drop (naM (n % 1000))).map (cv base ext) := by
      rw [List.map_reverse, List.reverse_reverse, ← List.map_append, List.take_append_drop]
    have hpc : ∀ U : State, U.heap = H → s.WarmedH U.vm → PcY base ext DA D E (st.take (naM (n % 1000))).reverse h ((st.take (naM (n % 1000))).reverse.map (cv base ext)).toArray U := by
      intro U hU hW
      exact ⟨rfl, w.moved hW (by rw [hU]; exact hS), by rw [hU]; exact hH⟩
    have hlen2 : ((st.take (naM (n % 1000))).reverse.map (cv base ext)).length = naM (n % 1000) - inst (n % 1000) := by simp; omega
    rcases hlink with hlink | hlink
    · exact my_call (va_runS (As := (st.take (naM (n % 1000))).reverse.map (cv base ext)) (rest := (st.drop (naM (n % 1000))).map (cv base ext)) hSF hM ⟨callB_of (naM (n % 1000) - inst (n % 1000)) hts (wsY_good hy) rfl rfl rfl hini hlink (y_hd hy rfl) hrm, d1⟩ ⟨PcY_blind, hpc⟩ rfl hlen2 hsz hstk hcs hd hfit) hS hend
    · exact my_call (va_runSN (As := (st.take (naM (n % 1000))).reverse.map (cv base ext)) (rest := (st.drop (naM (n % 1000))).map (cv base ext)) hSF hM ⟨va_cnB (naM (n % 1000) - inst (n % 1000)) hts (wsY_good hy) rfl rfl rfl hlink hini (y_hd hy rfl) hrm, d1, trivial⟩ ⟨PcY_blind, hpc⟩ rfl hlen2 hsz hstk hcs hd hfit) hS hend
  · obtain ⟨d1, d2, d3, d4⟩ := hkd
    simp only [recvOk] at o4
    split at o4
    · next a hva =>
      simp only [Bool.and_eq_true, decide_eq_true_eq] at o4
      have hna := Nat.le_of_ble_eq_true o4.2
      have ha := o4.1
      obtain ⟨t1, t2⟩ := split_st hna hva
      have hstk : st.map (cv base ext) = (((st.take (naM (n % 1000) - 1)).reverse.map (cv base ext))).reverse ++ .ref (base + a) :: (st.drop (naM (n % 1000))).map (cv base ext) := by
        conv => lhs; rw [t2]
        rw [List.map_append, List.map_cons, cv_ref ha, List.map_reverse, List.reverse_reverse]
      have hpc : ∀ U : State, U.heap = H → s.WarmedH U.vm → PcY base ext DA D E (st.take (naM (n % 1000))).reverse h (Value.ref (base + a) :: (st.take (naM (n % 1000) - 1)).reverse.map (cv base ext)).toArray U := by
        intro U hU hW
        refine ⟨by rw [t1, List.map_cons, cv_ref ha], w.moved hW (by rw [hU]; exact hS), by rw [hU]; exact hH⟩
      have hlen2 : ((st.take (naM (n % 1000) - 1)).reverse.map (cv base ext)).length = naM (n % 1000) - inst (n % 1000) := by simp; omega
      rcases hlink with hlink | hlink
      · have cb := callB_of (R := R) (own := ownS (owM M)) (index := i) (naM (n % 1000) - inst (n % 1000)) hts (wsY_good hy) rfl (rm := rmY (n % 1000) (h1.1.length - h.1.length) (sl h1.1 - sl h.1)) rfl rfl hini hlink (y_hd hy rfl) hrm
        rw [d3] at cb
        exact my_call (va_runI (As := (st.take (naM (n % 1000) - 1)).reverse.map (cv base ext)) (rest := (st.drop (naM (n % 1000))).map (cv base ext)) hSF hM ⟨cb, d2, d1⟩ ⟨PcY_blind, hpc⟩ rfl hlen2 hsz hstk hcs hd hfit) hS hend
      · have cb := va_cnB (R := R) (own := ownS (owM M)) (index := i) (naM (n % 1000) - inst (n % 1000)) hts (wsY_good hy) rfl (rm := rmY (n % 1000) (h1.1.length - h.1.length) (sl h1.1 - sl h.1)) rfl rfl hlink hini (y_hd hy rfl) hrm
        rw [d3] at cb
        exact my_call (va_runIN (As := (st.take (naM (n % 1000) - 1)).reverse.map (cv base ext)) (rest := (st.drop (naM (n % 1000))).map (cv base ext)) hSF hM ⟨cb, d2, d1⟩ ⟨PcY_blind, hpc⟩ rfl hlen2 hsz hstk hcs hd hfit) hS hend
    · cases o4
end CALLS
