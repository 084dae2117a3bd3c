/-! THE STEPS: an engine's step is the machine's -/
def sz (x : Kd) : Nat := match x with
  | .inl (ci, _) => nF ci
  | .inr (_, n, _) => n
def sl (K : List Kd) : Nat := (K.map sz).sum
def Cx (p : Program) (s : State) (m : MethodId) (args : Array Value) (meth : Method) (c : Code) (M : Nat) : Prop :=
  p.tables.exec = Jvm.exec ∧ c.code = bM M ∧ c.maxLocals = mlM M ∧ meth.sig.returnType = rtM M ∧ s.vm.findClass (ownS (owM M)) = some m.cls ∧ meth.locks = false ∧ (meth.name = (yM M).name ∨ M = 217) ∧ ∀ w ∈ gTbl, w.before args s = true
def lensS : List Nat := [4, 5, 4, 5, 4, 4, 4]
def bytsS : List (List Int32) := [strCh 0, strCh 1, strCh 2, strCh 3, strCh 4, strCh 5, strCh 6]
def Wd (base : Nat) (ext : Nat → Nat) (DA : Nat → ClassId) (D : va_G) (E : EX) (s : State) : Prop :=
  (va_K D clsL (tysL DA) s ∧ va_AO "OnlyBatteries$Theft" s ∧ va_AO "OnlyBatteries$Book" s) ∧ (∀ w ∈ lw_tbl, isNst w = true → va_Nw w s) ∧
  ((∀ j : Nat, j < 4 → va_X (ext j) (E j).1 (E j).2 s s.heap ∧ ext j < base) ∧ ∃ cell : Cell, s.heap[ext 1]? = some cell ∧ cell.vm.isStatics = false ∧ cell.cls = DA 0) ∧
  (∀ j : Nat, 1 ≤ j → j < 4 → va_Z "OnlyBatteries" (statN.getD j "") "[I" (.ref (ext j)) (Ab base) s s.heap) ∧
  (∀ x ∈ lsT, vk_R (ownS x.1) x.2.1 (strN.getD x.2.2.1 "") (ext (10 + x.2.2.1)) s) ∧
  (∃ adV : Nat → Nat, vk_S 7 lensS bytsS (fun i => ext (10 + i)) adV (Ab base) s s.heap) ∧
  va_Z "java/lang/String" "COMPACT_STRINGS" "Z" (.int 1) (Ab base) s s.heap ∧
  (∃ v : Value, va_Z "jdk/internal/util/Preconditions" "SIOOBE_FORMATTER" "Ljava/util/function/BiFunction;" v (Ab base) s s.heap ∧ (v = .null ∨ ∃ a, v = .ref a)) ∧ base ≤ s.heap.size
def WW (p : Program) (l : Launch) (e : Env) (R : Room) (s : State) (m : MethodId) (args : Array Value) (below : List Frame) (meth : Method) (c : Code) (Q : State → Prop) (base : Nat) (ext : Nat → Nat) (DA : Nat → ClassId) (D : va_G) (n0 s0 M pc : Nat) (ls st : List Value) (h : AH) : Prop :=
  ∀ (H : Heap) (locs : List Loc) (arr : Array Slot), Hold base ext DA D h H → va_S (Ab base) s.heap H locs → LHd base ext ls arr (mlM M) → W p l e R s m args below meth c H locs (h.1.length - n0) (sl h.1 - s0) Q (F0 m (pc % 10000) arr (st.map (cv base ext)))
def chkR (M pc : Nat) (ai : Instr) (nx : Nat) : Bool := Nat.blt nx 10000 && (match decode (bM M) (pc % 10000) with
    | .ok (ins, len) => relB M ai (pc % 10000) nx ins len
    | .error _ => false)
theorem chk_get {M pc : Nat} {ai : Instr} {nx : Nat} (h : chkR M pc ai nx = true) : nx < 10000 ∧ ∃ (ins : Instr) (len : Nat), decode (bM M) (pc % 10000) = .ok (ins, len) ∧ relB M ai (pc % 10000) nx ins len = true := by
  simp only [chkR, Bool.and_eq_true] at h
  obtain ⟨h1, h2⟩ := h
  refine ⟨of_decide_eq_true (by simpa [Nat.blt_eq] using h1), ?_⟩
  split at h2
  · next ins len hd => exact ⟨ins, len, hd, h2⟩
  · cases h2
theorem chk_s {M pc : Nat} {ai : Instr} {nx : Nat} (hs : ∀ rp nx ins len, relB M ai rp nx ins len = (Nat.beq nx (rp + 1) && Nat.beq len 1 && decide (ins = ai))) (h : chkR M pc ai nx = true) : nx % 10000 = pc % 10000 + 1 ∧ decode (bM M) (pc % 10000) = .ok (ai, 1) := by
  obtain ⟨h1, ins, len, hd, hr⟩ := chk_get h
  rw [hs] at hr
  simp only [Bool.and_eq_true, decide_eq_true_eq] at hr
  obtain ⟨⟨h2, h3⟩, rfl⟩ := hr
  rw [Nat.eq_of_beq_eq_true h3] at hd
  exact ⟨by rw [Nat.mod_eq_of_lt h1]; exact Nat.eq_of_beq_eq_true h2, hd⟩
section STEPS
variable {p : Program} {l : Launch} {e : Env} {R : Room} {s : State} {m : MethodId} {args : Array Value} {below : List Frame} {meth : Method} {c : Code} {Q : State → Prop} {base : Nat} {ext : Nat → Nat} {DA : Nat → ClassId} {D : va_G} {E : EX} {n0 s0 M pc nx : Nat} {ls r : List Value} {h : AH}
theorem ss_iadd (C : Cx p s m args meth c M) {x y : Int32} (hc : chkB M pc .iadd nx = true) (k : WW p l e R s m args below meth c Q base ext DA D n0 s0 M nx ls (.int (x + y) :: r) h) : WW p l e R s m args below meth c Q base ext DA D n0 s0 M pc ls (.int y :: .int x :: r) h := by
  obtain ⟨hn, hd⟩ := chk_s (fun _ _ _ _ => rfl) (show chkR M pc .iadd nx = true from hc)
  intro H locs arr hH hS hL
  have k1 := k H locs arr hH hS hL
  rw [hn] at k1
  exact lv_iadd C.1 C.2.1 hd k1
theorem ss_isub (C : Cx p s m args meth c M) {x y : Int32} (hc : chkB M pc .isub nx = true) (k : WW p l e R s m args below meth c Q base ext DA D n0 s0 M nx ls (.int (x - y) :: r) h) : WW p l e R s m args below meth c Q base ext DA D n0 s0 M pc ls (.int y :: .int x :: r) h := by
  obtain ⟨hn, hd⟩ := chk_s (fun _ _ _ _ => rfl) (show chkR M pc .isub nx = true from hc)
  intro H locs arr hH hS hL
  have k1 := k H locs arr hH hS hL
  rw [hn] at k1
  exact lv_isub C.1 C.2.1 hd k1
theorem ss_imul (C : Cx p s m args meth c M) {x y : Int32} (hc : chkB M pc .imul nx = true) (k : WW p l e R s m args below meth c Q base ext DA D n0 s0 M nx ls (.int (x * y) :: r) h) : WW p l e R s m args below meth c Q base ext DA D n0 s0 M pc ls (.int y :: .int x :: r) h := by
  obtain ⟨hn, hd⟩ := chk_s (fun _ _ _ _ => rfl) (show chkR M pc .imul nx = true from hc)
  intro H locs arr hH hS hL
  have k1 := k H locs arr hH hS hL
  rw [hn] at k1
  exact lv_imul C.1 C.2.1 hd k1
theorem ss_iand (C : Cx p s m args meth c M) {x y : Int32} (hc : chkB M pc .iand nx = true) (k : WW p l e R s m args below meth c Q base ext DA D n0 s0 M nx ls (.int (x &&& y) :: r) h) : WW p l e R s m args below meth c Q base ext DA D n0 s0 M pc ls (.int y :: .int x :: r) h := by
  obtain ⟨hn, hd⟩ := chk_s (fun _ _ _ _ => rfl) (show chkR M pc .iand nx = true from hc)
  intro H locs arr hH hS hL
  have k1 := k H locs arr hH hS hL
  rw [hn] at k1
  exact lv_iand C.1 C.2.1 hd k1
theorem ss_ior (C : Cx p s m args meth c M) {x y : Int32} (hc : chkB M pc .ior nx = true) (k : WW p l e R s m args below meth c Q base ext DA D n0 s0 M nx ls (.int (x ||| y) :: r) h) : WW p l e R s m args below meth c Q base ext DA D n0 s0 M pc ls (.int y :: .int x :: r) h := by
  obtain ⟨hn, hd⟩ := chk_s (fun _ _ _ _ => rfl) (show chkR M pc .ior nx = true from hc)
  intro H locs arr hH hS hL
  have k1 := k H locs arr hH hS hL
  rw [hn] at k1
  exact lv_ior C.1 C.2.1 hd k1
theorem ss_ishl (C : Cx p s m args meth c M) {x y : Int32} (hc : chkB M pc .ishl nx = true) (k : WW p l e R s m args below meth c Q base ext DA D n0 s0 M nx ls (.int (x <<< (y &&& 31)) :: r) h) : WW p l e R s m args below meth c Q base ext DA D n0 s0 M pc ls (.int y :: .int x :: r) h := by
  obtain ⟨hn, hd⟩ := chk_s (fun _ _ _ _ => rfl) (show chkR M pc .ishl nx = true from hc)
  intro H locs arr hH hS hL
  have k1 := k H locs arr hH hS hL
  rw [hn] at k1
  exact lv_ishl C.1 C.2.1 hd k1
theorem ss_ishr (C : Cx p s m args meth c M) {x y : Int32} (hc : chkB M pc .ishr nx = true) (k : WW p l e R s m args below meth c Q base ext DA D n0 s0 M nx ls (.int (x >>> (y &&& 31)) :: r) h) : WW p l e R s m args below meth c Q base ext DA D n0 s0 M pc ls (.int y :: .int x :: r) h := by
  obtain ⟨hn, hd⟩ := chk_s (fun _ _ _ _ => rfl) (show chkR M pc .ishr nx = true from hc)
  intro H locs arr hH hS hL
  have k1 := k H locs arr hH hS hL
  rw [hn] at k1
  exact lv_ishr C.1 C.2.1 hd k1
theorem ss_idiv (C : Cx p s m args meth c M) {x y : Int32} (hc : chkB M pc .idiv nx = true) (hne : ¬ y = 0) (k : WW p l e R s m args below meth c Q base ext DA D n0 s0 M nx ls (.int (x / y) :: r) h) : WW p l e R s m args below meth c Q base ext DA D n0 s0 M pc ls (.int y :: .int x :: r) h := by
  obtain ⟨hn, hd⟩ := chk_s (fun _ _ _ _ => rfl) (show chkR M pc .idiv nx = true from hc)
  intro H locs arr hH hS hL
  have k1 := k H locs arr hH hS hL
  rw [hn] at k1
  exact lv_idiv C.1 C.2.1 hd hne k1
theorem ss_irem (C : Cx p s m args meth c M) {x y : Int32} (hc : chkB M pc .irem nx = true) (hne : ¬ y = 0) (k : WW p l e R s m args below meth c Q base ext DA D n0 s0 M nx ls (.int (x - x / y * y) :: r) h) : WW p l e R s m args below meth c Q base ext DA D n0 s0 M pc ls (.int y :: .int x :: r) h := by
  obtain ⟨hn, hd⟩ := chk_s (fun _ _ _ _ => rfl) (show chkR M pc .irem nx = true from hc)
  intro H locs arr hH hS hL
  have k1 := k H locs arr hH hS hL
  rw [hn] at k1
  exact lv_irem C.1 C.2.1 hd hne k1
theorem ss_iushr (C : Cx p s m args meth c M) {x y : Int32} (hc : chkB M pc .iushr nx = true) (k : WW p l e R s m args below meth c Q base ext DA D n0 s0 M nx ls (.int (x.toUInt32 >>> (y.toUInt32 &&& Int32.toUInt32 31)).toInt32 :: r) h) : WW p l e R s m args below meth c Q base ext DA D n0 s0 M pc ls (.int y :: .int x :: r) h := by
  obtain ⟨hn, hd⟩ := chk_s (fun _ _ _ _ => rfl) (show chkR M pc .iushr nx = true from hc)
  intro H locs arr hH hS hL
  have k1 := k H locs arr hH hS hL
  rw [hn] at k1
  exact lv_iushr C.1 C.2.1 hd rfl k1
theorem ss_ladd (C : Cx p s m args meth c M) {x y : Int64} (hc : chkB M pc .ladd nx = true) (k : WW p l e R s m args below meth c Q base ext DA D n0 s0 M nx ls (.long (x + y) :: r) h) : WW p l e R s m args below meth c Q base ext DA D n0 s0 M pc ls (.long y :: .long x :: r) h := by
  obtain ⟨hn, hd⟩ := chk_s (fun _ _ _ _ => rfl) (show chkR M pc .ladd nx = true from hc)
  intro H locs arr hH hS hL
  have k1 := k H locs arr hH hS hL
  rw [hn] at k1
  exact lv_ladd C.1 C.2.1 hd k1
theorem ss_lsub (C : Cx p s m args meth c M) {x y : Int64} (hc : chkB M pc .lsub nx = true) (k : WW p l e R s m args below meth c Q base ext DA D n0 s0 M nx ls (.long (x - y) :: r) h) : WW p l e R s m args below meth c Q base ext DA D n0 s0 M pc ls (.long y :: .long x :: r) h := by
  obtain ⟨hn, hd⟩ := chk_s (fun _ _ _ _ => rfl) (show chkR M pc .lsub nx = true from hc)
  intro H locs arr hH hS hL
  have k1 := k H locs arr hH hS hL
  rw [hn] at k1
  exact lv_lsub C.1 C.2.1 hd k1
theorem ss_lmul (C : Cx p s m args meth c M) {x y : Int64} (hc : chkB M pc .lmul nx = true) (k : WW p l e R s m args below meth c Q base ext DA D n0 s0 M nx ls (.long (x * y) :: r) h) : WW p l e R s m args below meth c Q base ext DA D n0 s0 M pc ls (.long y :: .long x :: r) h := by
  obtain ⟨hn, hd⟩ := chk_s (fun _ _ _ _ => rfl) (show chkR M pc .lmul nx = true from hc)
  intro H locs arr hH hS hL
  have k1 := k H locs arr hH hS hL
  rw [hn] at k1
  exact lv_lmul C.1 C.2.1 hd k1
theorem ss_land (C : Cx p s m args meth c M) {x y : Int64} (hc : chkB M pc .land nx = true) (k : WW p l e R s m args below meth c Q base ext DA D n0 s0 M nx ls (.long (x &&& y) :: r) h) : WW p l e R s m args below meth c Q base ext DA D n0 s0 M pc ls (.long y :: .long x :: r) h := by
  obtain ⟨hn, hd⟩ := chk_s (fun _ _ _ _ => rfl) (show chkR M pc .land nx = true from hc)
  intro H locs arr hH hS hL
  have k1 := k H locs arr hH hS hL
  rw [hn] at k1
  exact lv_land C.1 C.2.1 hd k1
theorem ss_lor (C : Cx p s m args meth c M) {x y : Int64} (hc : chkB M pc .lor nx = true) (k : WW p l e R s m args below meth c Q base ext DA D n0 s0 M nx ls (.long (x ||| y) :: r) h) : WW p l e R s m args below meth c Q base ext DA D n0 s0 M pc ls (.long y :: .long x :: r) h := by
  obtain ⟨hn, hd⟩ := chk_s (fun _ _ _ _ => rfl) (show chkR M pc .lor nx = true from hc)
  intro H locs arr hH hS hL
  have k1 := k H locs arr hH hS hL
  rw [hn] at k1
  exact lv_lor C.1 C.2.1 hd k1
theorem ss_lxor (C : Cx p s m args meth c M) {x y : Int64} (hc : chkB M pc .lxor nx = true) (k : WW p l e R s m args below meth c Q base ext DA D n0 s0 M nx ls (.long (x ^^^ y) :: r) h) : WW p l e R s m args below meth c Q base ext DA D n0 s0 M pc ls (.long y :: .long x :: r) h := by
  obtain ⟨hn, hd⟩ := chk_s (fun _ _ _ _ => rfl) (show chkR M pc .lxor nx = true from hc)
  intro H locs arr hH hS hL
  have k1 := k H locs arr hH hS hL
  rw [hn] at k1
  exact lv_lxor C.1 C.2.1 hd k1
theorem ss_ldiv (C : Cx p s m args meth c M) {x y : Int64} (hc : chkB M pc .ldiv nx = true) (hne : ¬ y = 0) (k : WW p l e R s m args below meth c Q base ext DA D n0 s0 M nx ls (.long (x / y) :: r) h) : WW p l e R s m args below meth c Q base ext DA D n0 s0 M pc ls (.long y :: .long x :: r) h := by
  obtain ⟨hn, hd⟩ := chk_s (fun _ _ _ _ => rfl) (show chkR M pc .ldiv nx = true from hc)
  intro H locs arr hH hS hL
  have k1 := k H locs arr hH hS hL
  rw [hn] at k1
  exact lv_ldiv C.1 C.2.1 hd hne k1
theorem ss_lrem (C : Cx p s m args meth c M) {x y : Int64} (hc : chkB M pc .lrem nx = true) (hne : ¬ y = 0) (k : WW p l e R s m args below meth c Q base ext DA D n0 s0 M nx ls (.long (x - x / y * y) :: r) h) : WW p l e R s m args below meth c Q base ext DA D n0 s0 M pc ls (.long y :: .long x :: r) h := by
  obtain ⟨hn, hd⟩ := chk_s (fun _ _ _ _ => rfl) (show chkR M pc .lrem nx = true from hc)
  intro H locs arr hH hS hL
  have k1 := k H locs arr hH hS hL
  rw [hn] at k1
  exact lv_lrem C.1 C.2.1 hd hne k1
theorem ss_lneg (C : Cx p s m args meth c M) {x : Int64} (hc : chkB M pc .lneg nx = true) (k : WW p l e R s m args below meth c Q base ext DA D n0 s0 M nx ls (.long (-x) :: r) h) : WW p l e R s m args below meth c Q base ext DA D n0 s0 M pc ls (.long x :: r) h := by
  obtain ⟨hn, hd⟩ := chk_s (fun _ _ _ _ => rfl) (show chkR M pc .lneg nx = true from hc)
  intro H locs arr hH hS hL
  have k1 := k H locs arr hH hS hL
  rw [hn] at k1
  exact lv_lneg C.1 C.2.1 hd k1
theorem ss_lshl (C : Cx p s m args meth c M) {x : Int64} {y : Int32} (hc : chkB M pc .lshl nx = true) (k : WW p l e R s m args below meth c Q base ext DA D n0 s0 M nx ls (.long (x <<< (y.toInt64 &&& 63)) :: r) h) : WW p l e R s m args below meth c Q base ext DA D n0 s0 M pc ls (.int y :: .long x :: r) h := by
  obtain ⟨hn, hd⟩ := chk_s (fun _ _ _ _ => rfl) (show chkR M pc .lshl nx = true from hc)
  intro H locs arr hH hS hL
  have k1 := k H locs arr hH hS hL
  rw [hn] at k1
  exact lv_lshl C.1 C.2.1 hd rfl k1
theorem ss_lshr (C : Cx p s m args meth c M) {x : Int64} {y : Int32} (hc : chkB M pc .lshr nx = true) (k : WW p l e R s m args below meth c Q base ext DA D n0 s0 M nx ls (.long (x >>> (y.toInt64 &&& 63)) :: r) h) : WW p l e R s m args below meth c Q base ext DA D n0 s0 M pc ls (.int y :: .long x :: r) h := by
  obtain ⟨hn, hd⟩ := chk_s (fun _ _ _ _ => rfl) (show chkR M pc .lshr nx = true from hc)
  intro H locs arr hH hS hL
  have k1 := k H locs arr hH hS hL
  rw [hn] at k1
  exact lv_lshr C.1 C.2.1 hd rfl k1
theorem ss_lushr (C : Cx p s m args meth c M) {x : Int64} {y : Int32} (hc : chkB M pc .lushr nx = true) (k : WW p l e R s m args below meth c Q base ext DA D n0 s0 M nx ls (.long (x.toUInt64 >>> (y.toInt64.toUInt64 &&& Int64.toUInt64 63)).toInt64 :: r) h) : WW p l e R s m args below meth c Q base ext DA D n0 s0 M pc ls (.int y :: .long x :: r) h := by
  obtain ⟨hn, hd⟩ := chk_s (fun _ _ _ _ => rfl) (show chkR M pc .lushr nx = true from hc)
  intro H locs arr hH hS hL
  have k1 := k H locs arr hH hS hL
  rw [hn] at k1
  exact lv_lushr C.1 C.2.1 hd rfl k1
theorem ss_lcmp (C : Cx p s m args meth c M) {x y : Int64} (hc : chkB M pc .lcmp nx = true) (k : WW p l e R s m args below meth c Q base ext DA D n0 s0 M nx ls (.int (lg_cmp x y) :: r) h) : WW p l e R s m args below meth c Q base ext DA D n0 s0 M pc ls (.long y :: .long x :: r) h := by
  obtain ⟨hn, hd⟩ := chk_s (fun _ _ _ _ => rfl) (show chkR M pc .lcmp nx = true from hc)
  intro H locs arr hH hS hL
  have k1 := k H locs arr hH hS hL
  rw [hn] at k1
  exact W.lcmp C.1 C.2.1 hd k1
theorem ss_i2l (C : Cx p s m args meth c M) {x : Int32} (hc : chkB M pc .i2l nx = true) (k : WW p l e R s m args below meth c Q base ext DA D n0 s0 M nx ls (.long x.toInt64 :: r) h) : WW p l e R s m args below meth c Q base ext DA D n0 s0 M pc ls (.int x :: r) h := by
  obtain ⟨hn, hd⟩ := chk_s (fun _ _ _ _ => rfl) (show chkR M pc .i2l nx = true from hc)
  intro H locs arr hH hS hL
  have k1 := k H locs arr hH hS hL
  rw [hn] at k1
  exact lv_i2l C.1 C.2.1 hd rfl k1
theorem ss_l2i (C : Cx p s m args meth c M) {x : Int64} (hc : chkB M pc .l2i nx = true) (k : WW p l e R s m args below meth c Q base ext DA D n0 s0 M nx ls (.int x.toInt32 :: r) h) : WW p l e R s m args below meth c Q base ext DA D n0 s0 M pc ls (.long x :: r) h := by
  obtain ⟨hn, hd⟩ := chk_s (fun _ _ _ _ => rfl) (show chkR M pc .l2i nx = true from hc)
  intro H locs arr hH hS hL
  have k1 := k H locs arr hH hS hL
  rw [hn] at k1
  exact lv_l2i C.1 C.2.1 hd rfl k1
theorem ss_i2b (C : Cx p s m args meth c M) {x : Int32} (hc : chkB M pc .i2b nx = true) (k : WW p l e R s m args below meth c Q base ext DA D n0 s0 M nx ls (.int x.toInt8.toInt32 :: r) h) : WW p l e R s m args below meth c Q base ext DA D n0 s0 M pc ls (.int x :: r) h := by
  obtain ⟨hn, hd⟩ := chk_s (fun _ _ _ _ => rfl) (show chkR M pc .i2b nx = true from hc)
  intro H locs arr hH hS hL
  have k1 := k H locs arr hH hS hL
  rw [hn] at k1
  exact lv_i2b C.1 C.2.1 hd rfl k1
theorem ss_dup (C : Cx p s m args meth c M) {v : Value} (hc : chkB M pc .dup nx = true) (hv : v.category = 1) (k : WW p l e R s m args below meth c Q base ext DA D n0 s0 M nx ls (v :: v :: r) h) : WW p l e R s m args below meth c Q base ext DA D n0 s0 M pc ls (v :: r) h := by
  obtain ⟨hn, hd⟩ := chk_s (fun _ _ _ _ => rfl) (show chkR M pc .dup nx = true from hc)
  intro H locs arr hH hS hL
  have k1 := k H locs arr hH hS hL
  rw [hn] at k1
  exact lv_dup C.1 C.2.1 hd (by rw [cv_cat]; exact hv) k1
theorem ss_pop (C : Cx p s m args meth c M) {v : Value} (hc : chkB M pc .pop nx = true) (hv : v.category = 1) (k : WW p l e R s m args below meth c Q base ext DA D n0 s0 M nx ls (r) h) : WW p l e R s m args below meth c Q base ext DA D n0 s0 M pc ls (v :: r) h := by
  obtain ⟨hn, hd⟩ := chk_s (fun _ _ _ _ => rfl) (show chkR M pc .pop nx = true from hc)
  intro H locs arr hH hS hL
  have k1 := k H locs arr hH hS hL
  rw [hn] at k1
  exact lv_pop C.1 C.2.1 hd (by rw [cv_cat]; exact hv) k1
theorem ss_dup2 (C : Cx p s m args meth c M) {v w : Value} (hc : chkB M pc .dup2 nx = true) (hv : v.category = 1 ∧ w.category = 1) (k : WW p l e R s m args below meth c Q base ext DA D n0 s0 M nx ls (v :: w :: v :: w :: r) h) : WW p l e R s m args below meth c Q base ext DA D n0 s0 M pc ls (v :: w :: r) h := by
  obtain ⟨hn, hd⟩ := chk_s (fun _ _ _ _ => rfl) (show chkR M pc .dup2 nx = true from hc)
  intro H locs arr hH hS hL
  have k1 := k H locs arr hH hS hL
  rw [hn] at k1
  exact lv_dup2_11 C.1 C.2.1 hd (by rw [cv_cat]; exact hv.1) (by rw [cv_cat]; exact hv.2) k1
theorem ss_aconst_null (C : Cx p s m args meth c M)  (hc : chkB M pc .aconst_null nx = true) (k : WW p l e R s m args below meth c Q base ext DA D n0 s0 M nx ls (.null :: r) h) : WW p l e R s m args below meth c Q base ext DA D n0 s0 M pc ls (r) h := by
  obtain ⟨hn, hd⟩ := chk_s (fun _ _ _ _ => rfl) (show chkR M pc .aconst_null nx = true from hc)
  intro H locs arr hH hS hL
  have k1 := k H locs arr hH hS hL
  rw [hn] at k1
  exact lv_null C.1 C.2.1 hd k1
theorem ss_iconst (C : Cx p s m args meth c M) {v : Int} (hc : chkB M pc (.iconst v) nx = true) (k : WW p l e R s m args below meth c Q base ext DA D n0 s0 M nx ls (.int (Int32.ofInt v) :: r) h) : WW p l e R s m args below meth c Q base ext DA D n0 s0 M pc ls r h := by
  obtain ⟨hlt, ins, len, hd, hr⟩ := chk_get (show chkR M pc (.iconst v) nx = true from hc)
  intro H locs arr hH hS hL
  have k1 := k H locs arr hH hS hL
  rw [Nat.mod_eq_of_lt hlt] at k1
  simp only [relB, Bool.and_eq_true] at hr
  obtain ⟨hn, hr⟩ := hr
  rw [Nat.eq_of_beq_eq_true hn] at k1
  split at hr
  · simp only [Bool.and_eq_true, decide_eq_true_eq] at hr
    obtain ⟨h1, rfl⟩ := hr
    rw [Nat.eq_of_beq_eq_true h1] at hd k1
    exact lv_iconst C.1 C.2.1 hd rfl k1
  all_goals first
    | (simp only [Bool.and_eq_true, decide_eq_true_eq] at hr
       have h1 := hr.1
       rw [Nat.eq_of_beq_eq_true h1] at hd k1
       exact lv_sipush C.1 C.2.1 hd hr.2 k1)
    | (simp only [Bool.and_eq_true, decide_eq_true_eq] at hr
       have h1 := hr.1
       rw [Nat.eq_of_beq_eq_true h1] at hd k1
       exact lv_bipush C.1 C.2.1 hd hr.2 k1)
    | cases hr
theorem ss_lconst (C : Cx p s m args meth c M) {v : Fin 2} (hc : chkB M pc (.lconst v) nx = true) (k : WW p l e R s m args below meth c Q base ext DA D n0 s0 M nx ls (.long (Int64.ofNat (v : Nat)) :: r) h) : WW p l e R s m args below meth c Q base ext DA D n0 s0 M pc ls r h := by
  obtain ⟨hn, hd⟩ := chk_s (fun _ _ _ _ => rfl) (show chkR M pc (.lconst v) nx = true from hc)
  intro H locs arr hH hS hL
  have k1 := k H locs arr hH hS hL
  rw [hn] at k1
  exact lv_lconst C.1 C.2.1 hd rfl k1
theorem ss_iload (C : Cx p s m args meth c M) {i : Nat} {x : Int32} (hi : ls[i]? = some (.int x)) (hc : chkB M pc (.iload i) nx = true) (k : WW p l e R s m args below meth c Q base ext DA D n0 s0 M nx ls (.int x :: r) h) : WW p l e R s m args below meth c Q base ext DA D n0 s0 M pc ls r h := by
  obtain ⟨hlt, ins, len, hd, hr⟩ := chk_get (show chkR M pc (.iload i) nx = true from hc)
  intro H locs arr hH hS hL
  have k1 := k H locs arr hH hS hL
  rw [Nat.mod_eq_of_lt hlt] at k1
  simp only [relB, Bool.and_eq_true] at hr
  obtain ⟨hn, hr⟩ := hr
  rw [Nat.eq_of_beq_eq_true hn] at k1
  have hv := hL.at hi (fun n q => by cases q)
  split at hr
  · simp only [Bool.and_eq_true] at hr
    obtain ⟨h1, h2⟩ := hr
    rw [Nat.eq_of_beq_eq_true h1] at hd k1
    rw [Nat.eq_of_beq_eq_true h2] at hd
    exact lv_iload C.1 C.2.1 hd hv k1
  · simp only [Bool.and_eq_true] at hr
    obtain ⟨h1, h2⟩ := hr
    rw [Nat.eq_of_beq_eq_true h1] at hd k1
    exact lv_iload_n C.1 C.2.1 hd (Nat.eq_of_beq_eq_true h2) hv k1
  · cases hr
theorem ss_lload (C : Cx p s m args meth c M) {i : Nat} {x : Int64} (hi : ls[i]? = some (.long x)) (hc : chkB M pc (.lload i) nx = true) (k : WW p l e R s m args below meth c Q base ext DA D n0 s0 M nx ls (.long x :: r) h) : WW p l e R s m args below meth c Q base ext DA D n0 s0 M pc ls r h := by
  obtain ⟨hlt, ins, len, hd, hr⟩ := chk_get (show chkR M pc (.lload i) nx = true from hc)
  intro H locs arr hH hS hL
  have k1 := k H locs arr hH hS hL
  rw [Nat.mod_eq_of_lt hlt] at k1
  simp only [relB, Bool.and_eq_true] at hr
  obtain ⟨hn, hr⟩ := hr
  rw [Nat.eq_of_beq_eq_true hn] at k1
  have hv := hL.at hi (fun n q => by cases q)
  split at hr
  · simp only [Bool.and_eq_true] at hr
    obtain ⟨h1, h2⟩ := hr
    rw [Nat.eq_of_beq_eq_true h1] at hd k1
    rw [Nat.eq_of_beq_eq_true h2] at hd
    exact lv_lload C.1 C.2.1 hd hv k1
  · simp only [Bool.and_eq_true] at hr
    obtain ⟨h1, h2⟩ := hr
    rw [Nat.eq_of_beq_eq_true h1] at hd k1
    exact lv_lload_n C.1 C.2.1 hd (Nat.eq_of_beq_eq_true h2) hv k1
  · cases hr
theorem ss_aload (C : Cx p s m args meth c M) {i : Nat} {x : Nat} (hi : ls[i]? = some (.ref x)) (hc : chkB M pc (.aload i) nx = true) (k : WW p l e R s m args below meth c Q base ext DA D n0 s0 M nx ls (.ref x :: r) h) : WW p l e R s m args below meth c Q base ext DA D n0 s0 M pc ls r h := by
  obtain ⟨hlt, ins, len, hd, hr⟩ := chk_get (show chkR M pc (.aload i) nx = true from hc)
  intro H locs arr hH hS hL
  have k1 := k H locs arr hH hS hL
  rw [Nat.mod_eq_of_lt hlt] at k1
  simp only [relB, Bool.and_eq_true] at hr
  obtain ⟨hn, hr⟩ := hr
  rw [Nat.eq_of_beq_eq_true hn] at k1
  have hv := hL.at hi (fun n q => by cases q)
  split at hr
  · simp only [Bool.and_eq_true] at hr
    obtain ⟨h1, h2⟩ := hr
    rw [Nat.eq_of_beq_eq_true h1] at hd k1
    rw [Nat.eq_of_beq_eq_true h2] at hd
    exact lv_aload C.1 C.2.1 hd hv k1
  · simp only [Bool.and_eq_true] at hr
    obtain ⟨h1, h2⟩ := hr
    rw [Nat.eq_of_beq_eq_true h1] at hd k1
    exact lv_aload_n C.1 C.2.1 hd (Nat.eq_of_beq_eq_true h2) hv k1
  · cases hr
theorem ss_aloadN (C : Cx p s m args meth c M) {i : Nat} (hi : ls[i]? = some (.null)) (hc : chkB M pc (.aload i) nx = true) (k : WW p l e R s m args below meth c Q base ext DA D n0 s0 M nx ls (.null :: r) h) : WW p l e R s m args below meth c Q base ext DA D n0 s0 M pc ls r h := by
  obtain ⟨hlt, ins, len, hd, hr⟩ := chk_get (show chkR M pc (.aload i) nx = true from hc)
  intro H locs arr hH hS hL
  have k1 := k H locs arr hH hS hL
  rw [Nat.mod_eq_of_lt hlt] at k1
  simp only [relB, Bool.and_eq_true] at hr
  obtain ⟨hn, hr⟩ := hr
  rw [Nat.eq_of_beq_eq_true hn] at k1
  have hv := hL.at hi (fun n q => by cases q)
  split at hr
  · simp only [Bool.and_eq_true] at hr
    obtain ⟨h1, h2⟩ := hr
    rw [Nat.eq_of_beq_eq_true h1] at hd k1
    rw [Nat.eq_of_beq_eq_true h2] at hd
    exact lv_aloadN C.1 C.2.1 hd hv k1
  · simp only [Bool.and_eq_true] at hr
    obtain ⟨h1, h2⟩ := hr
    rw [Nat.eq_of_beq_eq_true h1] at hd k1
    exact lv_aload_nN C.1 C.2.1 hd (Nat.eq_of_beq_eq_true h2) hv k1
  · cases hr
theorem ss_istore (C : Cx p s m args meth c M) {i : Nat} {x : Int32} (hc : chkB M pc (.istore i) nx = true) (k : WW p l e R s m args below meth c Q base ext DA D n0 s0 M nx (sto1 ls i (.int x)) r h) : WW p l e R s m args below meth c Q base ext DA D n0 s0 M pc ls (.int x :: r) h := by
  obtain ⟨hlt, ins, len, hd, hr⟩ := chk_get (show chkR M pc (.istore i) nx = true from hc)
  intro H locs arr hH hS hL
  have k1 := fun arr' hl => k H locs arr' hH hS (LHd.put1 hl)
  rw [Nat.mod_eq_of_lt hlt] at k1
  simp only [relB, Bool.and_eq_true] at hr
  obtain ⟨⟨hn, hb⟩, hr⟩ := hr
  have hb : i < mlM M := of_decide_eq_true (by simpa [Nat.blt_eq] using hb)
  rw [Nat.eq_of_beq_eq_true hn] at k1
  split at hr
  · simp only [Bool.and_eq_true] at hr
    obtain ⟨h1, h2⟩ := hr
    rw [Nat.eq_of_beq_eq_true h1] at hd k1
    rw [Nat.eq_of_beq_eq_true h2] at hd
    exact lv_istore C.1 C.2.1 hd hL hb rfl k1
  · simp only [Bool.and_eq_true] at hr
    obtain ⟨h1, h2⟩ := hr
    rw [Nat.eq_of_beq_eq_true h1] at hd k1
    exact lv_istore_n C.1 C.2.1 hd (Nat.eq_of_beq_eq_true h2) hL hb rfl k1
  · cases hr
theorem ss_lstore (C : Cx p s m args meth c M) {i : Nat} {x : Int64} (hc : chkB M pc (.lstore i) nx = true) (k : WW p l e R s m args below meth c Q base ext DA D n0 s0 M nx (sto2 ls i (.long x)) r h) : WW p l e R s m args below meth c Q base ext DA D n0 s0 M pc ls (.long x :: r) h := by
  obtain ⟨hlt, ins, len, hd, hr⟩ := chk_get (show chkR M pc (.lstore i) nx = true from hc)
  intro H locs arr hH hS hL
  have k1 := fun arr' hl => k H locs arr' hH hS (LHd.put2 hl)
  rw [Nat.mod_eq_of_lt hlt] at k1
  simp only [relB, Bool.and_eq_true] at hr
  obtain ⟨⟨hn, hb⟩, hr⟩ := hr
  have hb : i + 1 < mlM M := of_decide_eq_true (by simpa [Nat.blt_eq] using hb)
  rw [Nat.eq_of_beq_eq_true hn] at k1
  split at hr
  · simp only [Bool.and_eq_true] at hr
    obtain ⟨h1, h2⟩ := hr
    rw [Nat.eq_of_beq_eq_true h1] at hd k1
    rw [Nat.eq_of_beq_eq_true h2] at hd
    exact lv_lstore C.1 C.2.1 hd hL hb rfl k1
  · simp only [Bool.and_eq_true] at hr
    obtain ⟨h1, h2⟩ := hr
    rw [Nat.eq_of_beq_eq_true h1] at hd k1
    exact lv_lstore_n C.1 C.2.1 hd (Nat.eq_of_beq_eq_true h2) hL hb rfl k1
  · cases hr
theorem ss_astore (C : Cx p s m args meth c M) {i : Nat} {x : Nat} (hc : chkB M pc (.astore i) nx = true) (k : WW p l e R s m args below meth c Q base ext DA D n0 s0 M nx (sto1 ls i (.ref x)) r h) : WW p l e R s m args below meth c Q base ext DA D n0 s0 M pc ls (.ref x :: r) h := by
  obtain ⟨hlt, ins, len, hd, hr⟩ := chk_get (show chkR M pc (.astore i) nx = true from hc)
  intro H locs arr hH hS hL
  have k1 := fun arr' hl => k H locs arr' hH hS (LHd.put1 hl)
  rw [Nat.mod_eq_of_lt hlt] at k1
  simp only [relB, Bool.and_eq_true] at hr
  obtain ⟨⟨hn, hb⟩, hr⟩ := hr
  have hb : i < mlM M := of_decide_eq_true (by simpa [Nat.blt_eq] using hb)
  rw [Nat.eq_of_beq_eq_true hn] at k1
  split at hr
  · simp only [Bool.and_eq_true] at hr
    obtain ⟨h1, h2⟩ := hr
    rw [Nat.eq_of_beq_eq_true h1] at hd k1
    rw [Nat.eq_of_beq_eq_true h2] at hd
    exact lv_astore C.1 C.2.1 hd hL hb rfl k1
  · simp only [Bool.and_eq_true] at hr
    obtain ⟨h1, h2⟩ := hr
    rw [Nat.eq_of_beq_eq_true h1] at hd k1
    exact lv_astore_n C.1 C.2.1 hd (Nat.eq_of_beq_eq_true h2) hL hb rfl k1
  · cases hr
theorem ss_astoreN (C : Cx p s m args meth c M) {i : Nat} (hc : chkB M pc (.astore i) nx = true) (k : WW p l e R s m args below meth c Q base ext DA D n0 s0 M nx (sto1 ls i (.null)) r h) : WW p l e R s m args below meth c Q base ext DA D n0 s0 M pc ls (.null :: r) h := by
  obtain ⟨hlt, ins, len, hd, hr⟩ := chk_get (show chkR M pc (.astore i) nx = true from hc)
  intro H locs arr hH hS hL
  have k1 := fun arr' hl => k H locs arr' hH hS (LHd.put1 hl)
  rw [Nat.mod_eq_of_lt hlt] at k1
  simp only [relB, Bool.and_eq_true] at hr
  obtain ⟨⟨hn, hb⟩, hr⟩ := hr
  have hb : i < mlM M := of_decide_eq_true (by simpa [Nat.blt_eq] using hb)
  rw [Nat.eq_of_beq_eq_true hn] at k1
  split at hr
  · simp only [Bool.and_eq_true] at hr
    obtain ⟨h1, h2⟩ := hr
    rw [Nat.eq_of_beq_eq_true h1] at hd k1
    rw [Nat.eq_of_beq_eq_true h2] at hd
    exact lv_astoreN C.1 C.2.1 hd hL hb rfl k1
  · simp only [Bool.and_eq_true] at hr
    obtain ⟨h1, h2⟩ := hr
    rw [Nat.eq_of_beq_eq_true h1] at hd k1
    exact lv_astore_nN C.1 C.2.1 hd (Nat.eq_of_beq_eq_true h2) hL hb rfl k1
  · cases hr
theorem ss_iinc (C : Cx p s m args meth c M) {i : Nat} {n : Int} {x : Int32} (hi : ls[i]? = some (.int x)) (hc : chkB M pc (.iinc i n) nx = true) (k : WW p l e R s m args below meth c Q base ext DA D n0 s0 M nx (sto1 ls i (.int (x + Int32.ofInt n))) r h) : WW p l e R s m args below meth c Q base ext DA D n0 s0 M pc ls r h := by
  obtain ⟨hlt, ins, len, hd, hr⟩ := chk_get (show chkR M pc (.iinc i n) nx = true from hc)
  intro H locs arr hH hS hL
  have k1 := fun arr' hl => k H locs arr' hH hS (LHd.put1 hl)
  rw [Nat.mod_eq_of_lt hlt] at k1
  simp only [relB, Bool.and_eq_true] at hr
  obtain ⟨⟨⟨hn, h3⟩, hb⟩, hr⟩ := hr
  have hb : i < mlM M := of_decide_eq_true (by simpa [Nat.blt_eq] using hb)
  rw [Nat.eq_of_beq_eq_true hn] at k1
  rw [Nat.eq_of_beq_eq_true h3] at hd
  split at hr
  · simp only [Bool.and_eq_true, decide_eq_true_eq] at hr
    obtain ⟨h1, rfl⟩ := hr
    rw [Nat.eq_of_beq_eq_true h1] at hd
    have hm : (i, Value.int x) ∈ lvo base ext 0 ls := (lvo_mem ls 0 _).mpr ⟨i, .int x, hi, (fun n q => by cases q), by simp [cv]⟩
    obtain ⟨kk, hkk⟩ := List.getElem?_of_mem hm
    exact lv_iinc C.1 C.2.1 hd hL hkk rfl hb rfl k1
  · cases hr
theorem ss_ifc (C : Cx p s m args meth c M) {cc : ClassFile.Cond} {t : Int} {x : Int32} (hc : chkB M pc (.ifCond cc t) nx = true) (k : WW p l e R s m args below meth c Q base ext DA D n0 s0 M (if cndB cc x 0 = true then t.toNat else nx) ls r h) : WW p l e R s m args below meth c Q base ext DA D n0 s0 M pc ls (.int x :: r) h := by
  obtain ⟨hlt, ins, len, hd, hr⟩ := chk_get (show chkR M pc (.ifCond cc t) nx = true from hc)
  intro H locs arr hH hS hL
  have k1 := k H locs arr hH hS hL
  simp only [relB, Bool.and_eq_true] at hr
  obtain ⟨⟨⟨hn, h3⟩, hi⟩, hr⟩ := hr
  rw [Nat.eq_of_beq_eq_true h3] at hd
  have hi : 0 ≤ t ∧ t < 10000 := of_decide_eq_true hi
  split at hr
  · next d q =>
    simp only [Bool.and_eq_true, decide_eq_true_eq] at hr
    obtain ⟨rfl, he⟩ := hr
    have ht : ((pc % 10000 : Nat) : Int) + _ = ((t.toNat : Nat) : Int) := he.trans (by omega)
    have e1 : t.toNat % 10000 = t.toNat := Nat.mod_eq_of_lt (by omega)
    have kt := fun q : cndB _ x 0 = true => (by rw [if_pos q, e1] at k1; exact k1 : W p l e R s m args below meth c H locs (h.1.length - n0) (sl h.1 - s0) Q (F0 m t.toNat arr (r.map (cv base ext))))
    have kf := fun q : ¬ cndB _ x 0 = true => (by rw [if_neg q, Nat.mod_eq_of_lt hlt, Nat.eq_of_beq_eq_true hn] at k1; exact k1 : W p l e R s m args below meth c H locs (h.1.length - n0) (sl h.1 - s0) Q (F0 m (pc % 10000 + 3) arr (r.map (cv base ext))))
    cases d
    · exact lv_if_eq C.1 C.2.1 hd ht (fun q => kt (decide_eq_true q)) (fun q => kf (fun z => q (of_decide_eq_true z)))
    · exact lv_if_ne C.1 C.2.1 hd ht (fun q => kt (decide_eq_true q)) (fun q => kf (fun z => (of_decide_eq_true z) q))
    · exact lv_if_lt C.1 C.2.1 hd ht (fun q => kt (decide_eq_true q)) (fun q => kf (fun z => q (of_decide_eq_true z)))
    · exact lv_if_ge C.1 C.2.1 hd ht (fun q => kt (decide_eq_true q)) (fun q => kf (fun z => q (of_decide_eq_true z)))
    · exact lv_if_gt C.1 C.2.1 hd ht (fun q => kt (decide_eq_true q)) (fun q => kf (fun z => q (of_decide_eq_true z)))
    · exact lv_if_le C.1 C.2.1 hd ht (fun q => kt (decide_eq_true q)) (fun q => kf (fun z => q (of_decide_eq_true z)))
  · cases hr
theorem ss_icmp (C : Cx p s m args meth c M) {cc : ClassFile.Cond} {t : Int} {x y : Int32} (hc : chkB M pc (.if_icmp cc t) nx = true) (k : WW p l e R s m args below meth c Q base ext DA D n0 s0 M (if cndB cc x y = true then t.toNat else nx) ls r h) : WW p l e R s m args below meth c Q base ext DA D n0 s0 M pc ls (.int y :: .int x :: r) h := by
  obtain ⟨hlt, ins, len, hd, hr⟩ := chk_get (show chkR M pc (.if_icmp cc t) nx = true from hc)
  intro H locs arr hH hS hL
  have k1 := k H locs arr hH hS hL
  simp only [relB, Bool.and_eq_true] at hr
  obtain ⟨⟨⟨hn, h3⟩, hi⟩, hr⟩ := hr
  rw [Nat.eq_of_beq_eq_true h3] at hd
  have hi : 0 ≤ t ∧ t < 10000 := of_decide_eq_true hi
  split at hr
  · next d q =>
    simp only [Bool.and_eq_true, decide_eq_true_eq] at hr
    obtain ⟨rfl, he⟩ := hr
    have ht : ((pc % 10000 : Nat) : Int) + _ = ((t.toNat : Nat) : Int) := he.trans (by omega)
    have e1 : t.toNat % 10000 = t.toNat := Nat.mod_eq_of_lt (by omega)
    have kt := fun q : cndB _ x y = true => (by rw [if_pos q, e1] at k1; exact k1 : W p l e R s m args below meth c H locs (h.1.length - n0) (sl h.1 - s0) Q (F0 m t.toNat arr (r.map (cv base ext))))
    have kf := fun q : ¬ cndB _ x y = true => (by rw [if_neg q, Nat.mod_eq_of_lt hlt, Nat.eq_of_beq_eq_true hn] at k1; exact k1 : W p l e R s m args below meth c H locs (h.1.length - n0) (sl h.1 - s0) Q (F0 m (pc % 10000 + 3) arr (r.map (cv base ext))))
    cases d
    · exact lv_icmp_eq C.1 C.2.1 hd ht (fun q => kt (decide_eq_true q)) (fun q => kf (fun z => q (of_decide_eq_true z)))
    · exact lv_icmp_ne C.1 C.2.1 hd ht (fun q => kt (decide_eq_true q)) (fun q => kf (fun z => (of_decide_eq_true z) q))
    · exact lv_icmp_lt C.1 C.2.1 hd ht (fun q => kt (decide_eq_true q)) (fun q => kf (fun z => q (of_decide_eq_true z)))
    · exact lv_icmp_ge C.1 C.2.1 hd ht (fun q => kt (decide_eq_true q)) (fun q => kf (fun z => q (of_decide_eq_true z)))
    · exact lv_icmp_gt C.1 C.2.1 hd ht (fun q => kt (decide_eq_true q)) (fun q => kf (fun z => q (of_decide_eq_true z)))
    · exact lv_icmp_le C.1 C.2.1 hd ht (fun q => kt (decide_eq_true q)) (fun q => kf (fun z => q (of_decide_eq_true z)))
  · cases hr
theorem ss_ifnullN (C : Cx p s m args meth c M) {t : Int} (hc : chkB M pc (.ifnull t) nx = true) (k : WW p l e R s m args below meth c Q base ext DA D n0 s0 M (t.toNat) ls r h) : WW p l e R s m args below meth c Q base ext DA D n0 s0 M pc ls (.null :: r) h := by
  obtain ⟨hlt, ins, len, hd, hr⟩ := chk_get (show chkR M pc (.ifnull t) nx = true from hc)
  intro H locs arr hH hS hL
  have k1 := k H locs arr hH hS hL
  simp only [relB, Bool.and_eq_true] at hr
  obtain ⟨⟨⟨hn, h3⟩, hi⟩, hr⟩ := hr
  rw [Nat.eq_of_beq_eq_true h3] at hd
  have hi : 0 ≤ t ∧ t < 10000 := of_decide_eq_true hi
  split at hr
  · simp only [decide_eq_true_eq] at hr
    have ht : ((pc % 10000 : Nat) : Int) + _ = ((t.toNat : Nat) : Int) := hr.trans (by omega)
    rw [Nat.mod_eq_of_lt (show t.toNat < 10000 by omega)] at k1
    exact lv_ifnullN C.1 C.2.1 hd ht k1
  · cases hr
theorem ss_ifnull (C : Cx p s m args meth c M) {t : Int} {x : Nat} (hc : chkB M pc (.ifnull t) nx = true) (k : WW p l e R s m args below meth c Q base ext DA D n0 s0 M (nx) ls r h) : WW p l e R s m args below meth c Q base ext DA D n0 s0 M pc ls (.ref x :: r) h := by
  obtain ⟨hlt, ins, len, hd, hr⟩ := chk_get (show chkR M pc (.ifnull t) nx = true from hc)
  intro H locs arr hH hS hL
  have k1 := k H locs arr hH hS hL
  simp only [relB, Bool.and_eq_true] at hr
  obtain ⟨⟨⟨hn, h3⟩, hi⟩, hr⟩ := hr
  rw [Nat.eq_of_beq_eq_true h3] at hd
  have hi : 0 ≤ t ∧ t < 10000 := of_decide_eq_true hi
  split at hr
  · simp only [decide_eq_true_eq] at hr
    have ht : ((pc % 10000 : Nat) : Int) + _ = ((t.toNat : Nat) : Int) := hr.trans (by omega)
    rw [Nat.mod_eq_of_lt hlt, Nat.eq_of_beq_eq_true hn] at k1
    exact lv_ifnull C.1 C.2.1 hd k1
  · cases hr
theorem ss_ifnonnullN (C : Cx p s m args meth c M) {t : Int} (hc : chkB M pc (.ifnonnull t) nx = true) (k : WW p l e R s m args below meth c Q base ext DA D n0 s0 M (nx) ls r h) : WW p l e R s m args below meth c Q base ext DA D n0 s0 M pc ls (.null :: r) h := by
  obtain ⟨hlt, ins, len, hd, hr⟩ := chk_get (show chkR M pc (.ifnonnull t) nx = true from hc)
  intro H locs arr hH hS hL
  have k1 := k H locs arr hH hS hL
  simp only [relB, Bool.and_eq_true] at hr
  obtain ⟨⟨⟨hn, h3⟩, hi⟩, hr⟩ := hr
  rw [Nat.eq_of_beq_eq_true h3] at hd
  have hi : 0 ≤ t ∧ t < 10000 := of_decide_eq_true hi
  split at hr
  · simp only [decide_eq_true_eq] at hr
    have ht : ((pc % 10000 : Nat) : Int) + _ = ((t.toNat : Nat) : Int) := hr.trans (by omega)
    rw [Nat.mod_eq_of_lt hlt, Nat.eq_of_beq_eq_true hn] at k1
    exact lv_ifnonnullN C.1 C.2.1 hd k1
  · cases hr
theorem ss_ifnonnull (C : Cx p s m args meth c M) {t : Int} {x : Nat} (hc : chkB M pc (.ifnonnull t) nx = true) (k : WW p l e R s m args below meth c Q base ext DA D n0 s0 M (t.toNat) ls r h) : WW p l e R s m args below meth c Q base ext DA D n0 s0 M pc ls (.ref x :: r) h := by
  obtain ⟨hlt, ins, len, hd, hr⟩ := chk_get (show chkR M pc (.ifnonnull t) nx = true from hc)
  intro H locs arr hH hS hL
  have k1 := k H locs arr hH hS hL
  simp only [relB, Bool.and_eq_true] at hr
  obtain ⟨⟨⟨hn, h3⟩, hi⟩, hr⟩ := hr
  rw [Nat.eq_of_beq_eq_true h3] at hd
  have hi : 0 ≤ t ∧ t < 10000 := of_decide_eq_true hi
  split at hr
  · simp only [decide_eq_true_eq] at hr
    have ht : ((pc % 10000 : Nat) : Int) + _ = ((t.toNat : Nat) : Int) := hr.trans (by omega)
    rw [Nat.mod_eq_of_lt (show t.toNat < 10000 by omega)] at k1
    exact lv_ifnonnull C.1 C.2.1 hd ht k1
  · cases hr
theorem ss_goto (C : Cx p s m args meth c M) {t : Int} (hc : chkB M pc (.goto t) nx = true) (k : WW p l e R s m args below meth c Q base ext DA D n0 s0 M t.toNat ls r h) : WW p l e R s m args below meth c Q base ext DA D n0 s0 M pc ls r h := by
  obtain ⟨hlt, ins, len, hd, hr⟩ := chk_get (show chkR M pc (.goto t) nx = true from hc)
  intro H locs arr hH hS hL
  have k1 := k H locs arr hH hS hL
  simp only [relB, Bool.and_eq_true] at hr
  obtain ⟨⟨h3, hi⟩, hr⟩ := hr
  rw [Nat.eq_of_beq_eq_true h3] at hd
  have hi : 0 ≤ t ∧ t < 10000 := of_decide_eq_true hi
  split at hr
  · simp only [decide_eq_true_eq] at hr
    have ht : ((pc % 10000 : Nat) : Int) + _ = ((t.toNat : Nat) : Int) := hr.trans (by omega)
    rw [Nat.mod_eq_of_lt (show t.toNat < 10000 by omega)] at k1
    exact lv_goto C.1 C.2.1 hd ht k1
  · cases hr
theorem ss_ret {kp : Nat} (hc : chkB M pc (.ret kp) nx = true) (k : WW p l e R s m args below meth c Q base ext DA D n0 s0 M nx (ls.take kp) r h) : WW p l e R s m args below meth c Q base ext DA D n0 s0 M pc ls r h := by
  intro H locs arr hH hS hL
  have k1 := k H locs arr hH hS (hL.take kp)
  have h1 : (Nat.blt pc 10000 && Nat.beq nx (pc + 10000)) = true := hc
  simp only [Bool.and_eq_true] at h1
  rw [Nat.eq_of_beq_eq_true h1.2, show (pc + 10000) % 10000 = pc % 10000 by omega] at k1
  exact k1
end STEPS
