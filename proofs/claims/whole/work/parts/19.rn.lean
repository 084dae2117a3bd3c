/-! RUNS: what a method comes to, without its fuel -/
def isCR (ai : Instr) : Bool := match ai with
  | .invokevirtual _ => true
  | .invokestatic _ => true
  | .invokespecial _ => true
  | .ireturn => true
  | .lreturn => true
  | .areturn => true
  | .return_ => true
  | _ => false
def runB (E : EX) (F M : Nat) (ai : Instr) (nx : Nat) (ls st : List Value) (h : AH) : Option (Option Value × AH) := match ai with
  | .invokevirtual n => if callOk 0 (n % 1000) st h = true then (match run E F (n % 1000) 0 (ent (st.take (naM (n % 1000))).reverse) [] h with
    | none => none
    | some (r, h1) => run E F M nx ls (r.toList ++ st.drop (naM (n % 1000))) h1) else none
  | .invokestatic n => if callOk 1 (n % 1000) st h = true then (match run E F (n % 1000) 0 (ent (st.take (naM (n % 1000))).reverse) [] h with
    | none => none
    | some (r, h1) => run E F M nx ls (r.toList ++ st.drop (naM (n % 1000))) h1) else none
  | .invokespecial n => if callOk 2 (n % 1000) st h = true then (match run E F (n % 1000) 0 (ent (st.take (naM (n % 1000))).reverse) [] h with
    | none => none
    | some (r, h1) => run E F M nx ls (r.toList ++ st.drop (naM (n % 1000))) h1) else none
  | .ireturn => match st with
    | [.int v] => if retV M v = true then some (some (.int v), h) else none
    | _ => none
  | .lreturn => match st with
    | [.long v] => if rkM M = 3 then some (some (.long v), h) else none
    | _ => none
  | .areturn => match st with
    | [.ref a] => if rkM M = 4 then some (some (.ref a), h) else none
    | [.null] => if rkM M = 4 then some (some .null, h) else none
    | _ => none
  | .return_ => match st with
    | [] => if rkM M = 0 then some (none, h) else none
    | _ => none
  | ai => match step1 E ai nx ls st h with
    | none => none
    | some (pc1, ls1, st1, h1) => run E F M pc1 ls1 st1 h1
theorem run_at {E : EX} {F M pc nx : Nat} {ai : Instr} {ls st : List Value} {h : AH} (hc : ncode M pc = some (ai, nx)) : run E (F + 1) M pc ls st h = runB E F M ai nx ls st h := by
  have e : run E (F + 1) M pc ls st h = (match ncode M pc with
    | none => none
    | some (ai, nx) => runB E F M ai nx ls st h) := by
    unfold run
    cases ncode M pc with
    | none => rfl
    | some x =>
      obtain ⟨ai, nx⟩ := x
      cases ai <;> rfl
  rw [e, hc]
theorem runB_step {E : EX} {F M nx : Nat} {ai : Instr} {ls st : List Value} {h : AH} (hs : isCR ai = false) : runB E F M ai nx ls st h = (match step1 E ai nx ls st h with
    | none => none
    | some (pc1, ls1, st1, h1) => run E F M pc1 ls1 st1 h1) := by
  cases ai <;> first
    | rfl
    | cases hs
def Rn (E : EX) (M pc : Nat) (ls st : List Value) (h : AH) (Q : Option Value → AH → Prop) : Prop := ∃ (F : Nat) (r : Option Value) (h1 : AH), run E F M pc ls st h = some (r, h1) ∧ Q r h1
def RnS (E : EX) (M : Nat) (o : Option (Nat × List Value × List Value × AH)) (Q : Option Value → AH → Prop) : Prop := match o with
  | some (pc1, ls1, st1, h1) => Rn E M pc1 ls1 st1 h1 Q
  | none => False
def RnC (E : EX) (kind M n nx : Nat) (ls st : List Value) (h : AH) (Q : Option Value → AH → Prop) : Prop := callOk kind (n % 1000) st h = true ∧ Rn E (n % 1000) 0 (ent (st.take (naM (n % 1000))).reverse) [] h (fun r h1 => Rn E M nx ls (r.toList ++ st.drop (naM (n % 1000))) h1 Q)
def RnI (E : EX) (M : Nat) (ai : Instr) (nx : Nat) (ls st : List Value) (h : AH) (Q : Option Value → AH → Prop) : Prop := match ai with
  | .invokevirtual n => RnC E 0 M n nx ls st h Q
  | .invokestatic n => RnC E 1 M n nx ls st h Q
  | .invokespecial n => RnC E 2 M n nx ls st h Q
  | .ireturn => ∃ v, st = [.int v] ∧ retV M v = true ∧ Q (some (.int v)) h
  | .lreturn => ∃ v, st = [.long v] ∧ rkM M = 3 ∧ Q (some (.long v)) h
  | .areturn => (∃ a, st = [.ref a] ∧ rkM M = 4 ∧ Q (some (.ref a)) h) ∨ (st = [.null] ∧ rkM M = 4 ∧ Q (some .null) h)
  | .return_ => st = [] ∧ rkM M = 0 ∧ Q none h
  | ai => RnS E M (step1 E ai nx ls st h) Q
theorem RnI_step {E : EX} {M nx : Nat} {ai : Instr} {ls st : List Value} {h : AH} {Q : Option Value → AH → Prop} (hs : isCR ai = false) : RnI E M ai nx ls st h Q = RnS E M (step1 E ai nx ls st h) Q := by
  cases ai <;> first
    | rfl
    | cases hs
theorem run_succ {E : EX} : ∀ (F : Nat) {M pc : Nat} {ls st : List Value} {h : AH} {x : Option Value × AH}, run E F M pc ls st h = some x → run E (F + 1) M pc ls st h = some x := by
  intro F
  induction F with
  | zero => intro M pc ls st h x hr; simp [run] at hr
  | succ F ih =>
    intro M pc ls st h x hr
    cases hc : ncode M pc with
    | none =>
      have e : run E (F + 1) M pc ls st h = none := by
        unfold run
        rw [hc]
      rw [e] at hr
      cases hr
    | some q =>
      obtain ⟨ai, nx⟩ := q
      rw [run_at hc] at hr ⊢
      have call : ∀ (kind n : Nat), (if callOk kind (n % 1000) st h = true then (match run E F (n % 1000) 0 (ent (st.take (naM (n % 1000))).reverse) [] h with
        | none => none
        | some (r, h1) => run E F M nx ls (r.toList ++ st.drop (naM (n % 1000))) h1) else none) = some x → (if callOk kind (n % 1000) st h = true then (match run E (F + 1) (n % 1000) 0 (ent (st.take (naM (n % 1000))).reverse) [] h with
        | none => none
        | some (r, h1) => run E (F + 1) M nx ls (r.toList ++ st.drop (naM (n % 1000))) h1) else none) = some x := by
        intro kind n hr
        split at hr
        · next hok =>
          rw [if_pos hok]
          split at hr
          · cases hr
          · next r h1 h2 =>
            rw [ih h2]
            exact ih hr
        · cases hr
      cases hs : isCR ai with
      | false =>
        rw [runB_step hs] at hr ⊢
        split at hr
        · cases hr
        · exact ih hr
      | true =>
        cases ai <;> first
          | (exact call _ _ hr; done)
          | (cases hs; done)
          | (cases st with
            | nil => exact hr
            | cons v st => cases v <;> first
              | exact hr
              | (cases st <;> exact hr))
theorem run_le {E : EX} {F G M pc : Nat} {ls st : List Value} {h : AH} {x : Option Value × AH} (hr : run E F M pc ls st h = some x) (hl : F ≤ G) : run E G M pc ls st h = some x := by
  obtain ⟨k, rfl⟩ := Nat.le.dest hl
  clear hl
  induction k with
  | zero => exact hr
  | succ k ih => exact run_succ _ ih
theorem Rn_I {E : EX} {M pc nx : Nat} {ai : Instr} (hc : ncode M pc = some (ai, nx)) : Rn E M pc = RnI E M ai nx := by
  funext ls st h Q
  have call : ∀ (kind n : Nat), (∃ (F : Nat) (r : Option Value) (h1 : AH), (if callOk kind (n % 1000) st h = true then (match run E F (n % 1000) 0 (ent (st.take (naM (n % 1000))).reverse) [] h with
        | none => none
        | some (r, h1) => run E F M nx ls (r.toList ++ st.drop (naM (n % 1000))) h1) else none) = some (r, h1) ∧ Q r h1) ↔ RnC E kind M n nx ls st h Q := by
    intro kind n
    constructor
    · rintro ⟨F, r, h1, hr, q⟩
      split at hr
      · next hok =>
        split at hr
        · cases hr
        · next r2 h2 hr2 => exact ⟨hok, F, r2, h2, hr2, F, r, h1, hr, q⟩
      · cases hr
    · rintro ⟨hok, F, r2, h2, hr2, G, r, h1, hr, q⟩
      refine ⟨F + G, r, h1, ?_, q⟩
      rw [if_pos hok, run_le hr2 (Nat.le_add_right F G)]
      exact run_le hr (Nat.le_add_left G F)
  have top : Rn E M pc ls st h Q ↔ ∃ (F : Nat) (r : Option Value) (h1 : AH), runB E F M ai nx ls st h = some (r, h1) ∧ Q r h1 := by
    constructor
    · rintro ⟨F, r, h1, hr, q⟩
      cases F with
      | zero => simp [run] at hr
      | succ F =>
        rw [run_at hc] at hr
        exact ⟨F, r, h1, hr, q⟩
    · rintro ⟨F, r, h1, hr, q⟩
      exact ⟨F + 1, r, h1, by rw [run_at hc]; exact hr, q⟩
  have rI : (∃ (F : Nat) (r : Option Value) (h1 : AH), runB E F M .ireturn nx ls st h = some (r, h1) ∧ Q r h1) ↔ RnI E M .ireturn nx ls st h Q := by
    constructor
    · rintro ⟨F, r, h1, hr, q⟩
      replace hr : (match (generalizing := false) st with
        | [.int v] => if retV M v = true then some (some (.int v), h) else none
        | _ => none) = some (r, h1) := hr
      split at hr
      · split at hr
        · next hv =>
          cases hr
          exact ⟨_, rfl, hv, q⟩
        · cases hr
      · cases hr
    · rintro ⟨v, rfl, hv, q⟩
      exact ⟨0, _, _, if_pos hv, q⟩
  have rL : (∃ (F : Nat) (r : Option Value) (h1 : AH), runB E F M .lreturn nx ls st h = some (r, h1) ∧ Q r h1) ↔ RnI E M .lreturn nx ls st h Q := by
    constructor
    · rintro ⟨F, r, h1, hr, q⟩
      replace hr : (match (generalizing := false) st with
        | [.long v] => if rkM M = 3 then some (some (.long v), h) else none
        | _ => none) = some (r, h1) := hr
      split at hr
      · split at hr
        · next hv =>
          cases hr
          exact ⟨_, rfl, hv, q⟩
        · cases hr
      · cases hr
    · rintro ⟨v, rfl, hv, q⟩
      exact ⟨0, _, _, if_pos hv, q⟩
  have rA : (∃ (F : Nat) (r : Option Value) (h1 : AH), runB E F M .areturn nx ls st h = some (r, h1) ∧ Q r h1) ↔ RnI E M .areturn nx ls st h Q := by
    constructor
    · rintro ⟨F, r, h1, hr, q⟩
      replace hr : (match (generalizing := false) st with
        | [.ref a] => if rkM M = 4 then some (some (.ref a), h) else none
        | [.null] => if rkM M = 4 then some (some .null, h) else none
        | _ => none) = some (r, h1) := hr
      split at hr
      · split at hr
        · next hv =>
          cases hr
          exact Or.inl ⟨_, rfl, hv, q⟩
        · cases hr
      · split at hr
        · next hv =>
          cases hr
          exact Or.inr ⟨rfl, hv, q⟩
        · cases hr
      · cases hr
    · intro z
      rcases z with ⟨v, rfl, hv, q⟩ | ⟨rfl, hv, q⟩
      · exact ⟨0, _, _, if_pos hv, q⟩
      · exact ⟨0, _, _, if_pos hv, q⟩
  have rV : (∃ (F : Nat) (r : Option Value) (h1 : AH), runB E F M .return_ nx ls st h = some (r, h1) ∧ Q r h1) ↔ RnI E M .return_ nx ls st h Q := by
    constructor
    · rintro ⟨F, r, h1, hr, q⟩
      replace hr : (match (generalizing := false) st with
        | [] => if rkM M = 0 then some (none, h) else none
        | _ => none) = some (r, h1) := hr
      split at hr
      · split at hr
        · next hv =>
          cases hr
          exact ⟨rfl, hv, q⟩
        · cases hr
      · cases hr
    · rintro ⟨rfl, hv, q⟩
      exact ⟨0, _, _, if_pos hv, q⟩
  refine propext (top.trans ?_)
  cases hs : isCR ai with
  | false =>
    rw [RnI_step hs]
    simp only [runB_step hs]
    cases ho : step1 E ai nx ls st h with
    | none => exact ⟨fun ⟨_, _, _, z, _⟩ => (by cases z), fun z => z.elim⟩
    | some x => exact Iff.rfl
  | true =>
    cases ai <;> first
      | (cases hs; done)
      | (exact call _ _; done)
      | (exact rI; done)
      | (exact rL; done)
      | (exact rA; done)
      | (exact rV; done)
      | fail
theorem Rn_mono {E : EX} {M pc : Nat} {ls st : List Value} {h : AH} {P Q : Option Value → AH → Prop} (hr : Rn E M pc ls st h P) (hk : ∀ r h1, P r h1 → Q r h1) : Rn E M pc ls st h Q := by
  obtain ⟨F, r, h1, a, b⟩ := hr
  exact ⟨F, r, h1, a, hk _ _ b⟩
