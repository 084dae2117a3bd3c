/-! THE LAW'S PREFIX: what it makes. A run that never reads the script is the same for every script -/
def badS (ai : Instr) (st : List Value) : Bool := match ai, st with
  | .arraylength, .ref a :: _ => decide (1000000 ≤ a)
  | .iaload, .int _ :: .ref a :: _ => decide (1000000 ≤ a)
  | _, _ => false
theorem st_same {E E2 : EX} (hE : E 1 = E2 1) {ai : Instr} {nx : Nat} {ls st : List Value} {h : AH} (hb : badS ai st = false) : step1 E ai nx ls st h = step1 E2 ai nx ls st h := by
  cases ai
  case iaload =>
    cases st with
    | nil => rfl
    | cons v st =>
      cases v with
      | int j =>
        cases st with
        | nil => rfl
        | cons w st =>
          cases w with
          | ref a =>
            have lt : a < 1000000 := Nat.not_le.mp (of_decide_eq_false hb)
            simp only [step1, lt, if_true]
          | _ => rfl
      | _ => rfl
  case arraylength =>
    cases st with
    | nil => rfl
    | cons v st =>
      cases v with
      | ref a =>
        have lt : a < 1000000 := Nat.not_le.mp (of_decide_eq_false hb)
        simp only [step1, lt, if_true]
      | _ => rfl
  case invokedynamic n => simp only [step1, hE]
  all_goals rfl
def run2 (E : EX) : Nat → Nat → Nat → List Value → List Value → AH → Option (Option Value × AH)
  | 0, _, _, _, _, _ => none
  | F + 1, M, pc, ls, st, h => match ncode M pc with
    | none => none
    | some (ai, nx) => match ai with
      | .invokespecial n => if callOk 2 (n % 1000) st h = true then (match run2 E F (n % 1000) 0 (ent (st.take (naM (n % 1000))).reverse) [] h with
        | none => none
        | some (r, h1) => run2 E F M nx ls (r.toList ++ st.drop (naM (n % 1000))) h1) else none
      | .return_ => match st with
        | [] => if rkM M = 0 then some (none, h) else none
        | _ => none
      | ai => if (isCR ai || badS ai st) = true then none else (match step1 E ai nx ls st h with
        | none => none
        | some (pc1, ls1, st1, h1) => run2 E F M pc1 ls1 st1 h1)
def run2B (E : EX) (F M : Nat) (ai : Instr) (nx : Nat) (ls st : List Value) (h : AH) : Option (Option Value × AH) := match ai with
  | .invokespecial n => if callOk 2 (n % 1000) st h = true then (match run2 E F (n % 1000) 0 (ent (st.take (naM (n % 1000))).reverse) [] h with
    | none => none
    | some (r, h1) => run2 E F M nx ls (r.toList ++ st.drop (naM (n % 1000))) h1) else none
  | .return_ => match st with
    | [] => if rkM M = 0 then some (none, h) else none
    | _ => none
  | ai => if (isCR ai || badS ai st) = true then none else (match step1 E ai nx ls st h with
    | none => none
    | some (pc1, ls1, st1, h1) => run2 E F M pc1 ls1 st1 h1)
theorem run2_at {E : EX} {F M pc nx : Nat} {ai : Instr} {ls st : List Value} {h : AH} (hc : ncode M pc = some (ai, nx)) : run2 E (F + 1) M pc ls st h = run2B E F M ai nx ls st h := by
  have e : run2 E (F + 1) M pc ls st h = (match ncode M pc with
    | none => none
    | some (ai, nx) => run2B E F M ai nx ls st h) := by
    unfold run2
    cases ncode M pc with
    | none => rfl
    | some x =>
      obtain ⟨ai, nx⟩ := x
      cases ai <;> rfl
  rw [e, hc]
theorem run2B_step {E : EX} {F M nx : Nat} {ai : Instr} {ls st : List Value} {h : AH} (hs : isCR ai = false) : run2B E F M ai nx ls st h = if badS ai st = true then none else (match step1 E ai nx ls st h with
    | none => none
    | some (pc1, ls1, st1, h1) => run2 E F M pc1 ls1 st1 h1) := by
  cases ai <;> first
    | rfl
    | cases hs
theorem run2_none {E : EX} {F M pc : Nat} {ls st : List Value} {h : AH} (hc : ncode M pc = none) : run2 E (F + 1) M pc ls st h = none := by
  unfold run2
  rw [hc]
theorem run2_run {E E2 : EX} (hE : E 1 = E2 1) : ∀ (F : Nat) {M pc : Nat} {ls st : List Value} {h : AH} {x : Option Value × AH}, run2 E2 F M pc ls st h = some x → run E F M pc ls st h = some x := by
  intro F
  induction F with
  | zero => intro M pc ls st h x hr; simp [run2] at hr
  | succ F ih =>
    intro M pc ls st h x hr
    cases hc : ncode M pc with
    | none =>
      rw [run2_none hc] at hr
      cases hr
    | some q =>
      obtain ⟨ai, nx⟩ := q
      rw [run2_at hc] at hr
      rw [run_at hc]
      cases hs : isCR ai with
      | false =>
        rw [run2B_step hs] at hr
        rw [runB_step hs]
        by_cases hb : badS ai st = true
        · rw [if_pos hb] at hr
          cases hr
        · rw [if_neg hb] at hr
          rw [st_same hE (Bool.eq_false_iff.mpr hb)]
          cases e : step1 E2 ai nx ls st h with
          | none =>
            rw [e] at hr
            cases hr
          | some y =>
            obtain ⟨y1, y2, y3, y4⟩ := y
            rw [e] at hr
            exact ih hr
      | true =>
        have bad : ∀ a, isCR a = true → (if (isCR a || badS a st) = true then (none : Option (Option Value × AH)) else (match step1 E2 a nx ls st h with
    | none => none
    | some (pc1, ls1, st1, h1) => run2 E2 F M pc1 ls1 st1 h1)) = none := by
          intro a ha
          rw [ha]
          rfl
        cases ai <;> first
          | (cases hs; done)
          | (exact absurd (hr.symm.trans (bad _ hs)) (by simp); done)
          | skip
        case invokespecial n =>
          replace hr : (if callOk 2 (n % 1000) st h = true then (match run2 E2 F (n % 1000) 0 (ent (st.take (naM (n % 1000))).reverse) [] h with
        | none => none
        | some (r, h1) => run2 E2 F M nx ls (r.toList ++ st.drop (naM (n % 1000))) h1) else none) = some x := hr
          show (if callOk 2 (n % 1000) st h = true then (match run E F (n % 1000) 0 (ent (st.take (naM (n % 1000))).reverse) [] h with
        | none => none
        | some (r, h1) => run E F M nx ls (r.toList ++ st.drop (naM (n % 1000))) h1) else none) = some x
          split at hr
          · next hok =>
            rw [if_pos hok]
            split at hr
            · cases hr
            · next r h1 h2 =>
              rw [ih h2]
              exact ih hr
          · cases hr
        case return_ => exact hr
def runN (E : EX) (F : Nat) : Nat → Nat → Nat → List Value → List Value → AH → Option (Nat × List Value × List Value × AH)
  | 0, _, pc, ls, st, h => some (pc, ls, st, h)
  | n + 1, M, pc, ls, st, h => match ncode M pc with
    | none => none
    | some (.invokespecial n2, nx) => if callOk 2 (n2 % 1000) st h = true then (match run2 E F (n2 % 1000) 0 (ent (st.take (naM (n2 % 1000))).reverse) [] h with
        | none => none
        | some (r, h1) => runN E F n M nx ls (r.toList ++ st.drop (naM (n2 % 1000))) h1) else none
    | some (ai, nx) => if (isCR ai || badS ai st) = true then none else (match step1 E ai nx ls st h with
        | none => none
        | some (pc1, ls1, st1, h1) => runN E F n M pc1 ls1 st1 h1)
def E0 : EX := EE 0 (fun _ => 0)
def preOK : Bool := match runN E0 400 11 217 0 [.ref 1000000] [] h00 with
  | some (pc, [.ref a, .ref b, .ref c, .int v], [], (k, I, L)) => decide (pc = 10018) && decide (a = 1000000) && decide (b = 0) && decide (c = 106) && decide (v = 0) && decide (k = K0) && decide (I 1 2 = 0 ∧ I 106 6 = 0 ∧ I 9 3 = 0 ∧ I 106 14 = 0 ∧ I 13 1 = 0 ∧ I 107 0 = 0) && (List.range 48).all (fun c => decide (I 111 c = 0)) && (List.range 2).all (fun i => decide (I 53 i = 0 ∧ I 109 i = 0)) && (List.range 5).all (fun i => decide (I 39 i = Int32.ofNat (([32, 4, 2, 30, 5] : List Nat).getD i 0) ∧ I 114 i = Int32.ofNat (([32, 4, 2, 30, 5] : List Nat).getD i 0))) && decide (L 40 2 = 0 ∧ L 0 10 = 0 ∧ L 106 1 = 0 ∧ L 106 17 = spF 0 59 &&& (L 9 4 ^^^ (-1))) && decide (L 10 0 = 281474976710655 ∧ L 10 1 = 0 ∧ L 10 2 = 0 ∧ L 10 3 = 0)
  | _ => false
set_option maxRecDepth 100000 in
theorem pre_ok : preOK = true := by decide +kernel
theorem runN_Rn {E E2 : EX} (hE : E 1 = E2 1) {F : Nat} {Q : Option Value → AH → Prop} : ∀ (n : Nat) {M pc : Nat} {ls st : List Value} {h : AH} {pc1 : Nat} {ls1 st1 : List Value} {h1 : AH}, runN E2 F n M pc ls st h = some (pc1, ls1, st1, h1) → Rn E M pc1 ls1 st1 h1 Q → Rn E M pc ls st h Q := by
  intro n
  induction n with
  | zero =>
    intro M pc ls st h pc1 ls1 st1 h1 hr k
    cases hr
    exact k
  | succ n ih =>
    intro M pc ls st h pc1 ls1 st1 h1 hr k
    cases hc : ncode M pc with
    | none =>
      unfold runN at hr
      rw [hc] at hr
      cases hr
    | some q =>
      obtain ⟨ai, nx⟩ := q
      rw [Rn_I hc]
      have step : isCR ai = false → (if (isCR ai || badS ai st) = true then (none : Option (Nat × List Value × List Value × AH)) else (match step1 E2 ai nx ls st h with
        | none => none
        | some (pc1, ls1, st1, h1) => runN E2 F n M pc1 ls1 st1 h1)) = some (pc1, ls1, st1, h1) → RnI E M ai nx ls st h Q := by
        intro hs hr
        rw [hs] at hr
        cases hb : badS ai st with
        | true =>
          rw [hb] at hr
          cases hr
        | false =>
          rw [hb] at hr
          rw [RnI_step hs, st_same hE hb]
          cases e : step1 E2 ai nx ls st h with
          | none =>
            rw [e] at hr
            cases hr
          | some y =>
            obtain ⟨y1, y2, y3, y4⟩ := y
            rw [e] at hr
            exact ih hr k
      have stop : isCR ai = true → (if (isCR ai || badS ai st) = true then (none : Option (Nat × List Value × List Value × AH)) else (match step1 E2 ai nx ls st h with
        | none => none
        | some (pc1, ls1, st1, h1) => runN E2 F n M pc1 ls1 st1 h1)) = some (pc1, ls1, st1, h1) → False := by
        intro hs hr
        rw [hs] at hr
        cases hr
      unfold runN at hr
      rw [hc] at hr
      cases ai
      case invokespecial n2 =>
        replace hr : (if callOk 2 (n2 % 1000) st h = true then (match run2 E2 F (n2 % 1000) 0 (ent (st.take (naM (n2 % 1000))).reverse) [] h with
        | none => none
        | some (r, h1) => runN E2 F n M nx ls (r.toList ++ st.drop (naM (n2 % 1000))) h1) else none) = some (pc1, ls1, st1, h1) := hr
        by_cases ok : callOk 2 (n2 % 1000) st h = true
        · rw [if_pos ok] at hr
          cases e : run2 E2 F (n2 % 1000) 0 (ent (st.take (naM (n2 % 1000))).reverse) [] h with
          | none =>
            rw [e] at hr
            cases hr
          | some y =>
            obtain ⟨r, h2⟩ := y
            rw [e] at hr
            exact ⟨ok, F, r, h2, run2_run hE F e, ih hr k⟩
        · rw [if_neg ok] at hr
          cases hr
      all_goals first
        | exact step rfl hr
        | exact (stop rfl hr).elim
theorem inv_start {I : Nat → Nat → Int32} {L : Nat → Nat → Int64} (a : I 1 2 = 0 ∧ I 106 6 = 0 ∧ I 9 3 = 0 ∧ I 106 14 = 0 ∧ I 13 1 = 0 ∧ I 107 0 = 0) (b : ∀ c, c < 48 → I 111 c = 0) (c : ∀ i, i < 2 → I 53 i = 0 ∧ I 109 i = 0) (d : ∀ i, i < 5 → I 39 i = Int32.ofNat (([32, 4, 2, 30, 5] : List Nat).getD i 0) ∧ I 114 i = Int32.ofNat (([32, 4, 2, 30, 5] : List Nat).getD i 0)) (e : L 40 2 = 0 ∧ L 0 10 = 0 ∧ L 106 1 = 0 ∧ L 106 17 = spF 0 59 &&& (L 9 4 ^^^ (-1))) (f : L 10 0 = 281474976710655 ∧ L 10 1 = 0 ∧ L 10 2 = 0 ∧ L 10 3 = 0) : Inv I L := by
  obtain ⟨a1, a2, a3, a4, a5, a6⟩ := a
  obtain ⟨e1, e2, e3, e4⟩ := e
  obtain ⟨f0, f1, f2, f3⟩ := f
  refine ⟨⟨0, by omega, a1, a2, fun i hi => by omega⟩, ⟨0, ⟨by omega, a3, a4, fun k hk => by omega, fun k hk => by omega, e4, fun q hq => ⟨0, by decide, b q hq, fun e he => ?_⟩⟩, ⟨0, by omega, a5, a6, fun t ht => by omega⟩, fun i hi => Or.inl (c i hi)⟩, ⟨fun i => ([32, 4, 2, 30, 5] : List Nat).getD i 0, fun i hi => d i hi, ?_⟩, fun q hq hk => ?_, ?_, fun e he q hq => ?_⟩
  · match e, he with
    | 0, _ => rw [f0, m_all q (by omega)]; simp [hq]
    | 1, _ => rw [f1, tb_zero]; rfl
    | 2, _ => rw [f2, tb_zero]; rfl
    | 3, _ => rw [f3, tb_zero]; rfl
    | e + 4, he => omega
  · decide
  · rw [e1, tb_zero] at hk
    cases hk
  · rw [e2, e3]
  · match e, he with
    | 0, _ =>
      rw [f0]
      by_cases z : q < 64
      · rw [m_all q z]
        simp
        omega
      · exact tb_ge (by omega)
    | 1, _ => rw [f1, tb_zero]
    | 2, _ => rw [f2, tb_zero]
    | 3, _ => rw [f3, tb_zero]
    | e + 4, he => omega
/-- the law's run, whatever the script, once every call answers alike -/
theorem law_all {N : Nat} {xs : Nat → Int32} (hN : N ≤ 448) (ops : Ops N xs) : Rn (EE N xs) 217 0 [.ref 1000000] [] h00 (fun r h => r = some (.int 1) ∧ h.1 = K0) := by
  have h := pre_ok
  unfold preOK at h
  split at h
  · next pc a b c v k I L heq =>
    simp only [Bool.and_eq_true, decide_eq_true_eq, List.all_eq_true, List.mem_range] at h
    obtain ⟨⟨⟨⟨⟨⟨⟨⟨⟨⟨⟨h1, h2⟩, h3⟩, h4⟩, h5⟩, h6⟩, h7⟩, h8⟩, h9⟩, h10⟩, h11⟩, h12⟩ := h
    subst h1
    subst h2
    subst h3
    subst h4
    subst h5
    subst h6
    refine runN_Rn (E := EE N xs) (E2 := E0) rfl 11 heq ?_
    exact law_loop hN ops (N + 7) 0 I L (by omega) (by omega) (inv_start h7 h8 h9 h10 h11 h12)
  · cases h
theorem sl_K0 : K0.length ≤ 600000 ∧ sl K0 ≤ 7302250 := by decide +kernel
theorem law_run {N : Nat} {xs : Nat → Int32} (hN : N ≤ 448) (ops : Ops N xs) : ∃ F h1, run (EE N xs) F 217 0 [.ref 1000000] [] h00 = some (some (.int 1), h1) ∧ h1.1.length ≤ 600000 ∧ sl h1.1 ≤ 7302250 := by
  obtain ⟨F, r, h1, hr, rfl, hk⟩ := law_all hN ops
  refine ⟨F, h1, hr, ?_⟩
  rw [hk]
  exact sl_K0
