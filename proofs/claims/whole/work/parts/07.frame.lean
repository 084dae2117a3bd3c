/-! THE FRAME: what holds of a method's call, and of what was there before -/
def gTbl : List Cond := lw_tbl.filter goodWord
theorem gT_in {w : Cond} (h : w ∈ lw_tbl) (hg : goodWord w = true) : w ∈ gTbl := List.mem_filter.mpr ⟨h, hg⟩
theorem gT_good {ws : List Cond} (h : ∀ w ∈ ws, w ∈ gTbl) : GoodIn gTbl ws := fun w hw => ⟨h w hw, good_of_word (List.mem_filter.mp (h w hw)).2⟩
theorem hasW_in {p : Nat} {w : Cond} (h : hasW p w = true) : w ∈ lw_tbl := List.mem_of_getElem? (of_decide_eq_true h)
theorem hasG_in {p : Nat} {w : Cond} (h : hasG p w = true) : w ∈ gTbl := by
  simp only [hasG, Bool.and_eq_true] at h
  exact gT_in (hasW_in h.1) h.2
def isNst (w : Cond) : Bool := match w with
  | .fieldLinkNest _ _ _ _ _ _ => true
  | .methodLinkNest _ _ _ _ => true
  | .castable _ _ => true
  | _ => false
def tyC (ci : Nat) : Nat → FieldType := match ci with
  | 0 => tyX0
  | 1 => tyX1
  | 2 => tyX2
  | 3 => tyX3
  | 4 => tyX4
  | 5 => tyX5
  | 6 => tyX6
  | 7 => tyX7
  | 8 => tyX8
  | 9 => tyX9
  | 10 => tyX10
  | _ => tyX11
set_option maxRecDepth 100000 in
theorem uw0 : ∀ w ∈ u_ws RX0 TX0 2, w ∈ gTbl := by decide +kernel
set_option maxRecDepth 100000 in
theorem uw1 : ∀ w ∈ u_ws RX1 TX1 5, w ∈ gTbl := by decide +kernel
set_option maxRecDepth 100000 in
theorem uw2 : ∀ w ∈ u_ws RX2 TX2 3, w ∈ gTbl := by decide +kernel
set_option maxRecDepth 100000 in
theorem uw3 : ∀ w ∈ u_ws RX3 TX3 4, w ∈ gTbl := by decide +kernel
set_option maxRecDepth 100000 in
theorem uw4 : ∀ w ∈ u_ws RX4 TX4 5, w ∈ gTbl := by decide +kernel
set_option maxRecDepth 100000 in
theorem uw5 : ∀ w ∈ u_ws RX5 TX5 7, w ∈ gTbl := by decide +kernel
set_option maxRecDepth 100000 in
theorem uw6 : ∀ w ∈ u_ws RX6 TX6 8, w ∈ gTbl := by decide +kernel
set_option maxRecDepth 100000 in
theorem uw7 : ∀ w ∈ u_ws RX7 TX7 3, w ∈ gTbl := by decide +kernel
set_option maxRecDepth 100000 in
theorem uw8 : ∀ w ∈ u_ws RX8 TX8 5, w ∈ gTbl := by decide +kernel
set_option maxRecDepth 100000 in
theorem uw9 : ∀ w ∈ u_ws RX9 TX9 5, w ∈ gTbl := by decide +kernel
set_option maxRecDepth 100000 in
theorem uw10 : ∀ w ∈ u_ws RX10 TX10 11, w ∈ gTbl := by decide +kernel
set_option maxRecDepth 100000 in
theorem uw11 : ∀ w ∈ u_ws RX11 TX11 29, w ∈ gTbl := by decide +kernel
def fkOk (ci k : Nat) (T : u_T) (C : String) : Bool := match fk ci k with
  | 0 => decide (tyC ci k = .int) && !(T k).2.2.2
  | 1 => decide (tyC ci k = .long) && !(T k).2.2.2
  | 2 => (T k).2.2.2 && decide ((T k).1 = C) && (match tyC ci k with
    | .object _ => true
    | .array _ => true
    | _ => false)
  | _ => false
def ClsOk (ci : Nat) (q : vw_C) : Prop := (∀ w ∈ u_ws q.1 q.2.1 q.2.2, w ∈ gTbl) ∧ (∀ k, k < q.2.2 → parseFieldDescriptor (q.2.1 k).2.2.1 = some (tyC ci k)) ∧ (∀ a, a < q.2.2 → ∀ b, b < q.2.2 → a ≠ b → (q.2.1 a).2.1 ≠ (q.2.1 b).2.1) ∧ nF ci = q.2.2 ∧ ∀ k, k < q.2.2 → fkOk ci k q.2.1 q.1 = true
theorem cls_ok (ci : Nat) (q : vw_C) (h : clsL[ci]? = some q) : ClsOk ci q := by
  match ci, h with
  | 0, h => cases h; exact ⟨uw0, tyX0_ok, nmX0, rfl, by decide +kernel⟩
  | 1, h => cases h; exact ⟨uw1, tyX1_ok, nmX1, rfl, by decide +kernel⟩
  | 2, h => cases h; exact ⟨uw2, tyX2_ok, nmX2, rfl, by decide +kernel⟩
  | 3, h => cases h; exact ⟨uw3, tyX3_ok, nmX3, rfl, by decide +kernel⟩
  | 4, h => cases h; exact ⟨uw4, tyX4_ok, nmX4, rfl, by decide +kernel⟩
  | 5, h => cases h; exact ⟨uw5, tyX5_ok, nmX5, rfl, by decide +kernel⟩
  | 6, h => cases h; exact ⟨uw6, tyX6_ok, nmX6, rfl, by decide +kernel⟩
  | 7, h => cases h; exact ⟨uw7, tyX7_ok, nmX7, rfl, by decide +kernel⟩
  | 8, h => cases h; exact ⟨uw8, tyX8_ok, nmX8, rfl, by decide +kernel⟩
  | 9, h => cases h; exact ⟨uw9, tyX9_ok, nmX9, rfl, by decide +kernel⟩
  | 10, h => cases h; exact ⟨uw10, tyX10_ok, nmX10, rfl, by decide +kernel⟩
  | 11, h => cases h; exact ⟨uw11, tyX11_ok, nmX11, rfl, by decide +kernel⟩
  | k + 12, h => simp [clsL] at h
theorem fe_ok {n : Nat} {x : Nat × Nat × Nat × Nat × Nat × Bool} (h : feT[n]? = some x) : chkF x = true := List.all_eq_true.mp feT_ok x (List.mem_of_getElem? h)
theorem ne_ok {n : Nat} {x : Nat × Nat × Nat × Nat × Nat × Nat × Nat} (h : neT[n]? = some x) : chkN x = true := List.all_eq_true.mp neT_ok x (List.mem_of_getElem? h)
theorem ae_ok {n : Nat} {x : Nat × Nat × Nat × Nat × Nat} (h : aeT[n]? = some x) : chkA x = true := List.all_eq_true.mp aeT_ok x (List.mem_of_getElem? h)
theorem ki_ok {n : Nat} {x : Nat × Nat × Int32 × Nat} (h : kiT[n]? = some x) : chkKi x = true := List.all_eq_true.mp kiT_ok x (List.mem_of_getElem? h)
theorem kl_ok {n : Nat} {x : Nat × Nat × Int64 × Nat} (h : klT[n]? = some x) : chkKl x = true := List.all_eq_true.mp klT_ok x (List.mem_of_getElem? h)
theorem se_ok {n : Nat} {x : Nat × Nat × Nat × Nat × Bool} (h : seT[n]? = some x) : chkSe x = true := List.all_eq_true.mp seT_ok x (List.mem_of_getElem? h)
theorem all_chunk {α : Type} {p : α → Bool} {l : List α} (k : Nat) (h1 : (l.take k).all p = true) (h2 : (l.drop k).all p = true) : l.all p = true := all_cut k h1 h2
theorem meT_ok : meT.all chkM = true := by
  refine all_cut 60 (by have h := meT_ok0; rwa [List.drop_zero] at h) ?_
  refine all_cut 60 (by have h := meT_ok1; simpa [List.drop_drop] using h) ?_
  refine all_cut 60 (by have h := meT_ok2; simpa [List.drop_drop] using h) ?_
  refine all_cut 60 (by have h := meT_ok3; simpa [List.drop_drop] using h) ?_
  have h := meT_ok4
  rw [List.take_of_length_le (by decide +kernel)] at h
  simpa [List.drop_drop] using h
theorem me_ok {n : Nat} {x : Nat × Nat × Nat × Nat × Bool × Nat × Nat × Nat × Nat × Nat} (h : meT[n]? = some x) : chkM x = true := List.all_eq_true.mp meT_ok x (List.mem_of_getElem? h)
theorem y_ok (i : Nat) (hi : i < 218) : chkY i = true := by
  by_cases h0 : i < 70
  · have h := List.all_eq_true.mp chkY_ok0 i (List.mem_map.mpr ⟨i - 0, List.mem_range.mpr (by omega), by omega⟩)
    simp only [Bool.or_eq_true, decide_eq_true_eq] at h
    exact h.resolve_left (by omega)
  by_cases h1 : i < 140
  · have h := List.all_eq_true.mp chkY_ok1 i (List.mem_map.mpr ⟨i - 70, List.mem_range.mpr (by omega), by omega⟩)
    simp only [Bool.or_eq_true, decide_eq_true_eq] at h
    exact h.resolve_left (by omega)
  by_cases h2 : i < 210
  · have h := List.all_eq_true.mp chkY_ok2 i (List.mem_map.mpr ⟨i - 140, List.mem_range.mpr (by omega), by omega⟩)
    simp only [Bool.or_eq_true, decide_eq_true_eq] at h
    exact h.resolve_left (by omega)
  have h := List.all_eq_true.mp chkY_ok3 i (List.mem_map.mpr ⟨i - 210, List.mem_range.mpr (by omega), by omega⟩)
  simp only [Bool.or_eq_true, decide_eq_true_eq] at h
  exact h.resolve_left (by omega)
theorem chkL_law : chkL 217 = true := by
  show (cd217).all (fun x => chkB 217 x.1 x.2.1 x.2.2) = true
  refine all_cut 60 (by have h := chkW_ok0; simpa [List.drop_drop] using h) ?_
  refine all_cut 60 (by have h := chkW_ok1; simpa [List.drop_drop] using h) ?_
  refine all_cut 60 (by have h := chkW_ok2; simpa [List.drop_drop] using h) ?_
  refine all_cut 60 (by have h := chkW_ok3; simpa [List.drop_drop] using h) ?_
  refine all_cut 60 (by have h := chkW_ok4; simpa [List.drop_drop] using h) ?_
  refine all_cut 60 (by have h := chkW_ok5; simpa [List.drop_drop] using h) ?_
  refine all_cut 60 (by have h := chkW_ok6; simpa [List.drop_drop] using h) ?_
  refine all_cut 60 (by have h := chkW_ok7; simpa [List.drop_drop] using h) ?_
  refine all_cut 60 (by have h := chkW_ok8; simpa [List.drop_drop] using h) ?_
  refine all_cut 60 (by have h := chkW_ok9; simpa [List.drop_drop] using h) ?_
  refine all_cut 60 (by have h := chkW_ok10; simpa [List.drop_drop] using h) ?_
  refine all_cut 60 (by have h := chkW_ok11; simpa [List.drop_drop] using h) ?_
  have h := chkW_ok12
  rw [List.take_of_length_le (by decide +kernel)] at h
  simpa [List.drop_drop] using h
theorem chkL_ok (M : Nat) : chkL M = true := by
  by_cases h0 : M < 21
  · exact List.all_eq_true.mp chkL_ok0 M (List.mem_map.mpr ⟨M - 0, List.mem_range.mpr (by omega), by omega⟩)
  by_cases h1 : M < 30
  · exact List.all_eq_true.mp chkL_ok1 M (List.mem_map.mpr ⟨M - 21, List.mem_range.mpr (by omega), by omega⟩)
  by_cases h2 : M < 60
  · exact List.all_eq_true.mp chkL_ok2 M (List.mem_map.mpr ⟨M - 30, List.mem_range.mpr (by omega), by omega⟩)
  by_cases h3 : M < 73
  · exact List.all_eq_true.mp chkL_ok3 M (List.mem_map.mpr ⟨M - 60, List.mem_range.mpr (by omega), by omega⟩)
  by_cases h4 : M < 85
  · exact List.all_eq_true.mp chkL_ok4 M (List.mem_map.mpr ⟨M - 73, List.mem_range.mpr (by omega), by omega⟩)
  by_cases h5 : M < 99
  · exact List.all_eq_true.mp chkL_ok5 M (List.mem_map.mpr ⟨M - 85, List.mem_range.mpr (by omega), by omega⟩)
  by_cases h6 : M < 108
  · exact List.all_eq_true.mp chkL_ok6 M (List.mem_map.mpr ⟨M - 99, List.mem_range.mpr (by omega), by omega⟩)
  by_cases h7 : M < 118
  · exact List.all_eq_true.mp chkL_ok7 M (List.mem_map.mpr ⟨M - 108, List.mem_range.mpr (by omega), by omega⟩)
  by_cases h8 : M < 132
  · exact List.all_eq_true.mp chkL_ok8 M (List.mem_map.mpr ⟨M - 118, List.mem_range.mpr (by omega), by omega⟩)
  by_cases h9 : M < 144
  · exact List.all_eq_true.mp chkL_ok9 M (List.mem_map.mpr ⟨M - 132, List.mem_range.mpr (by omega), by omega⟩)
  by_cases h10 : M < 152
  · exact List.all_eq_true.mp chkL_ok10 M (List.mem_map.mpr ⟨M - 144, List.mem_range.mpr (by omega), by omega⟩)
  by_cases h11 : M < 153
  · exact List.all_eq_true.mp chkL_ok11 M (List.mem_map.mpr ⟨M - 152, List.mem_range.mpr (by omega), by omega⟩)
  by_cases h12 : M < 154
  · exact List.all_eq_true.mp chkL_ok12 M (List.mem_map.mpr ⟨M - 153, List.mem_range.mpr (by omega), by omega⟩)
  by_cases h13 : M < 162
  · exact List.all_eq_true.mp chkL_ok13 M (List.mem_map.mpr ⟨M - 154, List.mem_range.mpr (by omega), by omega⟩)
  by_cases h14 : M < 172
  · exact List.all_eq_true.mp chkL_ok14 M (List.mem_map.mpr ⟨M - 162, List.mem_range.mpr (by omega), by omega⟩)
  by_cases h15 : M < 181
  · exact List.all_eq_true.mp chkL_ok15 M (List.mem_map.mpr ⟨M - 172, List.mem_range.mpr (by omega), by omega⟩)
  by_cases h16 : M < 186
  · exact List.all_eq_true.mp chkL_ok16 M (List.mem_map.mpr ⟨M - 181, List.mem_range.mpr (by omega), by omega⟩)
  by_cases h17 : M < 191
  · exact List.all_eq_true.mp chkL_ok17 M (List.mem_map.mpr ⟨M - 186, List.mem_range.mpr (by omega), by omega⟩)
  by_cases h18 : M < 193
  · exact List.all_eq_true.mp chkL_ok18 M (List.mem_map.mpr ⟨M - 191, List.mem_range.mpr (by omega), by omega⟩)
  by_cases h19 : M < 196
  · exact List.all_eq_true.mp chkL_ok19 M (List.mem_map.mpr ⟨M - 193, List.mem_range.mpr (by omega), by omega⟩)
  by_cases h20 : M < 197
  · exact List.all_eq_true.mp chkL_ok20 M (List.mem_map.mpr ⟨M - 196, List.mem_range.mpr (by omega), by omega⟩)
  by_cases h21 : M < 199
  · exact List.all_eq_true.mp chkL_ok21 M (List.mem_map.mpr ⟨M - 197, List.mem_range.mpr (by omega), by omega⟩)
  by_cases h22 : M < 204
  · exact List.all_eq_true.mp chkL_ok22 M (List.mem_map.mpr ⟨M - 199, List.mem_range.mpr (by omega), by omega⟩)
  by_cases h23 : M < 211
  · exact List.all_eq_true.mp chkL_ok23 M (List.mem_map.mpr ⟨M - 204, List.mem_range.mpr (by omega), by omega⟩)
  by_cases h24 : M < 212
  · exact List.all_eq_true.mp chkL_ok24 M (List.mem_map.mpr ⟨M - 211, List.mem_range.mpr (by omega), by omega⟩)
  by_cases h25 : M < 217
  · exact List.all_eq_true.mp chkL_ok25 M (List.mem_map.mpr ⟨M - 212, List.mem_range.mpr (by omega), by omega⟩)
  by_cases hl : M = 217
  · subst hl; exact chkL_law
  have e : cdT.getD M [] = [] := by
    rw [List.getD_eq_getElem?_getD, List.getElem?_eq_none (by show cdT.length ≤ M; rw [show cdT.length = 218 from rfl]; omega)]; rfl
  show (cdT.getD M []).all _ = true
  rw [e]; rfl
theorem lk_mem {α : Type} {p : Nat} : ∀ {l : List (Nat × α)} {a : α}, lk p l = some a → (p, a) ∈ l
  | [], a, h => by simp [lk] at h
  | (q, b) :: r, a, h => by
    simp only [lk] at h
    split at h
    · next e =>
      cases h
      rw [Nat.eq_of_beq_eq_true e]
      exact List.mem_cons_self
    · exact List.mem_cons_of_mem _ (lk_mem h)
theorem code_ok {M pc : Nat} {ai : Instr} {nx : Nat} (h : ncode M pc = some (ai, nx)) : chkB M pc ai nx = true := by
  have h1 := lk_mem h
  exact List.all_eq_true.mp (chkL_ok M) (pc, ai, nx) h1
theorem code_lt {M pc : Nat} {x : Instr × Nat} (h : ncode M pc = some x) : M < 218 := by
  rcases Nat.lt_or_ge M 218 with q | q
  · exact q
  · have e : cdT.getD M [] = [] := by
      rw [List.getD_eq_getElem?_getD, List.getElem?_eq_none (by show cdT.length ≤ M; rw [show cdT.length = 218 from rfl]; exact q)]; rfl
    rw [ncode, e] at h
    cases h
theorem own_ok {M : Nat} (h : M < 218) : ownS (owM M) = (yM M).cls := by
  have h1 := y_ok M h
  simp only [chkY, Bool.and_eq_true, decide_eq_true_eq] at h1
  exact h1.1.1.2
theorem codeW_in {y : Nat} (hy : y < nMeth) : Cond.code (yM y) (bM y) (mlM y) (rtM y) ∈ gTbl := by
  have h : Cond.code (yM y) (bM y) (mlM y) (rtM y) ∈ lw_tbl.filter isCode := by
    rw [codes_eq]
    exact List.mem_map.mpr ⟨y, List.mem_range.mpr hy, rfl⟩
  exact gT_in (List.mem_filter.mp h).1 rfl
theorem desc_ok {y : Nat} (hy : y < 218) (n : Nat) (hn : n = naM y - inst y) : (parseMethodDescriptor (yM y).desc).map (fun d => d.parameters.length) = some n ∧ inst y ≤ 1 ∧ inst y ≤ naM y := by
  have h1 := y_ok y hy
  simp only [chkY, Bool.and_eq_true, decide_eq_true_eq] at h1
  obtain ⟨⟨⟨⟨⟨-, hd⟩, hi⟩, -⟩, hk⟩, hl⟩ := h1
  have hi := Nat.le_of_ble_eq_true hi
  have hl := Nat.le_of_ble_eq_true hl
  cases hq : dsT[djT.getD y 99]? with
  | none => rw [hq] at hd; cases hd
  | some q =>
    rw [hq] at hd
    have hd : q.1 = (yM y).desc := Option.some.inj hd
    have h2 := of_decide_eq_true (List.all_eq_true.mp dsT_ok q (List.mem_of_getElem? hq))
    rw [hd] at h2
    rw [hq] at hk
    have hk : q.2 = naM y - inst y := Option.some.inj hk
    exact ⟨by rw [h2, hk, hn], hi, hl⟩
