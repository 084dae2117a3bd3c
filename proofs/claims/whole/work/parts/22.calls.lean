/-! CALLS in the engine: the stack's top are the arguments -/
theorem st_take {as r : List Value} {k : Nat} (hl : as.length = k) : ((as.reverse ++ r).take k).reverse = as ∧ (as.reverse ++ r).drop k = r := by
  have e : as.reverse.length = k := by rw [List.length_reverse, hl]
  subst e
  rw [List.take_left, List.drop_left]
  exact ⟨List.reverse_reverse as, rfl⟩
theorem RnC_S {E : EX} {M n y nx : Nat} {ls as r : List Value} {h : AH} {Q : Option Value → AH → Prop} (hn : n % 1000 = y) (hl : as.length = naM y) (hm : (ent as).length ≤ mlM y) (hc : cs r ≤ 8) : RnC E 1 M n nx ls (as.reverse ++ r) h Q = Rn E y 0 (ent as) [] h (fun x h1 => Rn E M nx ls (x.toList ++ r) h1 Q) := by
  subst hn
  obtain ⟨e1, e2⟩ := st_take (r := r) hl
  unfold RnC
  rw [e1, e2]
  refine propext ⟨fun z => z.2, fun z => ⟨?_, z⟩⟩
  unfold callOk
  rw [e1, e2]
  simp only [Bool.and_eq_true]
  refine ⟨⟨⟨Nat.ble_eq_true_of_le ?_, Nat.ble_eq_true_of_le hc⟩, Nat.ble_eq_true_of_le hm⟩, rfl⟩
  rw [List.length_append, List.length_reverse, hl]
  exact Nat.le_add_right _ _
/-- isIn, called -/
theorem rc_14 {E : EX} {M n nx : Nat} {ls r : List Value} {a b c : Int32} {h : AH} {Q : Option Value → AH → Prop} (hn : n % 1000 = 14) (hc : cs r ≤ 8) : RnC E 1 M n nx ls (.int c :: .int b :: .int a :: r) h Q = Rn E M nx ls (.int (if b ≤ a ∧ a ≤ c then 1 else 0) :: r) h Q := by
  have e := RnC_S (E := E) (M := M) (nx := nx) (ls := ls) (as := [.int a, .int b, .int c]) (r := r) (h := h) (Q := Q) hn rfl (show (3 : Nat) ≤ mlM 14 by decide) hc
  exact e.trans sp_14
theorem RnC_V {E : EX} {M n y nx a : Nat} {rs : List Nat} {ls as r : List Value} {h : AH} {Q : Option Value → AH → Prop} (hn : n % 1000 = y) (hl : as.length + 1 = naM y) (hx : h.1[a]? = some (.inl (ciM y, rs))) (hm : (ent (.ref a :: as)).length ≤ mlM y) (hc : cs r ≤ 8) : RnC E 0 M n nx ls (as.reverse ++ .ref a :: r) h Q = Rn E y 0 (ent (.ref a :: as)) [] h (fun x h1 => Rn E M nx ls (x.toList ++ r) h1 Q) := by
  subst hn
  have e0 : as.reverse ++ .ref a :: r = (Value.ref a :: as).reverse ++ r := by rw [List.reverse_cons, List.append_assoc]; rfl
  obtain ⟨e1, e2⟩ := st_take (as := Value.ref a :: as) (r := r) (k := naM (n % 1000)) (by rw [List.length_cons]; exact hl)
  have e3 : (as.reverse ++ Value.ref a :: r)[naM (n % 1000) - 1]? = some (.ref a) := by
    rw [← hl, Nat.add_sub_cancel, List.getElem?_append_right (by rw [List.length_reverse]; exact Nat.le_refl _), List.length_reverse, Nat.sub_self]
    rfl
  have e4 : recvOk 0 (n % 1000) (as.reverse ++ Value.ref a :: r) h = true := by
    simp only [recvOk, e3, hx, Bool.and_eq_true]
    exact ⟨Nat.beq_refl _, Nat.ble_eq_true_of_le (by omega)⟩
  unfold RnC callOk
  rw [e4, e0, e1, e2]
  refine propext ⟨fun z => z.2, fun z => ⟨?_, z⟩⟩
  simp only [Bool.and_eq_true, and_true]
  refine ⟨⟨Nat.ble_eq_true_of_le ?_, Nat.ble_eq_true_of_le hc⟩, Nat.ble_eq_true_of_le hm⟩
  rw [List.length_append, List.length_reverse, List.length_cons, hl]
  exact Nat.le_add_right _ _
