/-! THE HEAP behind the constructors: its kinds never change from there on. Each step on it as an equation. -/
def K0 : List Kd := [.inl (10, [2, 5, 9, 41, 43, 44, 49, 51, 53, 54, 0]), .inl (5, [3, 4, 0, 0, 0, 0, 0]), .inr (2, 400, []), .inr (0, 3, []), .inl (9, [6, 7, 8, 0, 0]), .inr (1, 4, []), .inr (0, 8, []), .inr (1, 8, []), .inl (2, [10, 14, 40]), .inl (9, [11, 12, 13, 0, 0]), .inr (1, 4, []), .inr (0, 8, []), .inr (1, 8, []), .inl (0, [15, 0]), .inr (4, 12, [16, 18, 20, 22, 24, 26, 28, 30, 32, 34, 36, 38]), .inl (6, [0, 0, 0, 0, 0, 0, 0, 17]), .inr (0, 5, []), .inl (6, [0, 0, 0, 0, 0, 0, 0, 19]), .inr (0, 5, []), .inl (6, [0, 0, 0, 0, 0, 0, 0, 21]), .inr (0, 5, []), .inl (6, [0, 0, 0, 0, 0, 0, 0, 23]), .inr (0, 5, []), .inl (6, [0, 0, 0, 0, 0, 0, 0, 25]), .inr (0, 5, []), .inl (6, [0, 0, 0, 0, 0, 0, 0, 27]), .inr (0, 5, []), .inl (6, [0, 0, 0, 0, 0, 0, 0, 29]), .inr (0, 5, []), .inl (6, [0, 0, 0, 0, 0, 0, 0, 31]), .inr (0, 5, []), .inl (6, [0, 0, 0, 0, 0, 0, 0, 33]), .inr (0, 5, []), .inl (6, [0, 0, 0, 0, 0, 0, 0, 35]), .inr (0, 5, []), .inl (6, [0, 0, 0, 0, 0, 0, 0, 37]), .inr (0, 5, []), .inl (6, [0, 0, 0, 0, 0, 0, 0, 39]), .inr (0, 5, []), .inr (0, 5, []), .inl (7, [10, 42, 0]), .inr (0, 2304, []), .inl (1, [9, 41, 0, 0, 0]), .inl (4, [9, 45, 46, 47, 48]), .inr (1, 12, []), .inr (0, 12, []), .inr (0, 12, []), .inr (0, 60, []), .inl (3, [9, 41, 50, 0]), .inr (0, 3721, []), .inl (8, [9, 52, 0, 0, 0]), .inr (0, 480, []), .inr (5, 2, [55, 81]), .inr (3, 2, []), .inl (0, [56, 0]), .inr (4, 12, [57, 59, 61, 63, 65, 67, 69, 71, 73, 75, 77, 79]), .inl (6, [0, 0, 0, 0, 0, 0, 0, 58]), .inr (0, 5, []), .inl (6, [0, 0, 0, 0, 0, 0, 0, 60]), .inr (0, 5, []), .inl (6, [0, 0, 0, 0, 0, 0, 0, 62]), .inr (0, 5, []), .inl (6, [0, 0, 0, 0, 0, 0, 0, 64]), .inr (0, 5, []), .inl (6, [0, 0, 0, 0, 0, 0, 0, 66]), .inr (0, 5, []), .inl (6, [0, 0, 0, 0, 0, 0, 0, 68]), .inr (0, 5, []), .inl (6, [0, 0, 0, 0, 0, 0, 0, 70]), .inr (0, 5, []), .inl (6, [0, 0, 0, 0, 0, 0, 0, 72]), .inr (0, 5, []), .inl (6, [0, 0, 0, 0, 0, 0, 0, 74]), .inr (0, 5, []), .inl (6, [0, 0, 0, 0, 0, 0, 0, 76]), .inr (0, 5, []), .inl (6, [0, 0, 0, 0, 0, 0, 0, 78]), .inr (0, 5, []), .inl (6, [0, 0, 0, 0, 0, 0, 0, 80]), .inr (0, 5, []), .inl (0, [82, 0]), .inr (4, 12, [83, 85, 87, 89, 91, 93, 95, 97, 99, 101, 103, 105]), .inl (6, [0, 0, 0, 0, 0, 0, 0, 84]), .inr (0, 5, []), .inl (6, [0, 0, 0, 0, 0, 0, 0, 86]), .inr (0, 5, []), .inl (6, [0, 0, 0, 0, 0, 0, 0, 88]), .inr (0, 5, []), .inl (6, [0, 0, 0, 0, 0, 0, 0, 90]), .inr (0, 5, []), .inl (6, [0, 0, 0, 0, 0, 0, 0, 92]), .inr (0, 5, []), .inl (6, [0, 0, 0, 0, 0, 0, 0, 94]), .inr (0, 5, []), .inl (6, [0, 0, 0, 0, 0, 0, 0, 96]), .inr (0, 5, []), .inl (6, [0, 0, 0, 0, 0, 0, 0, 98]), .inr (0, 5, []), .inl (6, [0, 0, 0, 0, 0, 0, 0, 100]), .inr (0, 5, []), .inl (6, [0, 0, 0, 0, 0, 0, 0, 102]), .inr (0, 5, []), .inl (6, [0, 0, 0, 0, 0, 0, 0, 104]), .inr (0, 5, []), .inl (6, [0, 0, 0, 0, 0, 0, 0, 106]), .inr (0, 5, []), .inl (11, [0, 0, 108, 109, 110, 111, 0, 0, 0, 0, 0, 0, 112, 113, 0, 0, 114, 0, 0, 115, 116, 117, 118, 119, 120, 121, 122, 0, 123]), .inr (0, 145, []), .inr (0, 290, []), .inr (3, 2, []), .inr (0, 400, []), .inr (0, 96, []), .inr (0, 16, []), .inr (1, 16, []), .inr (0, 5, []), .inr (0, 48, []), .inr (3, 48, []), .inr (3, 48, []), .inr (0, 48, []), .inr (1, 12, []), .inr (1, 4096, []), .inr (0, 3904, []), .inr (1, 8, [])]
/-- the j-th theft of the book b; the image's book -/
def thd (b j : Nat) : Nat := b + 2 + 2 * (j % 12)
def bk (i : Nat) : Nat := if i % 2 = 0 then 54 else 80
theorem K0_len : K0.length = 123 := by decide +kernel
theorem K0_t13 (j : Nat) : K0[thd 13 j]? = some (.inl (6, [0, 0, 0, 0, 0, 0, 0, thd 13 j + 2])) := by
  have h := Nat.mod_lt j (show 12 > 0 by decide)
  unfold thd
  generalize j % 12 = i at h
  match i, h with
  | 0, _ => rfl
  | 1, _ => rfl
  | 2, _ => rfl
  | 3, _ => rfl
  | 4, _ => rfl
  | 5, _ => rfl
  | 6, _ => rfl
  | 7, _ => rfl
  | 8, _ => rfl
  | 9, _ => rfl
  | 10, _ => rfl
  | 11, _ => rfl
  | i + 12, h => omega
theorem K0_c13 (j : Nat) : K0[thd 13 j + 1]? = some (.inr (0, 5, [])) := by
  have h := Nat.mod_lt j (show 12 > 0 by decide)
  unfold thd
  generalize j % 12 = i at h
  match i, h with
  | 0, _ => rfl
  | 1, _ => rfl
  | 2, _ => rfl
  | 3, _ => rfl
  | 4, _ => rfl
  | 5, _ => rfl
  | 6, _ => rfl
  | 7, _ => rfl
  | 8, _ => rfl
  | 9, _ => rfl
  | 10, _ => rfl
  | 11, _ => rfl
  | i + 12, h => omega
theorem K0_tb (b j : Nat) : K0[thd (bk b) j]? = some (.inl (6, [0, 0, 0, 0, 0, 0, 0, thd (bk b) j + 2])) := by
  have h := Nat.mod_lt j (show 12 > 0 by decide)
  unfold thd bk
  generalize j % 12 = i at h
  by_cases z : b % 2 = 0
  · rw [if_pos z]
    match i, h with
    | 0, _ => rfl
    | 1, _ => rfl
    | 2, _ => rfl
    | 3, _ => rfl
    | 4, _ => rfl
    | 5, _ => rfl
    | 6, _ => rfl
    | 7, _ => rfl
    | 8, _ => rfl
    | 9, _ => rfl
    | 10, _ => rfl
    | 11, _ => rfl
    | i + 12, h => omega
  · rw [if_neg z]
    match i, h with
    | 0, _ => rfl
    | 1, _ => rfl
    | 2, _ => rfl
    | 3, _ => rfl
    | 4, _ => rfl
    | 5, _ => rfl
    | 6, _ => rfl
    | 7, _ => rfl
    | 8, _ => rfl
    | 9, _ => rfl
    | 10, _ => rfl
    | 11, _ => rfl
    | i + 12, h => omega
theorem K0_cb (b j : Nat) : K0[thd (bk b) j + 1]? = some (.inr (0, 5, [])) := by
  have h := Nat.mod_lt j (show 12 > 0 by decide)
  unfold thd bk
  generalize j % 12 = i at h
  by_cases z : b % 2 = 0
  · rw [if_pos z]
    match i, h with
    | 0, _ => rfl
    | 1, _ => rfl
    | 2, _ => rfl
    | 3, _ => rfl
    | 4, _ => rfl
    | 5, _ => rfl
    | 6, _ => rfl
    | 7, _ => rfl
    | 8, _ => rfl
    | 9, _ => rfl
    | 10, _ => rfl
    | 11, _ => rfl
    | i + 12, h => omega
  · rw [if_neg z]
    match i, h with
    | 0, _ => rfl
    | 1, _ => rfl
    | 2, _ => rfl
    | 3, _ => rfl
    | 4, _ => rfl
    | 5, _ => rfl
    | 6, _ => rfl
    | 7, _ => rfl
    | 8, _ => rfl
    | 9, _ => rfl
    | 10, _ => rfl
    | 11, _ => rfl
    | i + 12, h => omega
theorem K0_b (b : Nat) : K0[bk b]? = some (.inl (0, [bk b + 2, 0])) := by
  unfold bk
  by_cases z : b % 2 = 0
  · rw [if_pos z]
    rfl
  · rw [if_neg z]
    rfl
theorem K0_ba (b : Nat) : K0[bk b + 1]? = some (.inr (4, 12, if b % 2 = 0 then [57, 59, 61, 63, 65, 67, 69, 71, 73, 75, 77, 79] else [83, 85, 87, 89, 91, 93, 95, 97, 99, 101, 103, 105])) := by
  unfold bk
  by_cases z : b % 2 = 0
  · rw [if_pos z, if_pos z]
    rfl
  · rw [if_neg z, if_neg z]
    rfl
section HE
variable {E : EX} {M nx : Nat} {ls r : List Value} {I : Nat → Nat → Int32} {L : Nat → Nat → Int64} {h : AH} {Q : Option Value → AH → Prop}
theorem ri_gI {a n k ci : Nat} {rs : List Nat} (hk : K0[a]? = some (.inl (ci, rs))) (hc : ci = n % 10000 / 100) (hf : fk ci k = 0) (e : n % 100 = k) : RnI E M (.getfield n) nx ls (.ref a :: r) (K0, I, L) Q = Rn E M nx ls (.int (I a k) :: r) (K0, I, L) Q := by
  subst e
  show RnS E M (match K0[a]? with
      | some (.inl (ci, rs)) => if ci = n % 10000 / 100 then _ else none
      | _ => none) Q = _
  rw [hk]
  show RnS E M (if ci = n % 10000 / 100 then (match fk ci (n % 100) with | 0 => _ | 1 => _ | 2 => _ | _ => _) else none) Q = _
  rw [if_pos hc, hf]
  rfl
theorem ri_gL {a n k ci : Nat} {rs : List Nat} (hk : K0[a]? = some (.inl (ci, rs))) (hc : ci = n % 10000 / 100) (hf : fk ci k = 1) (e : n % 100 = k) : RnI E M (.getfield n) nx ls (.ref a :: r) (K0, I, L) Q = Rn E M nx ls (.long (L a k) :: r) (K0, I, L) Q := by
  subst e
  show RnS E M (match K0[a]? with
      | some (.inl (ci, rs)) => if ci = n % 10000 / 100 then _ else none
      | _ => none) Q = _
  rw [hk]
  show RnS E M (if ci = n % 10000 / 100 then (match fk ci (n % 100) with | 0 => _ | 1 => _ | 2 => _ | _ => _) else none) Q = _
  rw [if_pos hc, hf]
  rfl
theorem ri_gR {a n k ci v : Nat} {rs : List Nat} (hk : K0[a]? = some (.inl (ci, rs))) (hc : ci = n % 10000 / 100) (hf : fk ci k = 2) (e : n % 100 = k) (hv : rs.getD k 0 = v + 1) : RnI E M (.getfield n) nx ls (.ref a :: r) (K0, I, L) Q = Rn E M nx ls (.ref v :: r) (K0, I, L) Q := by
  subst e
  show RnS E M (match K0[a]? with
      | some (.inl (ci, rs)) => if ci = n % 10000 / 100 then _ else none
      | _ => none) Q = _
  rw [hk]
  show RnS E M (if ci = n % 10000 / 100 then (match fk ci (n % 100) with | 0 => _ | 1 => _ | 2 => some (nx, ls, rv (rs.getD (n % 100) 0) :: r, (K0, I, L)) | _ => _) else none) Q = _
  rw [if_pos hc, hf, hv]
  rfl
theorem ri_pI {a n k ci : Nat} {x : Int32} {rs : List Nat} (hk : K0[a]? = some (.inl (ci, rs))) (hc : ci = n % 10000 / 100) (hf : fk ci k = 0) (e : n % 100 = k) : RnI E M (.putfield n) nx ls (.int x :: .ref a :: r) (K0, I, L) Q = Rn E M nx ls r (K0, u2 I a k x, L) Q := by
  subst e
  show RnS E M (match K0[a]? with
      | some (.inl (ci, rs)) => if ci = n % 10000 / 100 ∧ fk ci (n % 100) = 0 then _ else none
      | _ => none) Q = _
  rw [hk]
  show RnS E M (if ci = n % 10000 / 100 ∧ fk ci (n % 100) = 0 then _ else none) Q = _
  rw [if_pos ⟨hc, hf⟩]
  rfl
theorem ri_pL {a n k ci : Nat} {x : Int64} {rs : List Nat} (hk : K0[a]? = some (.inl (ci, rs))) (hc : ci = n % 10000 / 100) (hf : fk ci k = 1) (e : n % 100 = k) : RnI E M (.putfield n) nx ls (.long x :: .ref a :: r) (K0, I, L) Q = Rn E M nx ls r (K0, I, u2 L a k x) Q := by
  subst e
  show RnS E M (match K0[a]? with
      | some (.inl (ci, rs)) => if ci = n % 10000 / 100 ∧ fk ci (n % 100) = 1 then _ else none
      | _ => none) Q = _
  rw [hk]
  show RnS E M (if ci = n % 10000 / 100 ∧ fk ci (n % 100) = 1 then _ else none) Q = _
  rw [if_pos ⟨hc, hf⟩]
  rfl
theorem ri_iaT {a n : Nat} {j : Int32} {rs : List Nat} (hk : K0[a]? = some (.inr (0, n, rs))) : RnI E M .iaload nx ls (.int j :: .ref a :: r) (K0, I, L) Q = if vinB j n = true then Rn E M nx ls (.int (I a j.toNatClampNeg) :: r) (K0, I, L) Q else False := by
  have ha : a < 1000000 := Nat.lt_trans (List.getElem?_eq_some_iff.mp hk).1 (by rw [K0_len]; decide)
  show RnS E M (if a < 1000000 then (match K0[a]? with
      | some (.inr (0, n, _)) => if vinB j n = true then some (nx, ls, .int (I a j.toNatClampNeg) :: r, (K0, I, L)) else none
      | _ => none) else _) Q = _
  rw [if_pos ha, hk]
  show RnS E M (if vinB j n = true then some (nx, ls, .int (I a j.toNatClampNeg) :: r, (K0, I, L)) else none) Q = _
  by_cases z : vinB j n = true
  · rw [if_pos z, if_pos z]
    rfl
  · rw [if_neg z, if_neg z]
    rfl
theorem ri_iaE {a : Nat} {j : Int32} (ha : a < 4) : RnI E M .iaload nx ls (.int j :: .ref (1000000 + a) :: r) h Q = if vinB j (E a).1 = true then Rn E M nx ls (.int ((E a).2 j.toNatClampNeg) :: r) h Q else False := by
  have h1 : ¬ 1000000 + a < 1000000 := by omega
  have h2 : 1000000 + a - 1000000 = a := by omega
  show RnS E M (if 1000000 + a < 1000000 then _ else if vinB j (E (1000000 + a - 1000000)).1 = true ∧ 1000000 + a - 1000000 < 4 then some (nx, ls, .int ((E (1000000 + a - 1000000)).2 j.toNatClampNeg) :: r, h) else none) Q = _
  rw [if_neg h1, h2]
  by_cases z : vinB j (E a).1 = true
  · rw [if_pos ⟨z, ha⟩, if_pos z]
    rfl
  · rw [if_neg (fun q => z q.1), if_neg z]
    rfl
theorem ri_laT {a n : Nat} {j : Int32} {rs : List Nat} (hk : K0[a]? = some (.inr (1, n, rs))) : RnI E M .laload nx ls (.int j :: .ref a :: r) (K0, I, L) Q = if vinB j n = true then Rn E M nx ls (.long (L a j.toNatClampNeg) :: r) (K0, I, L) Q else False := by
  show RnS E M (match K0[a]? with
      | some (.inr (1, n, _)) => if vinB j n = true then some (nx, ls, .long (L a j.toNatClampNeg) :: r, (K0, I, L)) else none
      | _ => none) Q = _
  rw [hk]
  show RnS E M (if vinB j n = true then some (nx, ls, .long (L a j.toNatClampNeg) :: r, (K0, I, L)) else none) Q = _
  by_cases z : vinB j n = true
  · rw [if_pos z, if_pos z]
    rfl
  · rw [if_neg z, if_neg z]
    rfl
theorem ri_baT {a n t : Nat} {j : Int32} {rs : List Nat} (hk : K0[a]? = some (.inr (t, n, rs))) (ht : t = 2 ∨ t = 3) : RnI E M .baload nx ls (.int j :: .ref a :: r) (K0, I, L) Q = if vinB j n = true then Rn E M nx ls (.int (I a j.toNatClampNeg) :: r) (K0, I, L) Q else False := by
  show RnS E M (match K0[a]? with
      | some (.inr (2, n, _)) => if vinB j n = true then some (nx, ls, .int (I a j.toNatClampNeg) :: r, (K0, I, L)) else none
      | some (.inr (3, n, _)) => if vinB j n = true then some (nx, ls, .int (I a j.toNatClampNeg) :: r, (K0, I, L)) else none
      | _ => none) Q = _
  rw [hk]
  rcases ht with rfl | rfl
  all_goals
    show RnS E M (if vinB j n = true then some (nx, ls, .int (I a j.toNatClampNeg) :: r, (K0, I, L)) else none) Q = _
    by_cases z : vinB j n = true
    · rw [if_pos z, if_pos z]
      rfl
    · rw [if_neg z, if_neg z]
      rfl
theorem ri_isT {a n : Nat} {j x : Int32} {rs : List Nat} (hk : K0[a]? = some (.inr (0, n, rs))) : RnI E M .iastore nx ls (.int x :: .int j :: .ref a :: r) (K0, I, L) Q = if vinB j n = true then Rn E M nx ls r (K0, u2 I a j.toNatClampNeg x, L) Q else False := by
  show RnS E M (match K0[a]? with
      | some (.inr (0, n, _)) => if vinB j n = true then some (nx, ls, r, (K0, u2 I a j.toNatClampNeg x, L)) else none
      | _ => none) Q = _
  rw [hk]
  show RnS E M (if vinB j n = true then some (nx, ls, r, (K0, u2 I a j.toNatClampNeg x, L)) else none) Q = _
  by_cases z : vinB j n = true
  · rw [if_pos z, if_pos z]
    rfl
  · rw [if_neg z, if_neg z]
    rfl
theorem ri_lsT {a n : Nat} {j : Int32} {x : Int64} {rs : List Nat} (hk : K0[a]? = some (.inr (1, n, rs))) : RnI E M .lastore nx ls (.long x :: .int j :: .ref a :: r) (K0, I, L) Q = if vinB j n = true then Rn E M nx ls r (K0, I, u2 L a j.toNatClampNeg x) Q else False := by
  show RnS E M (match K0[a]? with
      | some (.inr (1, n, _)) => if vinB j n = true then some (nx, ls, r, (K0, I, u2 L a j.toNatClampNeg x)) else none
      | _ => none) Q = _
  rw [hk]
  show RnS E M (if vinB j n = true then some (nx, ls, r, (K0, I, u2 L a j.toNatClampNeg x)) else none) Q = _
  by_cases z : vinB j n = true
  · rw [if_pos z, if_pos z]
    rfl
  · rw [if_neg z, if_neg z]
    rfl
theorem ri_bsB {a n : Nat} {j x : Int32} {rs : List Nat} (hk : K0[a]? = some (.inr (2, n, rs))) : RnI E M .bastore nx ls (.int x :: .int j :: .ref a :: r) (K0, I, L) Q = if vinB j n = true then Rn E M nx ls r (K0, u2 I a j.toNatClampNeg (vp_nar .byte x), L) Q else False := by
  show RnS E M (match K0[a]? with
      | some (.inr (2, n, _)) => if vinB j n = true then some (nx, ls, r, (K0, u2 I a j.toNatClampNeg (vp_nar .byte x), L)) else none
      | some (.inr (3, n, _)) => _
      | _ => none) Q = _
  rw [hk]
  show RnS E M (if vinB j n = true then some (nx, ls, r, (K0, u2 I a j.toNatClampNeg (vp_nar .byte x), L)) else none) Q = _
  by_cases z : vinB j n = true
  · rw [if_pos z, if_pos z]
    rfl
  · rw [if_neg z, if_neg z]
    rfl
theorem ri_bsZ {a n : Nat} {j x : Int32} {rs : List Nat} (hk : K0[a]? = some (.inr (3, n, rs))) : RnI E M .bastore nx ls (.int x :: .int j :: .ref a :: r) (K0, I, L) Q = if vinB j n = true then Rn E M nx ls r (K0, u2 I a j.toNatClampNeg (vp_nar .boolean x), L) Q else False := by
  show RnS E M (match K0[a]? with
      | some (.inr (2, n, _)) => _
      | some (.inr (3, n, _)) => if vinB j n = true then some (nx, ls, r, (K0, u2 I a j.toNatClampNeg (vp_nar .boolean x), L)) else none
      | _ => none) Q = _
  rw [hk]
  show RnS E M (if vinB j n = true then some (nx, ls, r, (K0, u2 I a j.toNatClampNeg (vp_nar .boolean x), L)) else none) Q = _
  by_cases z : vinB j n = true
  · rw [if_pos z, if_pos z]
    rfl
  · rw [if_neg z, if_neg z]
    rfl
theorem ri_aaT {a n t v : Nat} {j : Int32} {rs : List Nat} (hk : K0[a]? = some (.inr (t, n, rs))) (ht : t = 4 ∨ t = 5) (hv : vinB j n = true → rs.getD j.toNatClampNeg 0 = v + 1) : RnI E M .aaload nx ls (.int j :: .ref a :: r) (K0, I, L) Q = if vinB j n = true then Rn E M nx ls (.ref v :: r) (K0, I, L) Q else False := by
  show RnS E M (match K0[a]? with
      | some (.inr (t, n, rs)) => if (t = 4 ∨ t = 5) ∧ vinB j n = true then some (nx, ls, rv (rs.getD j.toNatClampNeg 0) :: r, (K0, I, L)) else none
      | _ => none) Q = _
  rw [hk]
  show RnS E M (if (t = 4 ∨ t = 5) ∧ vinB j n = true then some (nx, ls, rv (rs.getD j.toNatClampNeg 0) :: r, (K0, I, L)) else none) Q = _
  by_cases z : vinB j n = true
  · rw [if_pos ⟨ht, z⟩, if_pos z, hv z]
    rfl
  · rw [if_neg (fun q => z q.2), if_neg z]
    rfl
theorem ri_lenT {a n t : Nat} {v : Int32} {rs : List Nat} (hk : K0[a]? = some (.inr (t, n, rs))) (ht : t < 6) (hv : Int32.ofNat n = v) : RnI E M .arraylength nx ls (.ref a :: r) (K0, I, L) Q = Rn E M nx ls (.int v :: r) (K0, I, L) Q := by
  have ha : a < 1000000 := Nat.lt_trans (List.getElem?_eq_some_iff.mp hk).1 (by rw [K0_len]; decide)
  subst hv
  show RnS E M (if a < 1000000 then (match K0[a]? with
      | some (.inr (t, n, _)) => if t < 6 then some (nx, ls, .int (Int32.ofNat n) :: r, (K0, I, L)) else none
      | _ => none) else _) Q = _
  rw [if_pos ha, hk]
  show RnS E M (if t < 6 then some (nx, ls, .int (Int32.ofNat n) :: r, (K0, I, L)) else none) Q = _
  rw [if_pos ht]
  rfl
theorem ri_lenE {a : Nat} (ha : a < 4) : RnI E M .arraylength nx ls (.ref (1000000 + a) :: r) h Q = Rn E M nx ls (.int (Int32.ofNat (E a).1) :: r) h Q := by
  have h1 : ¬ 1000000 + a < 1000000 := by omega
  have h2 : 1000000 + a - 1000000 = a := by omega
  show RnS E M (if 1000000 + a < 1000000 then _ else if 1000000 + a - 1000000 < 4 then some (nx, ls, .int (Int32.ofNat (E (1000000 + a - 1000000)).1) :: r, h) else none) Q = _
  rw [if_neg h1, h2, if_pos ha]
  rfl
theorem ri_cpI {a b n na nb : Nat} {sp dp len : Int32} {x y z : Nat} {ra rb : List Nat} (hn : n % 10 = 0) (ka : K0[a]? = some (.inr (0, na, ra))) (kb : K0[b]? = some (.inr (0, nb, rb))) (hx : sp.toInt = x) (hy : dp.toInt = y) (hz : len.toInt = z) (h1 : x + z ≤ na) (h2 : y + z ≤ nb) (hc : cs r ≤ 8) : RnI E M (.invokedynamic n) nx ls (.int len :: .int dp :: .ref b :: .int sp :: .ref a :: r) (K0, I, L) Q = Rn E M nx ls r (K0, u1 I b (va_cpy (I a) (I b) x y z), L) Q := by
  have cx : sp.toNatClampNeg = x := by unfold Int32.toNatClampNeg; omega
  have cy : dp.toNatClampNeg = y := by unfold Int32.toNatClampNeg; omega
  have cz : len.toNatClampNeg = z := by unfold Int32.toNatClampNeg; omega
  show RnS E M (match n % 10 with
    | 0 => match K0[a]?, K0[b]? with
        | some (.inr (t, na, _)), some (.inr (t2, nb, _)) =>
          if t2 = t ∧ 0 ≤ sp.toInt ∧ 0 ≤ dp.toInt ∧ 0 ≤ len.toInt ∧ sp.toNatClampNeg + len.toNatClampNeg ≤ na ∧ dp.toNatClampNeg + len.toNatClampNeg ≤ nb ∧ cs r ≤ 8 then (match t with
            | 0 => some (nx, ls, r, (K0, u1 I b (va_cpy (I a) (I b) sp.toNatClampNeg dp.toNatClampNeg len.toNatClampNeg), L))
            | 1 => some (nx, ls, r, (K0, I, u1 L b (va_cpy (L a) (L b) sp.toNatClampNeg dp.toNatClampNeg len.toNatClampNeg)))
            | _ => none) else none
        | _, _ => none
    | 1 => _ | 2 => _ | 3 => _ | 4 => _ | 5 => _ | 6 => _ | _ => _) Q = _
  rw [hn, ka, kb, cx, cy, cz]
  show RnS E M (if (0 : Nat) = 0 ∧ 0 ≤ sp.toInt ∧ 0 ≤ dp.toInt ∧ 0 ≤ len.toInt ∧ x + z ≤ na ∧ y + z ≤ nb ∧ cs r ≤ 8 then _ else none) Q = _
  rw [if_pos ⟨rfl, by omega, by omega, by omega, h1, h2, hc⟩]
  rfl
theorem ri_cpL {a b n na nb : Nat} {sp dp len : Int32} {x y z : Nat} {ra rb : List Nat} (hn : n % 10 = 0) (ka : K0[a]? = some (.inr (1, na, ra))) (kb : K0[b]? = some (.inr (1, nb, rb))) (hx : sp.toInt = x) (hy : dp.toInt = y) (hz : len.toInt = z) (h1 : x + z ≤ na) (h2 : y + z ≤ nb) (hc : cs r ≤ 8) : RnI E M (.invokedynamic n) nx ls (.int len :: .int dp :: .ref b :: .int sp :: .ref a :: r) (K0, I, L) Q = Rn E M nx ls r (K0, I, u1 L b (va_cpy (L a) (L b) x y z)) Q := by
  have cx : sp.toNatClampNeg = x := by unfold Int32.toNatClampNeg; omega
  have cy : dp.toNatClampNeg = y := by unfold Int32.toNatClampNeg; omega
  have cz : len.toNatClampNeg = z := by unfold Int32.toNatClampNeg; omega
  show RnS E M (match n % 10 with
    | 0 => match K0[a]?, K0[b]? with
        | some (.inr (t, na, _)), some (.inr (t2, nb, _)) =>
          if t2 = t ∧ 0 ≤ sp.toInt ∧ 0 ≤ dp.toInt ∧ 0 ≤ len.toInt ∧ sp.toNatClampNeg + len.toNatClampNeg ≤ na ∧ dp.toNatClampNeg + len.toNatClampNeg ≤ nb ∧ cs r ≤ 8 then (match t with
            | 0 => some (nx, ls, r, (K0, u1 I b (va_cpy (I a) (I b) sp.toNatClampNeg dp.toNatClampNeg len.toNatClampNeg), L))
            | 1 => some (nx, ls, r, (K0, I, u1 L b (va_cpy (L a) (L b) sp.toNatClampNeg dp.toNatClampNeg len.toNatClampNeg)))
            | _ => none) else none
        | _, _ => none
    | 1 => _ | 2 => _ | 3 => _ | 4 => _ | 5 => _ | 6 => _ | _ => _) Q = _
  rw [hn, ka, kb, cx, cy, cz]
  show RnS E M (if (1 : Nat) = 1 ∧ 0 ≤ sp.toInt ∧ 0 ≤ dp.toInt ∧ 0 ≤ len.toInt ∧ x + z ≤ na ∧ y + z ≤ nb ∧ cs r ≤ 8 then _ else none) Q = _
  rw [if_pos ⟨rfl, by omega, by omega, by omega, h1, h2, hc⟩]
  rfl
theorem ri_min {n : Nat} {x y : Int32} (hn : n % 10 = 5) (hc : cs r ≤ 8) : RnI E M (.invokedynamic n) nx ls (.int y :: .int x :: r) h Q = Rn E M nx ls (.int (if y < x then y else x) :: r) h Q := by
  show RnS E M (match n % 10 with
    | 0 => _ | 1 => _ | 2 => _ | 3 => _ | 4 => _
    | 5 => if cs r ≤ 8 then some (nx, ls, .int (if y < x then y else x) :: r, h) else none | 6 => _ | _ => _) Q = _
  rw [hn]
  show RnS E M (if cs r ≤ 8 then some (nx, ls, .int (if y < x then y else x) :: r, h) else none) Q = _
  rw [if_pos hc]
  rfl
theorem ri_max {n : Nat} {x y : Int32} (hn : n % 10 = 6) (hc : cs r ≤ 8) : RnI E M (.invokedynamic n) nx ls (.int y :: .int x :: r) h Q = Rn E M nx ls (.int (if x < y then y else x) :: r) h Q := by
  show RnS E M (match n % 10 with
    | 0 => _ | 1 => _ | 2 => _ | 3 => _ | 4 => _ | 5 => _
    | 6 => if cs r ≤ 8 then some (nx, ls, .int (if x < y then y else x) :: r, h) else none | _ => _) Q = _
  rw [hn]
  show RnS E M (if cs r ≤ 8 then some (nx, ls, .int (if x < y then y else x) :: r, h) else none) Q = _
  rw [if_pos hc]
  rfl
theorem ri_slen {n i : Nat} (hn : n % 10 = 2) (hi : i < 7) (hc : cs r ≤ 8) : RnI E M (.invokedynamic n) nx ls (.ref (1000010 + i) :: r) h Q = Rn E M nx ls (.int (Int32.ofNat (strLen i)) :: r) h Q := by
  have e : 1000010 + i - 1000010 = i := by omega
  show RnS E M (match n % 10 with
    | 0 => _ | 1 => _
    | 2 => if 1000010 ≤ 1000010 + i ∧ 1000010 + i < 1000017 ∧ cs r ≤ 8 then some (nx, ls, .int (Int32.ofNat (strLen (1000010 + i - 1000010))) :: r, h) else none
    | 3 => _ | 4 => _ | 5 => _ | 6 => _ | _ => _) Q = _
  rw [hn, e]
  show RnS E M (if 1000010 ≤ 1000010 + i ∧ 1000010 + i < 1000017 ∧ cs r ≤ 8 then some (nx, ls, .int (Int32.ofNat (strLen i)) :: r, h) else none) Q = _
  rw [if_pos ⟨by omega, by omega, hc⟩]
  rfl
theorem ri_sch {n i : Nat} {j : Int32} (hn : n % 10 = 3) (hi : i < 7) (hc : cs r ≤ 8) : RnI E M (.invokedynamic n) nx ls (.int j :: .ref (1000010 + i) :: r) h Q = if vinB j (strLen i) = true then Rn E M nx ls (.int ((strCh i).getD j.toNatClampNeg 0) :: r) h Q else False := by
  have e : 1000010 + i - 1000010 = i := by omega
  show RnS E M (match n % 10 with
    | 0 => _ | 1 => _ | 2 => _
    | 3 => if 1000010 ≤ 1000010 + i ∧ 1000010 + i < 1000017 ∧ cs r ≤ 8 ∧ vinB j (strLen (1000010 + i - 1000010)) = true then some (nx, ls, .int ((strCh (1000010 + i - 1000010)).getD j.toNatClampNeg 0) :: r, h) else none
    | 4 => _ | 5 => _ | 6 => _ | _ => _) Q = _
  rw [hn, e]
  show RnS E M (if 1000010 ≤ 1000010 + i ∧ 1000010 + i < 1000017 ∧ cs r ≤ 8 ∧ vinB j (strLen i) = true then some (nx, ls, .int ((strCh i).getD j.toNatClampNeg 0) :: r, h) else none) Q = _
  by_cases z : vinB j (strLen i) = true
  · rw [if_pos ⟨by omega, by omega, hc, z⟩, if_pos z]
    rfl
  · rw [if_neg (fun q => z q.2.2.2), if_neg z]
    rfl
theorem ri_retI {v : Int32} (hM : rkM M = 1) : RnI E M .ireturn nx ls [.int v] h Q = Q (some (.int v)) h := by
  have e : retV M v = true := by unfold retV; rw [hM]; rfl
  rw [ri_iret]
  exact propext ⟨fun z => z.2, fun z => ⟨e, z⟩⟩
theorem ri_retZ {v : Int32} (hM : rkM M = 2) (hv : v = 0 ∨ v = 1) : RnI E M .ireturn nx ls [.int v] h Q = Q (some (.int v)) h := by
  have e : retV M v = true := by
    unfold retV
    rw [hM]
    rcases hv with rfl | rfl <;> rfl
  rw [ri_iret]
  exact propext ⟨fun z => z.2, fun z => ⟨e, z⟩⟩
theorem ri_retL {v : Int64} (hM : rkM M = 3) : RnI E M .lreturn nx ls [.long v] h Q = Q (some (.long v)) h := by
  refine propext ⟨fun z => ?_, fun z => ⟨v, rfl, hM, z⟩⟩
  obtain ⟨w, e, a, b⟩ := z
  cases e
  exact b
theorem ri_retR {v : Nat} (hM : rkM M = 4) : RnI E M .areturn nx ls [.ref v] h Q = Q (some (.ref v)) h := by
  refine propext ⟨fun z => ?_, fun z => Or.inl ⟨v, rfl, hM, z⟩⟩
  rcases z with ⟨w, e, a, b⟩ | ⟨e, a, b⟩
  · cases e
    exact b
  · cases e
theorem ri_retN (hM : rkM M = 4) : RnI E M .areturn nx ls [.null] h Q = Q (some .null) h := by
  refine propext ⟨fun z => ?_, fun z => Or.inr ⟨rfl, hM, z⟩⟩
  rcases z with ⟨w, e, a, b⟩ | ⟨e, a, b⟩
  · cases e
  · exact b
theorem ri_ret0 (hM : rkM M = 0) : RnI E M .return_ nx ls [] h Q = Q none h := by
  exact propext ⟨fun z => z.2.2, fun z => ⟨rfl, hM, z⟩⟩
end HE
