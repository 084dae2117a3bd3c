/-! TAKERS: sets of thefts and their nights -/
theorem pcN_un {a b c : Nat → Bool} : ∀ n, (∀ i, i < n → c i = true → a i = true ∨ b i = true) → pcN c n ≤ pcN a n + pcN b n
  | 0, _ => Nat.le_refl _
  | n + 1, h => by
    have ih := pcN_un n (fun i hi => h i (by omega))
    have hn := h n (by omega)
    unfold pcN
    cases e : c n with
    | false =>
      rw [if_neg (by decide)]
      omega
    | true =>
      rw [if_pos rfl]
      rcases hn e with q | q
      · rw [if_pos q]
        omega
      · rw [if_pos q]
        omega
theorem pcN_dj {a b c : Nat → Bool} : ∀ n, (∀ i, i < n → a i = true → c i = true ∧ b i = false) → (∀ i, i < n → b i = true → c i = true) → pcN a n + pcN b n ≤ pcN c n
  | 0, _, _ => Nat.le_refl _
  | n + 1, h, g => by
    have ih := pcN_dj n (fun i hi => h i (by omega)) (fun i hi => g i (by omega))
    have hn := h n (by omega)
    have gn := g n (by omega)
    unfold pcN
    cases e : a n with
    | false =>
      rw [if_neg (by decide)]
      cases q : b n with
      | false =>
        rw [if_neg (by decide)]
        omega
      | true =>
        rw [if_pos rfl, if_pos (gn q)]
        omega
    | true =>
      obtain ⟨h1, h2⟩ := hn e
      rw [if_pos rfl, h2, if_neg (by decide), if_pos h1]
      omega
theorem pcN_none {p : Nat → Bool} : ∀ n, (∀ i, i < n → p i = false) → pcN p n = 0
  | 0, _ => rfl
  | n + 1, h => by
    unfold pcN
    rw [pcN_none n (fun i hi => h i (by omega)), h n (by omega)]
    rfl
def NS (S : Nat → Bool) (ch : Nat → Nat → Bool) (n : Nat) : Bool := anyN (fun t => S t && ch t n) 12
def HL (men : Nat) (V : Nat → Bool) (ch : Nat → Nat → Bool) : Prop := ∀ S : Nat → Bool, (∀ t, t < 12 → S t = true → V t = true) → pcN S 12 ≤ men * pcN (NS S ch) 60
def cnt (f : Nat → Nat) (n : Nat) : Nat := pcN (fun t => decide (f t = n)) 12
def PlV (men : Nat) (ch : Nat → Nat → Bool) (f : Nat → Nat) : Prop := (∀ t, t < 12 → f t < 60 → ch t (f t) = true) ∧ ∀ n, n < 60 → cnt f n ≤ men
def MT (men : Nat) (V : Nat → Bool) (ch : Nat → Nat → Bool) : Prop := ∃ f, PlV men ch f ∧ ∀ t, t < 12 → V t = true → f t < 60
theorem MT_HL {men : Nat} {V : Nat → Bool} {ch : Nat → Nat → Bool} (h : MT men V ch) : HL men V ch := by
  obtain ⟨f, ⟨h1, h2⟩, h3⟩ := h
  intro S hS
  have key : ∀ m, m ≤ 60 → pcN (fun t => S t && decide (f t < m)) 12 ≤ men * pcN (NS S ch) m := by
    intro m
    induction m with
    | zero =>
      intro _
      rw [pcN_none 12 (fun t ht => by rw [decide_eq_false (Nat.not_lt_zero _), Bool.and_false])]
      exact Nat.zero_le _
    | succ m ih =>
      intro hm
      have a := ih (by omega)
      have u := pcN_un (a := fun t => S t && decide (f t < m)) (b := fun t => S t && decide (f t = m)) (c := fun t => S t && decide (f t < m + 1)) 12 (fun t ht q => by
        simp only [Bool.and_eq_true, decide_eq_true_eq] at q ⊢
        by_cases z : f t = m
        · exact Or.inr ⟨q.1, z⟩
        · exact Or.inl ⟨q.1, by omega⟩)
      have b : pcN (fun t => S t && decide (f t = m)) 12 ≤ men * (if NS S ch m = true then 1 else 0) := by
        by_cases z : NS S ch m = true
        · rw [if_pos z, Nat.mul_one]
          exact Nat.le_trans (pcN_mono 12 (fun t ht q => (Bool.and_eq_true _ _ ▸ q).2)) (h2 m (by omega))
        · rw [pcN_none 12 (fun t ht => by
            apply Bool.eq_false_iff.mpr
            intro q
            simp only [Bool.and_eq_true, decide_eq_true_eq] at q
            apply z
            refine anyN_iff.mpr ⟨t, ht, ?_⟩
            have := h1 t ht (by omega)
            rw [q.2] at this
            simp only [Bool.and_eq_true]
            exact ⟨q.1, this⟩)]
          exact Nat.zero_le _
      show _ ≤ men * (pcN (NS S ch) m + if NS S ch m = true then 1 else 0)
      rw [Nat.mul_add]
      omega
  have e := key 60 (Nat.le_refl _)
  rw [pcN_congr (p := fun t => S t && decide (f t < 60)) (q := S) 12 (fun t ht => by
    cases z : S t with
    | false => rfl
    | true => rw [decide_eq_true (h3 t ht (hS t ht z))]; rfl)] at e
  exact e
def pt (g : Nat → Nat) (t v s : Nat) : Nat := if s = t then v else g s
theorem pt_s {g : Nat → Nat} {t v : Nat} : pt g t v t = v := if_pos rfl
theorem pt_n {g : Nat → Nat} {t v s : Nat} (h : ¬ s = t) : pt g t v s = g s := if_neg h
theorem cnt_to {f : Nat → Nat} {t n : Nat} (ht : t < 12) (h : f t ≠ n) : cnt (pt f t n) n = cnt f n + 1 := by
  unfold cnt
  exact (pcN_del (p := fun s => decide (pt f t n s = n)) (q := fun s => decide (f s = n)) (l := t) (by simp [pt]) (by simp [pt, h]) 12 ht (fun i hi z => by simp only [pt_n z])).symm
theorem cnt_ot {f : Nat → Nat} {t n m : Nat} (h : f t ≠ m) (g : n ≠ m) : cnt (pt f t n) m = cnt f m := by
  unfold cnt
  refine pcN_congr 12 (fun i hi => ?_)
  by_cases z : i = t
  · subst z
    simp [pt, h, g]
  · simp only [pt_n z]
theorem cnt_fr {f : Nat → Nat} {t n : Nat} (ht : t < 12) (h : n ≠ f t) : cnt (pt f t n) (f t) + 1 = cnt f (f t) := by
  unfold cnt
  exact pcN_del (p := fun s => decide (f s = f t)) (q := fun s => decide (pt f t n s = f t)) (l := t) (by simp [pt]) (by simp [pt, h]) 12 ht (fun i hi z => by simp only [pt_n z])
/-- a queue that holds a set -/
def QU (q : Nat → Nat) (m : Nat) (A : Nat → Bool) : Prop := m = pcN A 12 ∧ (∀ j, j < m → q j < 12 ∧ A (q j) = true) ∧ (∀ j k, j < k → k < m → q j ≠ q k) ∧ ∀ t, t < 12 → A t = true → ∃ j, j < m ∧ q j = t
theorem QU_congr {q : Nat → Nat} {m : Nat} {A B : Nat → Bool} (h : QU q m A) (e : ∀ t, t < 12 → B t = A t) : QU q m B := by
  obtain ⟨h1, h2, h3, h4⟩ := h
  refine ⟨h1.trans (pcN_congr 12 (fun i hi => (e i hi).symm)), fun j hj => ⟨(h2 j hj).1, ?_⟩, h3, fun t ht q => h4 t ht ?_⟩
  · rw [e _ (h2 j hj).1]
    exact (h2 j hj).2
  · rw [← e t ht]
    exact q
theorem QU_add {q : Nat → Nat} {m t : Nat} {A : Nat → Bool} (h : QU q m A) (ht : t < 12) (hA : A t = false) : m < 12 ∧ QU (pt q m t) (m + 1) (fun s => A s || decide (s = t)) := by
  obtain ⟨h1, h2, h3, h4⟩ := h
  have e : pcN A 12 + 1 = pcN (fun s => A s || decide (s = t)) 12 := pcN_del (l := t) (by simp) hA 12 ht (fun i hi z => by simp [z])
  have le := pcN_le (fun s => A s || decide (s = t)) 12
  refine ⟨by omega, by omega, fun j hj => ?_, fun j k hj hk => ?_, fun s hs a => ?_⟩
  · by_cases z : j = m
    · simp only [pt, if_pos z]
      exact ⟨ht, by simp⟩
    · have := h2 j (by omega)
      simp only [pt, if_neg z]
      exact ⟨this.1, by rw [this.2]; rfl⟩
  · have zj : j ≠ m := by omega
    simp only [pt_n zj]
    by_cases z : k = m
    · simp only [pt, if_pos z]
      intro q
      have := (h2 j (by omega)).2
      rw [q, hA] at this
      cases this
    · simp only [pt, if_neg z]
      exact h3 j k hj (by omega)
  · by_cases z : s = t
    · exact ⟨m, by omega, by simp [pt, z]⟩
    · have a : A s = true := by simpa [z] using a
      obtain ⟨j, hj, e⟩ := h4 s hs a
      exact ⟨j, by omega, by rw [pt_n (show j ≠ m by omega)]; exact e⟩
theorem QU_one {t : Nat} (ht : t < 12) : QU (fun _ => t) 1 (fun s => decide (s = t)) := by
  have e : ∀ t : Nat, t < 12 → pcN (fun s => decide (s = t)) 12 = 1 := by decide +kernel
  refine ⟨(e t ht).symm, fun j hj => ⟨ht, decide_eq_true rfl⟩, fun j k hj hk => by omega, fun s hs a => ⟨0, by omega, (of_decide_eq_true a).symm⟩⟩
