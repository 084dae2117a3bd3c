/-! WALKS: the sets that are reached quarter by quarter -/
theorem anyN_iff {p : Nat → Bool} : ∀ {n}, anyN p n = true ↔ ∃ d, d < n ∧ p d = true
  | 0 => ⟨(fun h => by cases h), (fun ⟨d, h, _⟩ => by omega)⟩
  | n + 1 => by
    have ih := anyN_iff (p := p) (n := n)
    unfold anyN
    rw [Bool.or_eq_true, ih]
    constructor
    · rintro (⟨d, h1, h2⟩ | h)
      · exact ⟨d, by omega, h2⟩
      · exact ⟨n, by omega, h⟩
    · rintro ⟨d, h1, h2⟩
      by_cases z : d = n
      · subst z
        exact Or.inr h2
      · exact Or.inl ⟨d, by omega, h2⟩
theorem anyN_congr {p r : Nat → Bool} : ∀ {n}, (∀ d, d < n → p d = r d) → anyN p n = anyN r n
  | 0, _ => rfl
  | n + 1, h => by
    unfold anyN
    rw [anyN_congr (fun d hd => h d (by omega)), h n (by omega)]
theorem nbr_lt {c d : Nat} (h : nbr c d = true) : d < 48 := by
  unfold nbr at h
  simp only [Bool.and_eq_true, decide_eq_true_eq] at h
  exact h.1
theorem nbr_sym {c d : Nat} (hc : c < 48) (h : nbr c d = true) : nbr d c = true := by
  unfold nbr at h ⊢
  simp only [Bool.and_eq_true, Bool.or_eq_true, decide_eq_true_eq] at h ⊢
  omega
/-- the quarters that it takes to go into a cell -/
def cst (k : Nat) : Nat := if k = 0 then 2 else if k = 1 then 1 else 3
/-- R q c, q 0, with what is before 0 empty -/
def RR (g : Nat → Nat) (f q c : Nat) : Bool := (Rs g f q).1 c
theorem RR_0 {g : Nat → Nat} {f c : Nat} : RR g f 0 c = (decide (c = f) && !decide (g f = 3)) := rfl
theorem Rs_2 {g : Nat → Nat} {f q c : Nat} : (Rs g f q).2.1 c = match q with | 0 => false | q + 1 => RR g f q c := by
  cases q <;> rfl
theorem Rs_3 {g : Nat → Nat} {f q c : Nat} : (Rs g f q).2.2 c = match q with | 0 => false | 1 => false | q + 2 => RR g f q c := by
  match q with
  | 0 => rfl
  | 1 => rfl
  | q + 2 => rfl
theorem RR_s {g : Nat → Nat} {f q c : Nat} : RR g f (q + 1) c = true ↔ RR g f q c = true ∨ ∃ d, nbr c d = true ∧ ((g c = 1 ∧ RR g f q d = true) ∨ (g c = 0 ∧ (Rs g f q).2.1 d = true) ∨ (g c = 2 ∧ (Rs g f q).2.2 d = true)) := by
  show (RR g f q c || anyN _ 48) = true ↔ _
  rw [Bool.or_eq_true, anyN_iff]
  constructor
  · rintro (h | ⟨d, h1, h2⟩)
    · exact Or.inl h
    · simp only [Bool.and_eq_true, Bool.or_eq_true, decide_eq_true_eq] at h2
      refine Or.inr ⟨d, h2.1, ?_⟩
      rcases h2.2 with (h | h) | h
      · exact Or.inl h
      · exact Or.inr (Or.inl h)
      · exact Or.inr (Or.inr h)
  · rintro (h | ⟨d, h1, h2⟩)
    · exact Or.inl h
    · refine Or.inr ⟨d, nbr_lt h1, ?_⟩
      simp only [Bool.and_eq_true, Bool.or_eq_true, decide_eq_true_eq]
      refine ⟨h1, ?_⟩
      rcases h2 with h | h | h
      · exact Or.inl (Or.inl h)
      · exact Or.inl (Or.inr h)
      · exact Or.inr h
theorem RR_up {g : Nat → Nat} {f q c : Nat} (h : RR g f q c = true) : RR g f (q + 1) c = true := RR_s.mpr (Or.inl h)
theorem RR_mono {g : Nat → Nat} {f c : Nat} : ∀ {q r : Nat}, q ≤ r → RR g f q c = true → RR g f r c = true := by
  intro q r h
  obtain ⟨d, rfl⟩ := Nat.le.dest h
  clear h
  induction d with
  | zero => exact id
  | succ d ih => exact fun h => RR_up (ih h)
/-- a cell beside one that is reached, its cost later -/
theorem RR_go {g : Nat → Nat} {f q c d : Nat} (hg : g c < 3) (h : nbr c d = true) (r : RR g f q d = true) : RR g f (q + cst (g c)) c = true := by
  unfold cst
  have h3 : g c = 0 ∨ g c = 1 ∨ g c = 2 := by omega
  rcases h3 with e | e | e
  · rw [if_pos e]
    refine RR_s.mpr (Or.inr ⟨d, h, Or.inr (Or.inl ⟨e, ?_⟩)⟩)
    rw [Rs_2]
    exact r
  · rw [if_neg (by omega), if_pos e]
    exact RR_s.mpr (Or.inr ⟨d, h, Or.inl ⟨e, r⟩⟩)
  · rw [if_neg (by omega), if_neg (by omega)]
    refine RR_s.mpr (Or.inr ⟨d, h, Or.inr (Or.inr ⟨e, ?_⟩)⟩)
    rw [Rs_3]
    exact r
/-- and back: whence it was reached -/
theorem RR_from {g : Nat → Nat} {f q c : Nat} (h : RR g f q c = true) : (c = f ∧ g f ≠ 3) ∨ ∃ d r, nbr c d = true ∧ g c < 3 ∧ RR g f r d = true ∧ r + cst (g c) ≤ q := by
  induction q with
  | zero =>
    rw [RR_0] at h
    simp only [Bool.and_eq_true, decide_eq_true_eq, Bool.not_eq_true', decide_eq_false_iff_not] at h
    exact Or.inl h
  | succ q ih =>
    rcases RR_s.mp h with h | ⟨d, h1, h2⟩
    · rcases ih h with a | ⟨d, r, a1, a2, a3, a4⟩
      · exact Or.inl a
      · exact Or.inr ⟨d, r, a1, a2, a3, by omega⟩
    · refine Or.inr ?_
      rcases h2 with ⟨e, h⟩ | ⟨e, h⟩ | ⟨e, h⟩
      · exact ⟨d, q, h1, by omega, h, by rw [e]; exact Nat.le_refl _⟩
      · rw [Rs_2] at h
        match q, h with
        | q + 1, h => exact ⟨d, q, h1, by omega, h, by rw [e]; exact Nat.le_refl _⟩
      · rw [Rs_3] at h
        match q, h with
        | q + 2, h => exact ⟨d, q, h1, by omega, h, by rw [e]; exact Nat.le_refl _⟩
theorem RR_land {g : Nat → Nat} {f q c : Nat} (h : RR g f q c = true) : g c ≠ 3 ∧ g f ≠ 3 := by
  induction q using Nat.strongRecOn generalizing c with
  | ind q ih =>
    rcases RR_from h with ⟨a, b⟩ | ⟨d, r, a1, a2, a3, a4⟩
    · subst a
      exact ⟨b, b⟩
    · have hc : 0 < cst (g c) := by
        unfold cst
        split
        · decide
        · split <;> decide
      exact ⟨by omega, (ih r (by omega) a3).2⟩
/-- within 144 quarters all is reached that ever is -/
theorem pcN_mono {p r : Nat → Bool} : ∀ n, (∀ i, i < n → p i = true → r i = true) → pcN p n ≤ pcN r n
  | 0, _ => Nat.le_refl _
  | n + 1, h => by
    have ih := pcN_mono (p := p) (r := r) n (fun i hi => h i (by omega))
    have hn := h n (by omega)
    unfold pcN
    cases e : p n with
    | false =>
      rw [if_neg (by decide)]
      omega
    | true =>
      rw [hn e, if_pos rfl]
      omega
theorem pcN_strict {p r : Nat → Bool} {l : Nat} (hp : p l = false) (hr : r l = true) : ∀ n, l < n → (∀ i, i < n → p i = true → r i = true) → pcN p n + 1 ≤ pcN r n
  | 0, h, _ => by omega
  | n + 1, h, g => by
    by_cases z : l = n
    · subst z
      have := pcN_mono (p := p) (r := r) l (fun i hi => g i (by omega))
      unfold pcN
      rw [hp, hr, if_neg (by decide), if_pos rfl]
      omega
    · have ih := pcN_strict hp hr n (by omega) (fun i hi => g i (by omega))
      have hn := g n (by omega)
      unfold pcN
      cases e : p n with
      | false =>
        rw [if_neg (by decide)]
        omega
      | true =>
        rw [hn e, if_pos rfl]
        omega
theorem RR_const {g : Nat → Nat} {f q : Nat} (h : ∀ c, c < 48 → RR g f (q + 3) c = true → RR g f q c = true) : ∀ r c, c < 48 → RR g f (q + r) c = true → RR g f q c = true := by
  intro r
  induction r using Nat.strongRecOn with
  | ind r ih =>
    intro c hc hr
    by_cases z : r ≤ 3
    · exact h c hc (RR_mono (by omega) hr)
    · rcases RR_from hr with ⟨a, b⟩ | ⟨d, s, a1, a2, a3, a4⟩
      · subst a
        refine RR_mono (q := 0) (by omega) ?_
        rw [RR_0]
        simp [b]
      · have hd := nbr_lt a1
        have hs : RR g f q d = true := by
          by_cases y : s ≤ q
          · exact RR_mono y a3
          · have hc1 : 0 < cst (g c) := by
              unfold cst
              split
              · decide
              · split <;> decide
            have e : s = q + (s - q) := by omega
            rw [e] at a3
            exact ih (s - q) (by omega) d hd a3
        have h2 := RR_go a2 a1 hs
        have hc3 : cst (g c) ≤ 3 := by
          unfold cst
          split
          · decide
          · split <;> decide
        exact h c hc (RR_mono (by omega) h2)
theorem RR_pig {g : Nat → Nat} {f : Nat} (hf : f < 48) : ∀ k, (k + 1 ≤ pcN (RR g f (3 * k)) 48) ∨ ∀ r c, c < 48 → RR g f (3 * k + r) c = true → RR g f (3 * k) c = true
  | 0 => by
    by_cases z : g f = 3
    · refine Or.inr fun r c hc h => ?_
      exact absurd z (RR_land h).2
    · refine Or.inl ?_
      have : RR g f 0 f = true := by
        rw [RR_0]
        simp [z]
      exact pcN_pos this 48 hf
  | k + 1 => by
    rcases RR_pig (g := g) hf k with h | h
    · by_cases z : ∀ c, c < 48 → RR g f (3 * k + 3) c = true → RR g f (3 * k) c = true
      · refine Or.inr fun r c hc hr => ?_
        have := RR_const z (3 + r) c hc (by rw [show 3 * k + (3 + r) = 3 * (k + 1) + r by omega]; exact hr)
        exact RR_mono (by omega) this
      · have : ∃ c, c < 48 ∧ RR g f (3 * k + 3) c = true ∧ RR g f (3 * k) c = false := by
          apply Classical.byContradiction
          intro q
          apply z
          intro c hc h1
          cases e : RR g f (3 * k) c with
          | true => rfl
          | false => exact absurd ⟨c, hc, h1, e⟩ q
        obtain ⟨c, hc, h1, h2⟩ := this
        refine Or.inl ?_
        have := pcN_strict h2 h1 48 hc (fun i _ hi => RR_mono (by omega) hi)
        rw [show 3 * (k + 1) = 3 * k + 3 by omega]
        omega
    · refine Or.inr fun r c hc hr => ?_
      have := h (3 + r) c hc (by rw [show 3 * k + (3 + r) = 3 * (k + 1) + r by omega]; exact hr)
      exact RR_mono (by omega) this
theorem RR_144 {g : Nat → Nat} {f q c : Nat} (hf : f < 48) (hc : c < 48) (h : RR g f q c = true) : RR g f 144 c = true := by
  rcases RR_pig (g := g) hf 48 with z | z
  · have := pcN_le (RR g f (3 * 48)) 48
    omega
  · by_cases y : q ≤ 144
    · exact RR_mono y h
    · have e : q = 3 * 48 + (q - 144) := by omega
      rw [e] at h
      exact z _ c hc h
/-- reached at all -/
def Rch (g : Nat → Nat) (f c : Nat) : Prop := RR g f 144 c = true
theorem Rch_go {g : Nat → Nat} {f c d : Nat} (hf : f < 48) (hc : c < 48) (hg : g c < 3) (h : nbr c d = true) (r : Rch g f d) : Rch g f c := RR_144 hf hc (RR_go hg h r)
theorem Rch_sym {g : Nat → Nat} (hg : ∀ c, c < 48 → g c < 4) {a b : Nat} (ha : a < 48) (hb : b < 48) (h : Rch g a b) : Rch g b a := by
  have la := RR_land h
  have self : Rch g b b := by
    refine RR_mono (q := 0) (by omega) ?_
    rw [RR_0]
    simp [la.1]
  have key : ∀ q c, c < 48 → RR g a q c = true → Rch g b c → Rch g b a := by
    intro q
    induction q using Nat.strongRecOn with
    | ind q ih =>
      intro c hc hr hbc
      rcases RR_from hr with ⟨e, -⟩ | ⟨d, s, a1, a2, a3, a4⟩
      · rw [← e]
        exact hbc
      · have hd := nbr_lt a1
        have hc1 : 0 < cst (g c) := by
          unfold cst
          split
          · decide
          · split <;> decide
        have ld := (RR_land a3).1
        have := hg d hd
        exact ih s (by omega) d hd a3 (Rch_go hb hd (by omega) (nbr_sym hc a1) hbc)
  exact key 144 b hb h self
/-- the first place where a row holds -/
theorem fsA_some {p : Nat → Bool} : ∀ d i k, i ≤ k → k < i + d → p k = true → (∀ j, i ≤ j → j < k → p j = false) → fsA p d i = Int32.ofNat k
  | 0, i, k, h1, h2, _, _ => by omega
  | d + 1, i, k, h1, h2, h3, h4 => by
    unfold fsA
    by_cases z : i = k
    · subst z
      rw [if_pos h3]
    · rw [h4 i (Nat.le_refl _) (by omega), if_neg (by decide)]
      exact fsA_some d (i + 1) k (by omega) (by omega) h3 (fun j h5 h6 => h4 j (by omega) h6)
theorem fsA_none {p : Nat → Bool} : ∀ d i, (∀ j, i ≤ j → j < i + d → p j = false) → fsA p d i = -9
  | 0, _, _ => rfl
  | d + 1, i, h => by
    unfold fsA
    rw [h i (Nat.le_refl _) (by omega), if_neg (by decide)]
    exact fsA_none d (i + 1) (fun j h5 h6 => h j (by omega) (by omega))
theorem least_of {p : Nat → Bool} : ∀ n, (∃ k, k < n ∧ p k = true) → ∃ k, k < n ∧ p k = true ∧ ∀ j, j < k → p j = false
  | 0, ⟨k, h, _⟩ => by omega
  | n + 1, h => by
    by_cases z : ∃ k, k < n ∧ p k = true
    · obtain ⟨k, h1, h2, h3⟩ := least_of n z
      exact ⟨k, by omega, h2, h3⟩
    · obtain ⟨k, h1, h2⟩ := h
      refine ⟨k, h1, h2, fun j hj => ?_⟩
      cases e : p j with
      | false => rfl
      | true => exact absurd ⟨j, by omega, e⟩ z
theorem wayF_some {g : Nat → Nat} {f c k : Nat} (hk : k ≤ 144) (h1 : RR g f k c = true) (h2 : ∀ j, j < k → RR g f j c = false) : wayF g f c = Int32.ofNat k := fsA_some 145 0 k (by omega) (by omega) h1 (fun j _ hj => h2 j hj)
theorem wayF_none {g : Nat → Nat} {f c : Nat} (h : ¬ Rch g f c) : wayF g f c = -9 := by
  refine fsA_none 145 0 (fun j _ hj => ?_)
  cases e : (Rs g f j).1 c with
  | false => rfl
  | true => exact absurd (RR_mono (show j ≤ 144 by omega) e) h
theorem wayF_ex {g : Nat → Nat} {f c : Nat} (h : Rch g f c) : ∃ k, k ≤ 144 ∧ wayF g f c = Int32.ofNat k ∧ RR g f k c = true := by
  obtain ⟨k, h1, h2, h3⟩ := least_of (p := fun q => RR g f q c) 145 ⟨144, by decide, h⟩
  exact ⟨k, by omega, wayF_some (by omega) h2 h3, h2⟩
