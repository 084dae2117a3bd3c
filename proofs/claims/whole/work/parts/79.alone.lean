/-! ALONE: the first night with which the others can still be -/
def UB (V : Nat → Bool) (f : Nat → Nat) (j n m : Nat) : Bool := decide (m = n) || anyN (fun i => V i && decide (f i = m)) j
def GA (V : Nat → Bool) (c : Nat → Nat → Bool) (f : Nat → Nat) (j n : Nat) : Prop := (∀ i, i < j → V i = true → f i ≠ n) ∧ HL 1 (fun t => V t && decide (j < t)) (fun t m => c t m && !UB V f j n m)
def C2 (c : Nat → Nat → Bool) (f : Nat → Nat) (k n t m : Nat) : Bool := if t < k then decide (m = f t) else if t = k then decide (m = n) else c t m
theorem HL_cV {m : Nat} {V V2 : Nat → Bool} {ch ch2 : Nat → Nat → Bool} (h1 : ∀ t, t < 12 → V2 t = V t) (h2 : ∀ t, t < 12 → V t = true → ∀ n, n < 60 → ch2 t n = ch t n) (h : HL m V ch) : HL m V2 ch2 := by
  intro S hS
  have hS2 : ∀ t, t < 12 → S t = true → V t = true := fun t ht q => by rw [← h1 t ht]; exact hS t ht q
  have a := h S hS2
  have e : pcN (NS S ch2) 60 = pcN (NS S ch) 60 := pcN_congr 60 (fun n hn => anyN_congr (fun t ht => by
    cases q : S t with
    | false => rfl
    | true => rw [h2 t ht (hS2 t ht q) n hn]))
  rw [e]
  exact a
theorem MT_cV {m : Nat} {V V2 : Nat → Bool} {ch ch2 : Nat → Nat → Bool} (h1 : ∀ t, t < 12 → V2 t = true → V t = true) (h2 : ∀ t, t < 12 → V2 t = true → ∀ n, n < 60 → ch t n = true → ch2 t n = true) (h : MT m V ch) : MT m V2 ch2 := by
  obtain ⟨f, ⟨p1, p2⟩, p3⟩ := h
  refine ⟨fun t => if V2 t = true then f t else 60, ⟨fun t ht q => ?_, fun n hn => ?_⟩, fun t ht q => ?_⟩
  · by_cases z : V2 t = true
    · simp only [if_pos z] at q ⊢
      exact h2 t ht z _ q (p1 t ht q)
    · simp only [if_neg z] at q
      exact absurd q (Nat.lt_irrefl 60)
  · refine Nat.le_trans ?_ (p2 n hn)
    refine pcN_mono 12 (fun t ht q => ?_)
    have q := of_decide_eq_true q
    by_cases z : V2 t = true
    · simp only [if_pos z] at q
      exact decide_eq_true q
    · simp only [if_neg z] at q
      omega
  · simp only [if_pos q]
    exact p3 t ht (h1 t ht q)
theorem pcN_le1 {p : Nat → Bool} : ∀ n, (∀ a b, a < b → b < n → p a = true → p b = true → False) → pcN p n ≤ 1
  | 0, _ => Nat.zero_le _
  | n + 1, h => by
    unfold pcN
    by_cases z : p n = true
    · rw [if_pos z, pcN_none n (fun i hi => by
        apply Bool.eq_false_iff.mpr
        intro q
        exact h i n hi (Nat.lt_succ_self n) q z)]
      exact Nat.le_refl _
    · rw [if_neg z]
      exact pcN_le1 n (fun a b h1 h2 => h a b h1 (by omega))
theorem pcN_two {p : Nat → Bool} {a b n : Nat} (hab : a < b) (hb : b < n) (pa : p a = true) (pb : p b = true) : 2 ≤ pcN p n := by
  have d := pcN_del (p := p) (q := fun i => p i && !decide (i = a)) (l := a) pa (by simp) n (by omega) (fun i hi z => by simp [z])
  have e := pcN_pos (p := fun i => p i && !decide (i = a)) (l := b) (by simp only [pb, Bool.true_and, Bool.not_eq_true']; exact decide_eq_false (by omega)) n hb
  omega
theorem cnt_inj {g : Nat → Nat} {a b : Nat} (h : cnt g (g a) ≤ 1) (ha : a < 12) (hb : b < 12) (ne : a ≠ b) : g b ≠ g a := by
  intro e
  rcases Nat.lt_or_gt_of_ne ne with z | z
  · have := pcN_two (p := fun t => decide (g t = g a)) z hb (decide_eq_true rfl) (decide_eq_true e)
    unfold cnt at h
    omega
  · have := pcN_two (p := fun t => decide (g t = g a)) z ha (decide_eq_true e) (decide_eq_true rfl)
    unfold cnt at h
    omega
theorem C2_lt {c : Nat → Nat → Bool} {f : Nat → Nat} {k n t m : Nat} (h : t < k) : C2 c f k n t m = decide (m = f t) := if_pos h
theorem C2_eq {c : Nat → Nat → Bool} {f : Nat → Nat} {k n m : Nat} : C2 c f k n k m = decide (m = n) := by
  unfold C2
  rw [if_neg (Nat.lt_irrefl k), if_pos rfl]
theorem C2_gt {c : Nat → Nat → Bool} {f : Nat → Nat} {k n t m : Nat} (h : k < t) : C2 c f k n t m = c t m := by
  unfold C2
  rw [if_neg (by omega), if_neg (by omega)]
theorem GA_of_MT {V : Nat → Bool} {c : Nat → Nat → Bool} {f : Nat → Nat} {k n : Nat} (hk : k < 12) (Vk : V k = true) (h : MT 1 V (C2 c f k n)) : GA V c f k n := by
  obtain ⟨g, ⟨p1, p2⟩, p3⟩ := h
  have gk : g k = n := by
    have := p1 k hk (p3 k hk Vk)
    rw [C2_eq] at this
    exact of_decide_eq_true this
  have gl : ∀ i, i < k → V i = true → g i = f i := fun i hi Vi => by
    have := p1 i (by omega) (p3 i (by omega) Vi)
    rw [C2_lt hi] at this
    exact of_decide_eq_true this
  refine ⟨fun i hi Vi e => ?_, MT_HL ⟨fun t => if (V t && decide (k < t)) = true then g t else 60, ⟨fun t ht q => ?_, fun m hm => ?_⟩, fun t ht q => ?_⟩⟩
  · have g1 := gl i hi Vi
    exact cnt_inj (g := g) (a := k) (b := i) (p2 _ (p3 k hk Vk)) hk (by omega) (by omega) (by rw [g1, gk]; exact e)
  · by_cases z : (V t && decide (k < t)) = true
    · simp only [if_pos z] at q ⊢
      simp only [Bool.and_eq_true, decide_eq_true_eq] at z
      have a := p1 t ht q
      rw [C2_gt z.2] at a
      have b : UB V f k n (g t) = false := by
        apply Bool.eq_false_iff.mpr
        intro w
        unfold UB at w
        rw [Bool.or_eq_true, decide_eq_true_eq, anyN_iff] at w
        rcases w with w | ⟨i, hi, w⟩
        · exact cnt_inj (g := g) (a := k) (b := t) (p2 _ (p3 k hk Vk)) hk ht (by omega) (by rw [gk]; exact w)
        · simp only [Bool.and_eq_true, decide_eq_true_eq] at w
          exact cnt_inj (g := g) (a := i) (b := t) (p2 _ (p3 i (by omega) w.1)) (by omega) ht (by omega) (by rw [gl i hi w.1]; exact w.2.symm)
      rw [a, b]
      rfl
    · simp only [if_neg z] at q
      exact absurd q (Nat.lt_irrefl 60)
  · refine Nat.le_trans ?_ (p2 m hm)
    refine pcN_mono 12 (fun t ht q => ?_)
    have q := of_decide_eq_true q
    by_cases z : (V t && decide (k < t)) = true
    · simp only [if_pos z] at q
      exact decide_eq_true q
    · simp only [if_neg z] at q
      omega
  · have q2 : (V t && decide (k < t)) = true := q
    simp only [if_pos q2]
    simp only [Bool.and_eq_true] at q2
    exact p3 t ht q2.1
theorem HL_of_GA {V : Nat → Bool} {c : Nat → Nat → Bool} {f : Nat → Nat} {k n : Nat} (hk : k < 12) (hn : n < 60) (hf : ∀ i, i < k → V i = true → f i < 60) (di : ∀ a b, a < b → b < k → V a = true → V b = true → f a ≠ f b) (h : GA V c f k n) : HL 1 V (C2 c f k n) := by
  obtain ⟨h1, h2⟩ := h
  intro S hS
  have low : HL 1 (fun t => V t && decide (t ≤ k)) (C2 c f k n) := by
    refine MT_HL ⟨fun t => if (V t && decide (t ≤ k)) = true then pt f k n t else 60, ⟨fun t ht q => ?_, fun m hm => ?_⟩, fun t ht q => ?_⟩
    · by_cases z : (V t && decide (t ≤ k)) = true
      · simp only [if_pos z]
        simp only [Bool.and_eq_true, decide_eq_true_eq] at z
        by_cases y : t = k
        · rw [y, C2_eq, pt_s]
          exact decide_eq_true rfl
        · rw [C2_lt (by omega), pt_n y]
          exact decide_eq_true rfl
      · simp only [if_neg z] at q
        exact absurd q (Nat.lt_irrefl 60)
    · refine pcN_le1 12 (fun a b hab hb qa qb => ?_)
      have qa := of_decide_eq_true qa
      have qb := of_decide_eq_true qb
      by_cases za : (V a && decide (a ≤ k)) = true
      · by_cases zb : (V b && decide (b ≤ k)) = true
        · simp only [if_pos za] at qa
          simp only [if_pos zb] at qb
          simp only [Bool.and_eq_true, decide_eq_true_eq] at za zb
          rw [pt_n (by omega)] at qa
          by_cases y : b = k
          · rw [y, pt_s] at qb
            exact h1 a (by omega) za.1 (by omega)
          · rw [pt_n y] at qb
            exact di a b hab (by omega) za.1 zb.1 (by omega)
        · simp only [if_neg zb] at qb
          omega
      · simp only [if_neg za] at qa
        omega
    · have q : (V t && decide (t ≤ k)) = true := q
      simp only [if_pos q]
      simp only [Bool.and_eq_true, decide_eq_true_eq] at q
      by_cases y : t = k
      · rw [y, pt_s]
        exact hn
      · rw [pt_n y]
        exact hf t (by omega) q.1
  have s1 := low (fun t => S t && decide (t ≤ k)) (fun t ht q => by
    simp only [Bool.and_eq_true] at q ⊢
    exact ⟨hS t ht q.1, q.2⟩)
  have s2 := h2 (fun t => S t && decide (k < t)) (fun t ht q => by
    simp only [Bool.and_eq_true] at q ⊢
    exact ⟨hS t ht q.1, q.2⟩)
  have s3 := pcN_un (a := fun t => S t && decide (t ≤ k)) (b := fun t => S t && decide (k < t)) (c := S) 12 (fun t ht q => by
    by_cases z : t ≤ k
    · exact Or.inl (by simp [q, z])
    · exact Or.inr (by simp [q, show k < t by omega]))
  have s4 := pcN_dj (a := NS (fun t => S t && decide (t ≤ k)) (C2 c f k n)) (b := NS (fun t => S t && decide (k < t)) (fun t m => c t m && !UB V f k n m)) (c := NS S (C2 c f k n)) 60 (fun m hm q => by
    obtain ⟨t, ht, q⟩ := anyN_iff.mp q
    simp only [Bool.and_eq_true, decide_eq_true_eq] at q
    refine ⟨anyN_iff.mpr ⟨t, ht, by rw [q.1.1, q.2]; rfl⟩, ?_⟩
    have ub : UB V f k n m = true := by
      unfold UB
      rw [Bool.or_eq_true, decide_eq_true_eq, anyN_iff]
      by_cases y : t = k
      · rw [y, C2_eq] at q
        exact Or.inl (of_decide_eq_true q.2)
      · rw [C2_lt (by omega)] at q
        refine Or.inr ⟨t, by omega, ?_⟩
        rw [hS t ht q.1.1, Bool.true_and]
        exact decide_eq_true (of_decide_eq_true q.2).symm
    apply Bool.eq_false_iff.mpr
    intro w
    obtain ⟨t2, -, w⟩ := anyN_iff.mp w
    simp only [ub] at w
    simp at w) (fun m hm q => by
    obtain ⟨t, ht, q⟩ := anyN_iff.mp q
    simp only [Bool.and_eq_true, decide_eq_true_eq] at q
    refine anyN_iff.mpr ⟨t, ht, ?_⟩
    rw [C2_gt q.1.2, q.1.1, q.2.1]
    rfl)
  omega
theorem GA_congr {V : Nat → Bool} {c : Nat → Nat → Bool} {f f2 : Nat → Nat} {j n : Nat} (h : ∀ i, i < j → f2 i = f i) (g : GA V c f j n) : GA V c f2 j n := by
  obtain ⟨g1, g2⟩ := g
  refine ⟨fun i hi Vi => by rw [h i hi]; exact g1 i hi Vi, ?_⟩
  have e : UB V f2 j n = UB V f j n := by
    funext m
    unfold UB
    rw [anyN_congr (p := fun i => V i && decide (f2 i = m)) (r := fun i => V i && decide (f i = m)) (fun i hi => by rw [h i hi])]
  rw [e]
  exact g2
/-- the night of the j-th: the first that leaves all others one -/
def LsN (V : Nat → Bool) (c : Nat → Nat → Bool) (f : Nat → Nat) (j : Nat) : Prop := f j < 60 ∧ c j (f j) = true ∧ GA V c f j (f j) ∧ ∀ n, n < f j → c j n = true → ¬ GA V c f j n
theorem LS_congr {V : Nat → Bool} {c : Nat → Nat → Bool} {f f2 : Nat → Nat} {j : Nat} (h : ∀ i, i ≤ j → f2 i = f i) (g : LsN V c f j) : LsN V c f2 j := by
  obtain ⟨g1, g2, g3, g4⟩ := g
  have e := h j (Nat.le_refl _)
  unfold LsN
  rw [e]
  exact ⟨g1, g2, GA_congr (fun i hi => h i (by omega)) g3, fun n hn cn q => g4 n hn cn (GA_congr (fun i hi => (h i (by omega)).symm) q)⟩
