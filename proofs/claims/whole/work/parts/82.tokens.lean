/-! YEAR: the tokens of a text -/
def spn (P : Nat → Bool) (b : Nat → Nat) : Nat → Nat → Nat
  | 0, p => p
  | d + 1, p => if P (b p) = true then spn P b d (p + 1) else p
def isS (c : Nat) : Bool := decide (c = 32)
def isL (c : Nat) : Bool := decide (97 ≤ c) && decide (c ≤ 122)
def isD (c : Nat) : Bool := decide (48 ≤ c) && decide (c ≤ 57)
theorem spn_t {P : Nat → Bool} {b : Nat → Nat} {d p : Nat} (h : P (b p) = true) : spn P b (d + 1) p = spn P b d (p + 1) := if_pos h
theorem spn_f {P : Nat → Bool} {b : Nat → Nat} {d p : Nat} (h : ¬ P (b p) = true) : spn P b (d + 1) p = p := if_neg h
theorem spn_le {P : Nat → Bool} {b : Nat → Nat} : ∀ d p, p ≤ spn P b d p ∧ spn P b d p ≤ p + d
  | 0, p => ⟨Nat.le_refl _, Nat.le_refl _⟩
  | d + 1, p => by
    by_cases z : P (b p) = true
    · rw [spn_t z]
      have := spn_le (P := P) (b := b) d (p + 1)
      omega
    · rw [spn_f z]
      omega
theorem spn_in {P : Nat → Bool} {b : Nat → Nat} : ∀ d p i, p ≤ i → i < spn P b d p → P (b i) = true
  | 0, p, i, h1, h2 => by
    have h2 : i < p := h2
    omega
  | d + 1, p, i, h1, h2 => by
    by_cases z : P (b p) = true
    · rw [spn_t z] at h2
      by_cases y : i = p
      · rw [y]
        exact z
      · exact spn_in d (p + 1) i (by omega) h2
    · rw [spn_f z] at h2
      omega
theorem spn_pos {P : Nat → Bool} {b : Nat → Nat} {d p : Nat} (hd : 0 < d) (h : P (b p) = true) : p < spn P b d p := by
  obtain ⟨e, rfl⟩ : ∃ e, d = e + 1 := ⟨d - 1, by omega⟩
  rw [spn_t h]
  have := (spn_le (P := P) (b := b) e (p + 1)).1
  omega
/-- digits, cut at a hundred; digits, not grown beyond -/
def nC (b : Nat → Nat) (s : Nat) : Nat → Nat
  | 0 => 0
  | k + 1 => min 100 (10 * nC b s k + (b (s + k) - 48))
def nM (b : Nat → Nat) (s : Nat) : Nat → Nat
  | 0 => 0
  | k + 1 => if 99 < nM b s k then nM b s k else 10 * nM b s k + (b (s + k) - 48)
theorem nC_nM {b : Nat → Nat} {s : Nat} : ∀ k, (nC b s k ≤ 99 ↔ nM b s k ≤ 99) ∧ (nM b s k ≤ 99 → nC b s k = nM b s k)
  | 0 => ⟨Iff.rfl, fun _ => rfl⟩
  | k + 1 => by
    obtain ⟨h1, h2⟩ := nC_nM (b := b) (s := s) k
    unfold nC nM
    by_cases z : 99 < nM b s k
    · rw [if_pos z]
      omega
    · rw [if_neg z]
      have := h2 (by omega)
      rw [this]
      omega
theorem nC_le {b : Nat → Nat} {s : Nat} : ∀ k, nC b s k ≤ 100
  | 0 => Nat.zero_le _
  | k + 1 => Nat.min_le_left _ _
theorem nM_le {b : Nat → Nat} {s : Nat} : ∀ k, (∀ j, j < k → b (s + j) ≤ 57) → nM b s k ≤ 999
  | 0, _ => Nat.zero_le _
  | k + 1, h => by
    have h1 := nM_le k (fun j hj => h j (by omega))
    have h2 := h k (by omega)
    unfold nM
    split <;> omega
/-- letters, as a number -/
def wF (b : Nat → Nat) (s : Nat) : Nat → Nat
  | 0 => 0
  | k + 1 => 256 * wF b s k + b (s + k)
theorem wF_lt {b : Nat → Nat} {s : Nat} : ∀ k, (∀ j, j < k → 1 ≤ b (s + j) ∧ b (s + j) < 256) → wF b s k < 256 ^ k ∧ (1 ≤ k → 256 ^ (k - 1) ≤ wF b s k)
  | 0, _ => ⟨Nat.one_pos, fun h => absurd h (by decide)⟩
  | k + 1, h => by
    obtain ⟨h1, h2⟩ := wF_lt k (fun j hj => h j (by omega))
    have h3 := h k (by omega)
    have e : 256 ^ (k + 1) = 256 * 256 ^ k := by rw [Nat.pow_succ, Nat.mul_comm]
    refine ⟨?_, fun _ => ?_⟩
    · rw [e]
      show 256 * wF b s k + b (s + k) < _
      omega
    · show 256 ^ (k + 1 - 1) ≤ 256 * wF b s k + b (s + k)
      rw [Nat.add_sub_cancel]
      by_cases z : 1 ≤ k
      · have h4 := h2 z
        obtain ⟨m, rfl⟩ : ∃ m, k = m + 1 := ⟨k - 1, by omega⟩
        have e2 : 256 ^ (m + 1) = 256 * 256 ^ m := by rw [Nat.pow_succ, Nat.mul_comm]
        rw [Nat.add_sub_cancel] at h4
        rw [e2]
        omega
      · have : k = 0 := by omega
        subst this
        have h5 := h3.1
        show 1 ≤ 256 * 0 + b (s + 0)
        omega
def wLen (i : Nat) : Nat := if i = 1 ∨ i = 3 then 5 else 4
def wCod (i : Nat) : Nat := match i with
  | 0 => 1885434984
  | 1 => 495924112752
  | 2 => 1818323813
  | 3 => 426835601774
  | 4 => 1752132965
  | 5 => 1836019566
  | _ => 1936617335
def wIs (b : Nat → Nat) (s l i : Nat) : Bool := decide (l = wLen i) && decide (wF b s (wLen i) = wCod i)
/-- which word it is, from the i-th on; 9: none -/
def wNo (b : Nat → Nat) (s l : Nat) : Nat := if wIs b s l 0 = true then 0 else if wIs b s l 1 = true then 1 else if wIs b s l 2 = true then 2 else if wIs b s l 3 = true then 3 else if wIs b s l 4 = true then 4 else if wIs b s l 5 = true then 5 else if wIs b s l 6 = true then 6 else 9
theorem wNo_le {b : Nat → Nat} {s l : Nat} : wNo b s l ≤ 6 ∨ wNo b s l = 9 := by
  unfold wNo
  repeat' split
  all_goals omega
/-- the token from p on: where it starts, where it ends, what it is (as the class has it; as the model has it) and its worth -/
def tS (n : Nat) (b : Nat → Nat) (p : Nat) : Nat := spn isS b (n - p) p
def tE (n : Nat) (b : Nat → Nat) (p : Nat) : Nat := if n ≤ tS n b p then tS n b p else if isL (b (tS n b p)) = true then spn isL b (n - tS n b p) (tS n b p) else if isD (b (tS n b p)) = true then spn isD b (n - tS n b p) (tS n b p) else tS n b p + 1
def tC (n : Nat) (b : Nat → Nat) (p : Nat) : Nat := if n ≤ tS n b p then 0 else if isL (b (tS n b p)) = true then 1 else if isD (b (tS n b p)) = true then (if 99 < nC b (tS n b p) (tE n b p - tS n b p) ∨ (b (tS n b p) = 48 ∧ 1 < tE n b p - tS n b p) then 4 else 2) else if b (tS n b p) = 59 then 3 else 4
def tW (n : Nat) (b : Nat → Nat) (p : Nat) : Nat := wNo b (tS n b p) (tE n b p - tS n b p)
def tN (n : Nat) (b : Nat → Nat) (p : Nat) : Nat := nC b (tS n b p) (tE n b p - tS n b p)
theorem tS_le {n : Nat} {b : Nat → Nat} {p : Nat} (hp : p ≤ n) : p ≤ tS n b p ∧ tS n b p ≤ n := by
  have := spn_le (P := isS) (b := b) (n - p) p
  unfold tS
  omega
theorem tE_le {n : Nat} {b : Nat → Nat} {p : Nat} (hp : p ≤ n) : tS n b p ≤ tE n b p ∧ tE n b p ≤ n ∧ (tS n b p < n → tS n b p < tE n b p) := by
  obtain ⟨h1, h2⟩ := tS_le (b := b) hp
  unfold tE
  by_cases z : n ≤ tS n b p
  · rw [if_pos z]
    omega
  · rw [if_neg z]
    by_cases y : isL (b (tS n b p)) = true
    · rw [if_pos y]
      have := spn_le (P := isL) (b := b) (n - tS n b p) (tS n b p)
      have := spn_pos (P := isL) (b := b) (d := n - tS n b p) (by omega) y
      omega
    · rw [if_neg y]
      by_cases x : isD (b (tS n b p)) = true
      · rw [if_pos x]
        have := spn_le (P := isD) (b := b) (n - tS n b p) (tS n b p)
        have := spn_pos (P := isD) (b := b) (d := n - tS n b p) (by omega) x
        omega
      · rw [if_neg x]
        omega
theorem tC_0 {n : Nat} {b : Nat → Nat} {p : Nat} : tC n b p = 0 ↔ n ≤ tS n b p := by
  unfold tC
  by_cases z : n ≤ tS n b p
  · rw [if_pos z]
    simp [z]
  · rw [if_neg z]
    refine ⟨fun q => ?_, fun q => absurd q z⟩
    repeat' split at q
    all_goals omega
theorem tC_1 {n : Nat} {b : Nat → Nat} {p : Nat} (h : tC n b p = 1) : tS n b p < n ∧ isL (b (tS n b p)) = true ∧ tE n b p = spn isL b (n - tS n b p) (tS n b p) := by
  unfold tC at h
  by_cases z : n ≤ tS n b p
  · rw [if_pos z] at h
    omega
  · rw [if_neg z] at h
    by_cases y : isL (b (tS n b p)) = true
    · refine ⟨by omega, y, ?_⟩
      unfold tE
      rw [if_neg z, if_pos y]
    · rw [if_neg y] at h
      repeat' split at h
      all_goals omega
theorem tC_le {n : Nat} {b : Nat → Nat} {p : Nat} : tC n b p ≤ 4 := by
  unfold tC
  repeat' split
  all_goals omega
theorem tN_le {n : Nat} {b : Nat → Nat} {p : Nat} (h : tC n b p = 2) : tN n b p ≤ 99 := by
  unfold tC at h
  unfold tN
  repeat' split at h
  all_goals omega
