/-! WRITES -/
theorem u2_s {α : Type} {f : Nat → Nat → α} {i k : Nat} {v : α} : u2 f i k v i k = v := if_pos ⟨rfl, rfl⟩
theorem u2_k {α : Type} {f : Nat → Nat → α} {i k b : Nat} {v : α} (h : ¬ b = k) : u2 f i k v i b = f i b := if_neg (fun z => h z.2)
theorem u2_a {α : Type} {f : Nat → Nat → α} {i k a : Nat} {v : α} (h : ¬ a = i) : u2 f i k v a = f a := by
  funext b
  exact if_neg (fun z => h z.1)
theorem thd_lo (j : Nat) : 15 ≤ thd 13 j ∧ thd 13 j ≤ 37 := by
  unfold thd
  have := Nat.mod_lt j (show 12 > 0 by decide)
  omega
theorem thd_odd (j : Nat) : thd 13 j % 2 = 1 := by
  unfold thd
  omega
theorem thd_inj {i j : Nat} (hi : i < 12) (hj : j < 12) : thd 13 i = thd 13 j ↔ i = j := by
  unfold thd
  rw [Nat.mod_eq_of_lt hi, Nat.mod_eq_of_lt hj]
  omega
theorem u2_T1 {α : Type} {f : Nat → Nat → α} {j k a : Nat} {v : α} (h : a < 15) : u2 f (thd 13 j) k v a = f a := u2_a (by have := thd_lo j; omega)
theorem u2_T2 {α : Type} {f : Nat → Nat → α} {j k a : Nat} {v : α} (h : 38 < a) : u2 f (thd 13 j) k v a = f a := u2_a (by have := thd_lo j; omega)
theorem u2_T3 {α : Type} {f : Nat → Nat → α} {j k a : Nat} {v : α} (h : a < 15) : u2 f a k v (thd 13 j) = f (thd 13 j) := u2_a (by have := thd_lo j; omega)
theorem u2_T4 {α : Type} {f : Nat → Nat → α} {j k a : Nat} {v : α} (h : 38 < a) : u2 f a k v (thd 13 j) = f (thd 13 j) := u2_a (by have := thd_lo j; omega)
theorem u2_T5 {α : Type} {f : Nat → Nat → α} {j k a : Nat} {v : α} (h : a < 15) : u2 f a k v (thd 13 j + 1) = f (thd 13 j + 1) := u2_a (by have := thd_lo j; omega)
theorem u2_T6 {α : Type} {f : Nat → Nat → α} {j k a : Nat} {v : α} (h : 38 < a) : u2 f a k v (thd 13 j + 1) = f (thd 13 j + 1) := u2_a (by have := thd_lo j; omega)
theorem u2_T7 {α : Type} {f : Nat → Nat → α} {j i k : Nat} {v : α} : u2 f (thd 13 j + 1) k v (thd 13 i) = f (thd 13 i) := u2_a (by have := thd_odd j; have := thd_odd i; omega)
theorem u2_T8 {α : Type} {f : Nat → Nat → α} {j i k : Nat} {v : α} : u2 f (thd 13 j) k v (thd 13 i + 1) = f (thd 13 i + 1) := u2_a (by have := thd_odd j; have := thd_odd i; omega)
