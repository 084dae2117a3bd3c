/-! THE SMALL METHODS: their answers -/
theorem ri_iret {E : EX} {M nx : Nat} {ls : List Value} {v : Int32} {h : AH} {Q : Option Value → AH → Prop} : RnI E M .ireturn nx ls [.int v] h Q = (retV M v = true ∧ Q (some (.int v)) h) := by
  refine propext ⟨fun z => ?_, fun z => ⟨v, rfl, z⟩⟩
  obtain ⟨w, e, a, b⟩ := z
  cases e
  exact ⟨a, b⟩
theorem n_14_0 {E : EX} : Rn E 14 0 = RnI E 14 (.iload 0) 1 := Rn_I (by decide +kernel)
theorem n_14_1 {E : EX} : Rn E 14 1 = RnI E 14 (.iload 1) 2 := Rn_I (by decide +kernel)
theorem n_14_2 {E : EX} : Rn E 14 2 = RnI E 14 (.if_icmp .lt 14) 5 := Rn_I (by decide +kernel)
theorem n_14_5 {E : EX} : Rn E 14 5 = RnI E 14 (.iload 0) 6 := Rn_I (by decide +kernel)
theorem n_14_6 {E : EX} : Rn E 14 6 = RnI E 14 (.iload 2) 7 := Rn_I (by decide +kernel)
theorem n_14_7 {E : EX} : Rn E 14 7 = RnI E 14 (.if_icmp .gt 14) 10 := Rn_I (by decide +kernel)
theorem n_14_10 {E : EX} : Rn E 14 10 = RnI E 14 (.iconst 1) 11 := Rn_I (by decide +kernel)
theorem n_14_11 {E : EX} : Rn E 14 11 = RnI E 14 (.goto 15) 14 := Rn_I (by decide +kernel)
theorem n_14_14 {E : EX} : Rn E 14 14 = RnI E 14 (.iconst 0) 15 := Rn_I (by decide +kernel)
theorem n_14_15 {E : EX} : Rn E 14 15 = RnI E 14 .ireturn 16 := Rn_I (by decide +kernel)
theorem sp_14 {E : EX} {a b c : Int32} {h : AH} {Q : Option Value → AH → Prop} : Rn E 14 0 [.int a, .int b, .int c] [] h Q = Q (some (.int (if b ≤ a ∧ a ≤ c then 1 else 0))) h := by
  have r1 : retV 14 (Int32.ofInt 1) = true := by decide
  have r0 : retV 14 (Int32.ofInt 0) = true := by decide
  have t1 : Int.toNat 14 = 14 := rfl
  have t2 : Int.toNat 15 = 15 := rfl
  simp only [n_14_0, n_14_1, n_14_2, n_14_5, n_14_6, n_14_7, n_14_10, n_14_11, n_14_14, n_14_15, ri_iload_0, ri_iload_1, ri_iload_2, ri_icmp_lt, ri_icmp_gt, ri_iconst, ri_goto, ri_iret, t1, t2, r1, r0, true_and]
  by_cases h1 : a < b
  · rw [if_pos h1, if_neg (fun z => Int32.not_le.mpr h1 z.1)]
    rfl
  · rw [if_neg h1]
    by_cases h2 : c < a
    · rw [if_pos h2, if_neg (fun z => Int32.not_le.mpr h2 z.2)]
      rfl
    · rw [if_neg h2, if_pos ⟨Int32.not_lt.mp h1, Int32.not_lt.mp h2⟩]
      rfl
