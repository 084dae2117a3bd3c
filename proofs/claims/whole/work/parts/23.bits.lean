/-! hasBit and isCell of the class -/
theorem n_47_0 {E : EX} : Rn E 47 0 = RnI E 47 (.lload 0) 1 := Rn_I (by decide +kernel)
theorem n_47_1 {E : EX} : Rn E 47 1 = RnI E 47 (.iload 2) 2 := Rn_I (by decide +kernel)
theorem n_47_2 {E : EX} : Rn E 47 2 = RnI E 47 .lushr 3 := Rn_I (by decide +kernel)
theorem n_47_3 {E : EX} : Rn E 47 3 = RnI E 47 (.lconst 1) 4 := Rn_I (by decide +kernel)
theorem n_47_4 {E : EX} : Rn E 47 4 = RnI E 47 .land 5 := Rn_I (by decide +kernel)
theorem n_47_5 {E : EX} : Rn E 47 5 = RnI E 47 (.lconst 0) 6 := Rn_I (by decide +kernel)
theorem n_47_6 {E : EX} : Rn E 47 6 = RnI E 47 .lcmp 7 := Rn_I (by decide +kernel)
theorem n_47_7 {E : EX} : Rn E 47 7 = RnI E 47 (.ifCond .eq 14) 10 := Rn_I (by decide +kernel)
theorem n_47_10 {E : EX} : Rn E 47 10 = RnI E 47 (.iconst 1) 11 := Rn_I (by decide +kernel)
theorem n_47_11 {E : EX} : Rn E 47 11 = RnI E 47 (.goto 15) 14 := Rn_I (by decide +kernel)
theorem n_47_14 {E : EX} : Rn E 47 14 = RnI E 47 (.iconst 0) 15 := Rn_I (by decide +kernel)
theorem n_47_15 {E : EX} : Rn E 47 15 = RnI E 47 .ireturn 16 := Rn_I (by decide +kernel)
def hbR (x : Int64) (n : Int32) : Int32 := if lg_cmp ((x.toUInt64 >>> (n.toInt64.toUInt64 &&& Int64.toUInt64 63)).toInt64 &&& Int64.ofNat 1) (Int64.ofNat 0) = 0 then 0 else 1
theorem sp_47 {E : EX} {x : Int64} {n : Int32} {h : AH} {Q : Option Value → AH → Prop} : Rn E 47 0 [.long x, jk, .int n] [] h Q = Q (some (.int (hbR x n))) h := by
  have r1 : retV 47 (Int32.ofInt 1) = true := by decide
  have r0 : retV 47 (Int32.ofInt 0) = true := by decide
  have t1 : Int.toNat 14 = 14 := rfl
  have t2 : Int.toNat 15 = 15 := rfl
  have v1 : ((1 : Fin 2) : Nat) = 1 := rfl
  have v0 : ((0 : Fin 2) : Nat) = 0 := rfl
  simp only [n_47_0, n_47_1, n_47_2, n_47_3, n_47_4, n_47_5, n_47_6, n_47_7, n_47_10, n_47_11, n_47_14, n_47_15, ri_lload_0, ri_iload_2, ri_lushr, ri_lconst, ri_land, ri_lcmp, ri_if_eq, ri_iconst, ri_goto, ri_iret, t1, t2, v1, v0, r1, r0, true_and]
  unfold hbR
  by_cases z : lg_cmp ((x.toUInt64 >>> (n.toInt64.toUInt64 &&& Int64.toUInt64 63)).toInt64 &&& Int64.ofNat 1) (Int64.ofNat 0) = 0
  · rw [if_pos z, if_pos z]
    rfl
  · rw [if_neg z, if_neg z]
    rfl
theorem rc_47 {E : EX} {M n nx : Nat} {ls r : List Value} {x : Int64} {b : Int32} {h : AH} {Q : Option Value → AH → Prop} (hn : n % 1000 = 47) (hc : cs r ≤ 8) : RnC E 1 M n nx ls (.int b :: .long x :: r) h Q = Rn E M nx ls (.int (hbR x b) :: r) h Q := by
  have e := RnC_S (E := E) (M := M) (nx := nx) (ls := ls) (as := [.long x, .int b]) (r := r) (h := h) (Q := Q) hn rfl (show (3 : Nat) ≤ mlM 47 by decide) hc
  exact e.trans sp_47
theorem n_46_0 {E : EX} : Rn E 46 0 = RnI E 46 (.iload 0) 1 := Rn_I (by decide +kernel)
theorem n_46_1 {E : EX} : Rn E 46 1 = RnI E 46 (.iconst 0) 2 := Rn_I (by decide +kernel)
theorem n_46_2 {E : EX} : Rn E 46 2 = RnI E 46 (.iconst 47) 4 := Rn_I (by decide +kernel)
theorem n_46_4 {E : EX} : Rn E 46 4 = RnI E 46 (.invokestatic 38014) 7 := Rn_I (by decide +kernel)
theorem n_46_7 {E : EX} : Rn E 46 7 = RnI E 46 .ireturn 8 := Rn_I (by decide +kernel)
theorem sp_46 {E : EX} {a : Int32} {h : AH} {Q : Option Value → AH → Prop} : Rn E 46 0 [.int a] [] h Q = Q (some (.int (if 0 ≤ a ∧ a ≤ 47 then 1 else 0))) h := by
  have i0 : Int32.ofInt 0 = 0 := rfl
  have i47 : Int32.ofInt 47 = 47 := rfl
  have c0 : cs [] ≤ 8 := by decide
  have rr : retV 46 (if 0 ≤ a ∧ a ≤ 47 then 1 else 0) = true := by
    by_cases z : 0 ≤ a ∧ a ≤ 47
    · rw [if_pos z]
      decide
    · rw [if_neg z]
      decide
  simp only [n_46_0, n_46_1, n_46_2, n_46_4, n_46_7, ri_iload_0, ri_iconst, ri_S, i0, i47]
  rw [rc_14 (by decide) c0]
  simp only [n_46_0, n_46_1, n_46_2, n_46_4, n_46_7, ri_iret, rr, true_and]
