/-! EQUATIONS: an instruction, and what is left to run behind it -/
section RI
variable {E : EX} {M nx : Nat} {ls r : List Value} {h : AH} {Q : Option Value → AH → Prop}
theorem ri_iconst {v : Int} : RnI E M (.iconst v) nx ls (r) h Q = Rn E M nx ls (.int (Int32.ofInt v) :: r) h Q := rfl
theorem ri_lconst {n : Fin 2} : RnI E M (.lconst n) nx ls (r) h Q = Rn E M nx ls (.long (Int64.ofNat (n : Nat)) :: r) h Q := rfl
theorem ri_null : RnI E M .aconst_null nx ls (r) h Q = Rn E M nx ls (.null :: r) h Q := rfl
theorem ri_ldc {n : Nat} : RnI E M (.ldc n) nx ls (r) h Q = Rn E M nx ls (.ref (1000010 + n % 100) :: r) h Q := rfl
theorem ri_gets {n : Nat} : RnI E M (.getstatic n) nx ls (r) h Q = Rn E M nx ls (.ref (1000000 + n % 100) :: r) h Q := rfl
theorem ri_iload_0 {t : List Value} {x : Int32} : RnI E M (.iload 0) nx (.int x :: t) r h Q = Rn E M nx (.int x :: t) (.int x :: r) h Q := rfl
theorem ri_lload_0 {t : List Value} {x : Int64} : RnI E M (.lload 0) nx (.long x :: t) r h Q = Rn E M nx (.long x :: t) (.long x :: r) h Q := rfl
theorem ri_aload_0 {t : List Value} {x : Nat} : RnI E M (.aload 0) nx (.ref x :: t) r h Q = Rn E M nx (.ref x :: t) (.ref x :: r) h Q := rfl
theorem ri_aloadN_0 {t : List Value} : RnI E M (.aload 0) nx (.null :: t) r h Q = Rn E M nx (.null :: t) (.null :: r) h Q := rfl
theorem ri_iload_1 {x0 : Value} {t : List Value} {x : Int32} : RnI E M (.iload 1) nx (x0 :: .int x :: t) r h Q = Rn E M nx (x0 :: .int x :: t) (.int x :: r) h Q := rfl
theorem ri_lload_1 {x0 : Value} {t : List Value} {x : Int64} : RnI E M (.lload 1) nx (x0 :: .long x :: t) r h Q = Rn E M nx (x0 :: .long x :: t) (.long x :: r) h Q := rfl
theorem ri_aload_1 {x0 : Value} {t : List Value} {x : Nat} : RnI E M (.aload 1) nx (x0 :: .ref x :: t) r h Q = Rn E M nx (x0 :: .ref x :: t) (.ref x :: r) h Q := rfl
theorem ri_aloadN_1 {x0 : Value} {t : List Value} : RnI E M (.aload 1) nx (x0 :: .null :: t) r h Q = Rn E M nx (x0 :: .null :: t) (.null :: r) h Q := rfl
theorem ri_iload_2 {x0 x1 : Value} {t : List Value} {x : Int32} : RnI E M (.iload 2) nx (x0 :: x1 :: .int x :: t) r h Q = Rn E M nx (x0 :: x1 :: .int x :: t) (.int x :: r) h Q := rfl
theorem ri_lload_2 {x0 x1 : Value} {t : List Value} {x : Int64} : RnI E M (.lload 2) nx (x0 :: x1 :: .long x :: t) r h Q = Rn E M nx (x0 :: x1 :: .long x :: t) (.long x :: r) h Q := rfl
theorem ri_aload_2 {x0 x1 : Value} {t : List Value} {x : Nat} : RnI E M (.aload 2) nx (x0 :: x1 :: .ref x :: t) r h Q = Rn E M nx (x0 :: x1 :: .ref x :: t) (.ref x :: r) h Q := rfl
theorem ri_aloadN_2 {x0 x1 : Value} {t : List Value} : RnI E M (.aload 2) nx (x0 :: x1 :: .null :: t) r h Q = Rn E M nx (x0 :: x1 :: .null :: t) (.null :: r) h Q := rfl
theorem ri_iload_3 {x0 x1 x2 : Value} {t : List Value} {x : Int32} : RnI E M (.iload 3) nx (x0 :: x1 :: x2 :: .int x :: t) r h Q = Rn E M nx (x0 :: x1 :: x2 :: .int x :: t) (.int x :: r) h Q := rfl
theorem ri_lload_3 {x0 x1 x2 : Value} {t : List Value} {x : Int64} : RnI E M (.lload 3) nx (x0 :: x1 :: x2 :: .long x :: t) r h Q = Rn E M nx (x0 :: x1 :: x2 :: .long x :: t) (.long x :: r) h Q := rfl
theorem ri_aload_3 {x0 x1 x2 : Value} {t : List Value} {x : Nat} : RnI E M (.aload 3) nx (x0 :: x1 :: x2 :: .ref x :: t) r h Q = Rn E M nx (x0 :: x1 :: x2 :: .ref x :: t) (.ref x :: r) h Q := rfl
theorem ri_aloadN_3 {x0 x1 x2 : Value} {t : List Value} : RnI E M (.aload 3) nx (x0 :: x1 :: x2 :: .null :: t) r h Q = Rn E M nx (x0 :: x1 :: x2 :: .null :: t) (.null :: r) h Q := rfl
theorem ri_iload_4 {x0 x1 x2 x3 : Value} {t : List Value} {x : Int32} : RnI E M (.iload 4) nx (x0 :: x1 :: x2 :: x3 :: .int x :: t) r h Q = Rn E M nx (x0 :: x1 :: x2 :: x3 :: .int x :: t) (.int x :: r) h Q := rfl
theorem ri_lload_4 {x0 x1 x2 x3 : Value} {t : List Value} {x : Int64} : RnI E M (.lload 4) nx (x0 :: x1 :: x2 :: x3 :: .long x :: t) r h Q = Rn E M nx (x0 :: x1 :: x2 :: x3 :: .long x :: t) (.long x :: r) h Q := rfl
theorem ri_aload_4 {x0 x1 x2 x3 : Value} {t : List Value} {x : Nat} : RnI E M (.aload 4) nx (x0 :: x1 :: x2 :: x3 :: .ref x :: t) r h Q = Rn E M nx (x0 :: x1 :: x2 :: x3 :: .ref x :: t) (.ref x :: r) h Q := rfl
theorem ri_aloadN_4 {x0 x1 x2 x3 : Value} {t : List Value} : RnI E M (.aload 4) nx (x0 :: x1 :: x2 :: x3 :: .null :: t) r h Q = Rn E M nx (x0 :: x1 :: x2 :: x3 :: .null :: t) (.null :: r) h Q := rfl
theorem ri_iload_5 {x0 x1 x2 x3 x4 : Value} {t : List Value} {x : Int32} : RnI E M (.iload 5) nx (x0 :: x1 :: x2 :: x3 :: x4 :: .int x :: t) r h Q = Rn E M nx (x0 :: x1 :: x2 :: x3 :: x4 :: .int x :: t) (.int x :: r) h Q := rfl
theorem ri_lload_5 {x0 x1 x2 x3 x4 : Value} {t : List Value} {x : Int64} : RnI E M (.lload 5) nx (x0 :: x1 :: x2 :: x3 :: x4 :: .long x :: t) r h Q = Rn E M nx (x0 :: x1 :: x2 :: x3 :: x4 :: .long x :: t) (.long x :: r) h Q := rfl
theorem ri_aload_5 {x0 x1 x2 x3 x4 : Value} {t : List Value} {x : Nat} : RnI E M (.aload 5) nx (x0 :: x1 :: x2 :: x3 :: x4 :: .ref x :: t) r h Q = Rn E M nx (x0 :: x1 :: x2 :: x3 :: x4 :: .ref x :: t) (.ref x :: r) h Q := rfl
theorem ri_aloadN_5 {x0 x1 x2 x3 x4 : Value} {t : List Value} : RnI E M (.aload 5) nx (x0 :: x1 :: x2 :: x3 :: x4 :: .null :: t) r h Q = Rn E M nx (x0 :: x1 :: x2 :: x3 :: x4 :: .null :: t) (.null :: r) h Q := rfl
theorem ri_iload_6 {x0 x1 x2 x3 x4 x5 : Value} {t : List Value} {x : Int32} : RnI E M (.iload 6) nx (x0 :: x1 :: x2 :: x3 :: x4 :: x5 :: .int x :: t) r h Q = Rn E M nx (x0 :: x1 :: x2 :: x3 :: x4 :: x5 :: .int x :: t) (.int x :: r) h Q := rfl
theorem ri_lload_6 {x0 x1 x2 x3 x4 x5 : Value} {t : List Value} {x : Int64} : RnI E M (.lload 6) nx (x0 :: x1 :: x2 :: x3 :: x4 :: x5 :: .long x :: t) r h Q = Rn E M nx (x0 :: x1 :: x2 :: x3 :: x4 :: x5 :: .long x :: t) (.long x :: r) h Q := rfl
theorem ri_aload_6 {x0 x1 x2 x3 x4 x5 : Value} {t : List Value} {x : Nat} : RnI E M (.aload 6) nx (x0 :: x1 :: x2 :: x3 :: x4 :: x5 :: .ref x :: t) r h Q = Rn E M nx (x0 :: x1 :: x2 :: x3 :: x4 :: x5 :: .ref x :: t) (.ref x :: r) h Q := rfl
theorem ri_aloadN_6 {x0 x1 x2 x3 x4 x5 : Value} {t : List Value} : RnI E M (.aload 6) nx (x0 :: x1 :: x2 :: x3 :: x4 :: x5 :: .null :: t) r h Q = Rn E M nx (x0 :: x1 :: x2 :: x3 :: x4 :: x5 :: .null :: t) (.null :: r) h Q := rfl
theorem ri_iload_7 {x0 x1 x2 x3 x4 x5 x6 : Value} {t : List Value} {x : Int32} : RnI E M (.iload 7) nx (x0 :: x1 :: x2 :: x3 :: x4 :: x5 :: x6 :: .int x :: t) r h Q = Rn E M nx (x0 :: x1 :: x2 :: x3 :: x4 :: x5 :: x6 :: .int x :: t) (.int x :: r) h Q := rfl
theorem ri_lload_7 {x0 x1 x2 x3 x4 x5 x6 : Value} {t : List Value} {x : Int64} : RnI E M (.lload 7) nx (x0 :: x1 :: x2 :: x3 :: x4 :: x5 :: x6 :: .long x :: t) r h Q = Rn E M nx (x0 :: x1 :: x2 :: x3 :: x4 :: x5 :: x6 :: .long x :: t) (.long x :: r) h Q := rfl
theorem ri_aload_7 {x0 x1 x2 x3 x4 x5 x6 : Value} {t : List Value} {x : Nat} : RnI E M (.aload 7) nx (x0 :: x1 :: x2 :: x3 :: x4 :: x5 :: x6 :: .ref x :: t) r h Q = Rn E M nx (x0 :: x1 :: x2 :: x3 :: x4 :: x5 :: x6 :: .ref x :: t) (.ref x :: r) h Q := rfl
theorem ri_aloadN_7 {x0 x1 x2 x3 x4 x5 x6 : Value} {t : List Value} : RnI E M (.aload 7) nx (x0 :: x1 :: x2 :: x3 :: x4 :: x5 :: x6 :: .null :: t) r h Q = Rn E M nx (x0 :: x1 :: x2 :: x3 :: x4 :: x5 :: x6 :: .null :: t) (.null :: r) h Q := rfl
theorem ri_iload_8 {x0 x1 x2 x3 x4 x5 x6 x7 : Value} {t : List Value} {x : Int32} : RnI E M (.iload 8) nx (x0 :: x1 :: x2 :: x3 :: x4 :: x5 :: x6 :: x7 :: .int x :: t) r h Q = Rn E M nx (x0 :: x1 :: x2 :: x3 :: x4 :: x5 :: x6 :: x7 :: .int x :: t) (.int x :: r) h Q := rfl
theorem ri_lload_8 {x0 x1 x2 x3 x4 x5 x6 x7 : Value} {t : List Value} {x : Int64} : RnI E M (.lload 8) nx (x0 :: x1 :: x2 :: x3 :: x4 :: x5 :: x6 :: x7 :: .long x :: t) r h Q = Rn E M nx (x0 :: x1 :: x2 :: x3 :: x4 :: x5 :: x6 :: x7 :: .long x :: t) (.long x :: r) h Q := rfl
theorem ri_aload_8 {x0 x1 x2 x3 x4 x5 x6 x7 : Value} {t : List Value} {x : Nat} : RnI E M (.aload 8) nx (x0 :: x1 :: x2 :: x3 :: x4 :: x5 :: x6 :: x7 :: .ref x :: t) r h Q = Rn E M nx (x0 :: x1 :: x2 :: x3 :: x4 :: x5 :: x6 :: x7 :: .ref x :: t) (.ref x :: r) h Q := rfl
theorem ri_aloadN_8 {x0 x1 x2 x3 x4 x5 x6 x7 : Value} {t : List Value} : RnI E M (.aload 8) nx (x0 :: x1 :: x2 :: x3 :: x4 :: x5 :: x6 :: x7 :: .null :: t) r h Q = Rn E M nx (x0 :: x1 :: x2 :: x3 :: x4 :: x5 :: x6 :: x7 :: .null :: t) (.null :: r) h Q := rfl
theorem ri_iload_9 {x0 x1 x2 x3 x4 x5 x6 x7 x8 : Value} {t : List Value} {x : Int32} : RnI E M (.iload 9) nx (x0 :: x1 :: x2 :: x3 :: x4 :: x5 :: x6 :: x7 :: x8 :: .int x :: t) r h Q = Rn E M nx (x0 :: x1 :: x2 :: x3 :: x4 :: x5 :: x6 :: x7 :: x8 :: .int x :: t) (.int x :: r) h Q := rfl
theorem ri_lload_9 {x0 x1 x2 x3 x4 x5 x6 x7 x8 : Value} {t : List Value} {x : Int64} : RnI E M (.lload 9) nx (x0 :: x1 :: x2 :: x3 :: x4 :: x5 :: x6 :: x7 :: x8 :: .long x :: t) r h Q = Rn E M nx (x0 :: x1 :: x2 :: x3 :: x4 :: x5 :: x6 :: x7 :: x8 :: .long x :: t) (.long x :: r) h Q := rfl
theorem ri_aload_9 {x0 x1 x2 x3 x4 x5 x6 x7 x8 : Value} {t : List Value} {x : Nat} : RnI E M (.aload 9) nx (x0 :: x1 :: x2 :: x3 :: x4 :: x5 :: x6 :: x7 :: x8 :: .ref x :: t) r h Q = Rn E M nx (x0 :: x1 :: x2 :: x3 :: x4 :: x5 :: x6 :: x7 :: x8 :: .ref x :: t) (.ref x :: r) h Q := rfl
theorem ri_aloadN_9 {x0 x1 x2 x3 x4 x5 x6 x7 x8 : Value} {t : List Value} : RnI E M (.aload 9) nx (x0 :: x1 :: x2 :: x3 :: x4 :: x5 :: x6 :: x7 :: x8 :: .null :: t) r h Q = Rn E M nx (x0 :: x1 :: x2 :: x3 :: x4 :: x5 :: x6 :: x7 :: x8 :: .null :: t) (.null :: r) h Q := rfl
theorem ri_iload_10 {x0 x1 x2 x3 x4 x5 x6 x7 x8 x9 : Value} {t : List Value} {x : Int32} : RnI E M (.iload 10) nx (x0 :: x1 :: x2 :: x3 :: x4 :: x5 :: x6 :: x7 :: x8 :: x9 :: .int x :: t) r h Q = Rn E M nx (x0 :: x1 :: x2 :: x3 :: x4 :: x5 :: x6 :: x7 :: x8 :: x9 :: .int x :: t) (.int x :: r) h Q := rfl
theorem ri_lload_10 {x0 x1 x2 x3 x4 x5 x6 x7 x8 x9 : Value} {t : List Value} {x : Int64} : RnI E M (.lload 10) nx (x0 :: x1 :: x2 :: x3 :: x4 :: x5 :: x6 :: x7 :: x8 :: x9 :: .long x :: t) r h Q = Rn E M nx (x0 :: x1 :: x2 :: x3 :: x4 :: x5 :: x6 :: x7 :: x8 :: x9 :: .long x :: t) (.long x :: r) h Q := rfl
theorem ri_aload_10 {x0 x1 x2 x3 x4 x5 x6 x7 x8 x9 : Value} {t : List Value} {x : Nat} : RnI E M (.aload 10) nx (x0 :: x1 :: x2 :: x3 :: x4 :: x5 :: x6 :: x7 :: x8 :: x9 :: .ref x :: t) r h Q = Rn E M nx (x0 :: x1 :: x2 :: x3 :: x4 :: x5 :: x6 :: x7 :: x8 :: x9 :: .ref x :: t) (.ref x :: r) h Q := rfl
theorem ri_aloadN_10 {x0 x1 x2 x3 x4 x5 x6 x7 x8 x9 : Value} {t : List Value} : RnI E M (.aload 10) nx (x0 :: x1 :: x2 :: x3 :: x4 :: x5 :: x6 :: x7 :: x8 :: x9 :: .null :: t) r h Q = Rn E M nx (x0 :: x1 :: x2 :: x3 :: x4 :: x5 :: x6 :: x7 :: x8 :: x9 :: .null :: t) (.null :: r) h Q := rfl
theorem ri_iload_11 {x0 x1 x2 x3 x4 x5 x6 x7 x8 x9 x10 : Value} {t : List Value} {x : Int32} : RnI E M (.iload 11) nx (x0 :: x1 :: x2 :: x3 :: x4 :: x5 :: x6 :: x7 :: x8 :: x9 :: x10 :: .int x :: t) r h Q = Rn E M nx (x0 :: x1 :: x2 :: x3 :: x4 :: x5 :: x6 :: x7 :: x8 :: x9 :: x10 :: .int x :: t) (.int x :: r) h Q := rfl
theorem ri_lload_11 {x0 x1 x2 x3 x4 x5 x6 x7 x8 x9 x10 : Value} {t : List Value} {x : Int64} : RnI E M (.lload 11) nx (x0 :: x1 :: x2 :: x3 :: x4 :: x5 :: x6 :: x7 :: x8 :: x9 :: x10 :: .long x :: t) r h Q = Rn E M nx (x0 :: x1 :: x2 :: x3 :: x4 :: x5 :: x6 :: x7 :: x8 :: x9 :: x10 :: .long x :: t) (.long x :: r) h Q := rfl
theorem ri_aload_11 {x0 x1 x2 x3 x4 x5 x6 x7 x8 x9 x10 : Value} {t : List Value} {x : Nat} : RnI E M (.aload 11) nx (x0 :: x1 :: x2 :: x3 :: x4 :: x5 :: x6 :: x7 :: x8 :: x9 :: x10 :: .ref x :: t) r h Q = Rn E M nx (x0 :: x1 :: x2 :: x3 :: x4 :: x5 :: x6 :: x7 :: x8 :: x9 :: x10 :: .ref x :: t) (.ref x :: r) h Q := rfl
theorem ri_aloadN_11 {x0 x1 x2 x3 x4 x5 x6 x7 x8 x9 x10 : Value} {t : List Value} : RnI E M (.aload 11) nx (x0 :: x1 :: x2 :: x3 :: x4 :: x5 :: x6 :: x7 :: x8 :: x9 :: x10 :: .null :: t) r h Q = Rn E M nx (x0 :: x1 :: x2 :: x3 :: x4 :: x5 :: x6 :: x7 :: x8 :: x9 :: x10 :: .null :: t) (.null :: r) h Q := rfl
theorem ri_iload_12 {x0 x1 x2 x3 x4 x5 x6 x7 x8 x9 x10 x11 : Value} {t : List Value} {x : Int32} : RnI E M (.iload 12) nx (x0 :: x1 :: x2 :: x3 :: x4 :: x5 :: x6 :: x7 :: x8 :: x9 :: x10 :: x11 :: .int x :: t) r h Q = Rn E M nx (x0 :: x1 :: x2 :: x3 :: x4 :: x5 :: x6 :: x7 :: x8 :: x9 :: x10 :: x11 :: .int x :: t) (.int x :: r) h Q := rfl
theorem ri_lload_12 {x0 x1 x2 x3 x4 x5 x6 x7 x8 x9 x10 x11 : Value} {t : List Value} {x : Int64} : RnI E M (.lload 12) nx (x0 :: x1 :: x2 :: x3 :: x4 :: x5 :: x6 :: x7 :: x8 :: x9 :: x10 :: x11 :: .long x :: t) r h Q = Rn E M nx (x0 :: x1 :: x2 :: x3 :: x4 :: x5 :: x6 :: x7 :: x8 :: x9 :: x10 :: x11 :: .long x :: t) (.long x :: r) h Q := rfl
theorem ri_aload_12 {x0 x1 x2 x3 x4 x5 x6 x7 x8 x9 x10 x11 : Value} {t : List Value} {x : Nat} : RnI E M (.aload 12) nx (x0 :: x1 :: x2 :: x3 :: x4 :: x5 :: x6 :: x7 :: x8 :: x9 :: x10 :: x11 :: .ref x :: t) r h Q = Rn E M nx (x0 :: x1 :: x2 :: x3 :: x4 :: x5 :: x6 :: x7 :: x8 :: x9 :: x10 :: x11 :: .ref x :: t) (.ref x :: r) h Q := rfl
theorem ri_aloadN_12 {x0 x1 x2 x3 x4 x5 x6 x7 x8 x9 x10 x11 : Value} {t : List Value} : RnI E M (.aload 12) nx (x0 :: x1 :: x2 :: x3 :: x4 :: x5 :: x6 :: x7 :: x8 :: x9 :: x10 :: x11 :: .null :: t) r h Q = Rn E M nx (x0 :: x1 :: x2 :: x3 :: x4 :: x5 :: x6 :: x7 :: x8 :: x9 :: x10 :: x11 :: .null :: t) (.null :: r) h Q := rfl
theorem ri_iload_13 {x0 x1 x2 x3 x4 x5 x6 x7 x8 x9 x10 x11 x12 : Value} {t : List Value} {x : Int32} : RnI E M (.iload 13) nx (x0 :: x1 :: x2 :: x3 :: x4 :: x5 :: x6 :: x7 :: x8 :: x9 :: x10 :: x11 :: x12 :: .int x :: t) r h Q = Rn E M nx (x0 :: x1 :: x2 :: x3 :: x4 :: x5 :: x6 :: x7 :: x8 :: x9 :: x10 :: x11 :: x12 :: .int x :: t) (.int x :: r) h Q := rfl
theorem ri_lload_13 {x0 x1 x2 x3 x4 x5 x6 x7 x8 x9 x10 x11 x12 : Value} {t : List Value} {x : Int64} : RnI E M (.lload 13) nx (x0 :: x1 :: x2 :: x3 :: x4 :: x5 :: x6 :: x7 :: x8 :: x9 :: x10 :: x11 :: x12 :: .long x :: t) r h Q = Rn E M nx (x0 :: x1 :: x2 :: x3 :: x4 :: x5 :: x6 :: x7 :: x8 :: x9 :: x10 :: x11 :: x12 :: .long x :: t) (.long x :: r) h Q := rfl
theorem ri_aload_13 {x0 x1 x2 x3 x4 x5 x6 x7 x8 x9 x10 x11 x12 : Value} {t : List Value} {x : Nat} : RnI E M (.aload 13) nx (x0 :: x1 :: x2 :: x3 :: x4 :: x5 :: x6 :: x7 :: x8 :: x9 :: x10 :: x11 :: x12 :: .ref x :: t) r h Q = Rn E M nx (x0 :: x1 :: x2 :: x3 :: x4 :: x5 :: x6 :: x7 :: x8 :: x9 :: x10 :: x11 :: x12 :: .ref x :: t) (.ref x :: r) h Q := rfl
theorem ri_aloadN_13 {x0 x1 x2 x3 x4 x5 x6 x7 x8 x9 x10 x11 x12 : Value} {t : List Value} : RnI E M (.aload 13) nx (x0 :: x1 :: x2 :: x3 :: x4 :: x5 :: x6 :: x7 :: x8 :: x9 :: x10 :: x11 :: x12 :: .null :: t) r h Q = Rn E M nx (x0 :: x1 :: x2 :: x3 :: x4 :: x5 :: x6 :: x7 :: x8 :: x9 :: x10 :: x11 :: x12 :: .null :: t) (.null :: r) h Q := rfl
theorem ri_iload_14 {x0 x1 x2 x3 x4 x5 x6 x7 x8 x9 x10 x11 x12 x13 : Value} {t : List Value} {x : Int32} : RnI E M (.iload 14) nx (x0 :: x1 :: x2 :: x3 :: x4 :: x5 :: x6 :: x7 :: x8 :: x9 :: x10 :: x11 :: x12 :: x13 :: .int x :: t) r h Q = Rn E M nx (x0 :: x1 :: x2 :: x3 :: x4 :: x5 :: x6 :: x7 :: x8 :: x9 :: x10 :: x11 :: x12 :: x13 :: .int x :: t) (.int x :: r) h Q := rfl
theorem ri_lload_14 {x0 x1 x2 x3 x4 x5 x6 x7 x8 x9 x10 x11 x12 x13 : Value} {t : List Value} {x : Int64} : RnI E M (.lload 14) nx (x0 :: x1 :: x2 :: x3 :: x4 :: x5 :: x6 :: x7 :: x8 :: x9 :: x10 :: x11 :: x12 :: x13 :: .long x :: t) r h Q = Rn E M nx (x0 :: x1 :: x2 :: x3 :: x4 :: x5 :: x6 :: x7 :: x8 :: x9 :: x10 :: x11 :: x12 :: x13 :: .long x :: t) (.long x :: r) h Q := rfl
theorem ri_aload_14 {x0 x1 x2 x3 x4 x5 x6 x7 x8 x9 x10 x11 x12 x13 : Value} {t : List Value} {x : Nat} : RnI E M (.aload 14) nx (x0 :: x1 :: x2 :: x3 :: x4 :: x5 :: x6 :: x7 :: x8 :: x9 :: x10 :: x11 :: x12 :: x13 :: .ref x :: t) r h Q = Rn E M nx (x0 :: x1 :: x2 :: x3 :: x4 :: x5 :: x6 :: x7 :: x8 :: x9 :: x10 :: x11 :: x12 :: x13 :: .ref x :: t) (.ref x :: r) h Q := rfl
theorem ri_aloadN_14 {x0 x1 x2 x3 x4 x5 x6 x7 x8 x9 x10 x11 x12 x13 : Value} {t : List Value} : RnI E M (.aload 14) nx (x0 :: x1 :: x2 :: x3 :: x4 :: x5 :: x6 :: x7 :: x8 :: x9 :: x10 :: x11 :: x12 :: x13 :: .null :: t) r h Q = Rn E M nx (x0 :: x1 :: x2 :: x3 :: x4 :: x5 :: x6 :: x7 :: x8 :: x9 :: x10 :: x11 :: x12 :: x13 :: .null :: t) (.null :: r) h Q := rfl
theorem ri_iload_15 {x0 x1 x2 x3 x4 x5 x6 x7 x8 x9 x10 x11 x12 x13 x14 : Value} {t : List Value} {x : Int32} : RnI E M (.iload 15) nx (x0 :: x1 :: x2 :: x3 :: x4 :: x5 :: x6 :: x7 :: x8 :: x9 :: x10 :: x11 :: x12 :: x13 :: x14 :: .int x :: t) r h Q = Rn E M nx (x0 :: x1 :: x2 :: x3 :: x4 :: x5 :: x6 :: x7 :: x8 :: x9 :: x10 :: x11 :: x12 :: x13 :: x14 :: .int x :: t) (.int x :: r) h Q := rfl
theorem ri_lload_15 {x0 x1 x2 x3 x4 x5 x6 x7 x8 x9 x10 x11 x12 x13 x14 : Value} {t : List Value} {x : Int64} : RnI E M (.lload 15) nx (x0 :: x1 :: x2 :: x3 :: x4 :: x5 :: x6 :: x7 :: x8 :: x9 :: x10 :: x11 :: x12 :: x13 :: x14 :: .long x :: t) r h Q = Rn E M nx (x0 :: x1 :: x2 :: x3 :: x4 :: x5 :: x6 :: x7 :: x8 :: x9 :: x10 :: x11 :: x12 :: x13 :: x14 :: .long x :: t) (.long x :: r) h Q := rfl
theorem ri_aload_15 {x0 x1 x2 x3 x4 x5 x6 x7 x8 x9 x10 x11 x12 x13 x14 : Value} {t : List Value} {x : Nat} : RnI E M (.aload 15) nx (x0 :: x1 :: x2 :: x3 :: x4 :: x5 :: x6 :: x7 :: x8 :: x9 :: x10 :: x11 :: x12 :: x13 :: x14 :: .ref x :: t) r h Q = Rn E M nx (x0 :: x1 :: x2 :: x3 :: x4 :: x5 :: x6 :: x7 :: x8 :: x9 :: x10 :: x11 :: x12 :: x13 :: x14 :: .ref x :: t) (.ref x :: r) h Q := rfl
theorem ri_aloadN_15 {x0 x1 x2 x3 x4 x5 x6 x7 x8 x9 x10 x11 x12 x13 x14 : Value} {t : List Value} : RnI E M (.aload 15) nx (x0 :: x1 :: x2 :: x3 :: x4 :: x5 :: x6 :: x7 :: x8 :: x9 :: x10 :: x11 :: x12 :: x13 :: x14 :: .null :: t) r h Q = Rn E M nx (x0 :: x1 :: x2 :: x3 :: x4 :: x5 :: x6 :: x7 :: x8 :: x9 :: x10 :: x11 :: x12 :: x13 :: x14 :: .null :: t) (.null :: r) h Q := rfl
theorem ri_iadd {x y : Int32} : RnI E M .iadd nx ls (.int y :: .int x :: r) h Q = Rn E M nx ls (.int (x + y) :: r) h Q := rfl
theorem ri_isub {x y : Int32} : RnI E M .isub nx ls (.int y :: .int x :: r) h Q = Rn E M nx ls (.int (x - y) :: r) h Q := rfl
theorem ri_imul {x y : Int32} : RnI E M .imul nx ls (.int y :: .int x :: r) h Q = Rn E M nx ls (.int (x * y) :: r) h Q := rfl
theorem ri_iand {x y : Int32} : RnI E M .iand nx ls (.int y :: .int x :: r) h Q = Rn E M nx ls (.int (x &&& y) :: r) h Q := rfl
theorem ri_ior {x y : Int32} : RnI E M .ior nx ls (.int y :: .int x :: r) h Q = Rn E M nx ls (.int (x ||| y) :: r) h Q := rfl
theorem ri_ishl {x y : Int32} : RnI E M .ishl nx ls (.int y :: .int x :: r) h Q = Rn E M nx ls (.int (x <<< (y &&& 31)) :: r) h Q := rfl
theorem ri_ishr {x y : Int32} : RnI E M .ishr nx ls (.int y :: .int x :: r) h Q = Rn E M nx ls (.int (x >>> (y &&& 31)) :: r) h Q := rfl
theorem ri_iushr {x y : Int32} : RnI E M .iushr nx ls (.int y :: .int x :: r) h Q = Rn E M nx ls (.int ((x.toUInt32 >>> (y.toUInt32 &&& Int32.toUInt32 31)).toInt32) :: r) h Q := rfl
theorem ri_ladd {x y : Int64} : RnI E M .ladd nx ls (.long y :: .long x :: r) h Q = Rn E M nx ls (.long (x + y) :: r) h Q := rfl
theorem ri_lsub {x y : Int64} : RnI E M .lsub nx ls (.long y :: .long x :: r) h Q = Rn E M nx ls (.long (x - y) :: r) h Q := rfl
theorem ri_lmul {x y : Int64} : RnI E M .lmul nx ls (.long y :: .long x :: r) h Q = Rn E M nx ls (.long (x * y) :: r) h Q := rfl
theorem ri_land {x y : Int64} : RnI E M .land nx ls (.long y :: .long x :: r) h Q = Rn E M nx ls (.long (x &&& y) :: r) h Q := rfl
theorem ri_lor {x y : Int64} : RnI E M .lor nx ls (.long y :: .long x :: r) h Q = Rn E M nx ls (.long (x ||| y) :: r) h Q := rfl
theorem ri_lxor {x y : Int64} : RnI E M .lxor nx ls (.long y :: .long x :: r) h Q = Rn E M nx ls (.long (x ^^^ y) :: r) h Q := rfl
theorem ri_lcmp {x y : Int64} : RnI E M .lcmp nx ls (.long y :: .long x :: r) h Q = Rn E M nx ls (.int (lg_cmp x y) :: r) h Q := rfl
theorem ri_lneg {x : Int64} : RnI E M .lneg nx ls (.long x :: r) h Q = Rn E M nx ls (.long (-x) :: r) h Q := rfl
theorem ri_lshl {x : Int64} {y : Int32} : RnI E M .lshl nx ls (.int y :: .long x :: r) h Q = Rn E M nx ls (.long (x <<< (y.toInt64 &&& 63)) :: r) h Q := rfl
theorem ri_lshr {x : Int64} {y : Int32} : RnI E M .lshr nx ls (.int y :: .long x :: r) h Q = Rn E M nx ls (.long (x >>> (y.toInt64 &&& 63)) :: r) h Q := rfl
theorem ri_lushr {x : Int64} {y : Int32} : RnI E M .lushr nx ls (.int y :: .long x :: r) h Q = Rn E M nx ls (.long ((x.toUInt64 >>> (y.toInt64.toUInt64 &&& Int64.toUInt64 63)).toInt64) :: r) h Q := rfl
theorem ri_i2l {x : Int32} : RnI E M .i2l nx ls (.int x :: r) h Q = Rn E M nx ls (.long x.toInt64 :: r) h Q := rfl
theorem ri_l2i {x : Int64} : RnI E M .l2i nx ls (.long x :: r) h Q = Rn E M nx ls (.int x.toInt32 :: r) h Q := rfl
theorem ri_i2b {x : Int32} : RnI E M .i2b nx ls (.int x :: r) h Q = Rn E M nx ls (.int x.toInt8.toInt32 :: r) h Q := rfl
theorem ri_dupI {x : Int32} : RnI E M .dup nx ls (.int x :: r) h Q = Rn E M nx ls (.int x :: .int x :: r) h Q := rfl
theorem ri_popI {x : Int32} : RnI E M .pop nx ls (.int x :: r) h Q = Rn E M nx ls (r) h Q := rfl
theorem ri_dupR {x : Nat} : RnI E M .dup nx ls (.ref x :: r) h Q = Rn E M nx ls (.ref x :: .ref x :: r) h Q := rfl
theorem ri_popR {x : Nat} : RnI E M .pop nx ls (.ref x :: r) h Q = Rn E M nx ls (r) h Q := rfl
theorem ri_dupN : RnI E M .dup nx ls (.null :: r) h Q = Rn E M nx ls (.null :: .null :: r) h Q := rfl
theorem ri_popN : RnI E M .pop nx ls (.null :: r) h Q = Rn E M nx ls (r) h Q := rfl
theorem ri_dup2 {x : Int32} {a : Nat} : RnI E M .dup2 nx ls (.int x :: .ref a :: r) h Q = Rn E M nx ls (.int x :: .ref a :: .int x :: .ref a :: r) h Q := rfl
theorem ri_idiv {x y : Int32} (z : ¬ y = 0) : RnI E M .idiv nx ls (.int y :: .int x :: r) h Q = Rn E M nx ls (.int (x / y) :: r) h Q := by
  show RnS E M (if y = 0 then none else _) Q = _
  rw [if_neg z]
  rfl
theorem ri_irem {x y : Int32} (z : ¬ y = 0) : RnI E M .irem nx ls (.int y :: .int x :: r) h Q = Rn E M nx ls (.int (x - x / y * y) :: r) h Q := by
  show RnS E M (if y = 0 then none else _) Q = _
  rw [if_neg z]
  rfl
theorem ri_ldiv {x y : Int64} (z : ¬ y = 0) : RnI E M .ldiv nx ls (.long y :: .long x :: r) h Q = Rn E M nx ls (.long (x / y) :: r) h Q := by
  show RnS E M (if y = 0 then none else _) Q = _
  rw [if_neg z]
  rfl
theorem ri_lrem {x y : Int64} (z : ¬ y = 0) : RnI E M .lrem nx ls (.long y :: .long x :: r) h Q = Rn E M nx ls (.long (x - x / y * y) :: r) h Q := by
  show RnS E M (if y = 0 then none else _) Q = _
  rw [if_neg z]
  rfl
theorem ri_if_eq {x : Int32} {t : Int} : RnI E M (.ifCond .eq t) nx ls (.int x :: r) h Q = if x = 0 then Rn E M t.toNat ls r h Q else Rn E M nx ls r h Q := by
  show Rn E M (if decide (x = 0) = true then t.toNat else nx) ls r h Q = _
  by_cases z : x = 0
  · rw [if_pos (decide_eq_true z), if_pos z]
  · rw [if_neg (fun w => z (of_decide_eq_true w)), if_neg z]
theorem ri_if_ne {x : Int32} {t : Int} : RnI E M (.ifCond .ne t) nx ls (.int x :: r) h Q = if ¬ x = 0 then Rn E M t.toNat ls r h Q else Rn E M nx ls r h Q := by
  show Rn E M (if decide (¬ x = 0) = true then t.toNat else nx) ls r h Q = _
  by_cases z : ¬ x = 0
  · rw [if_pos (decide_eq_true z), if_pos z]
  · rw [if_neg (fun w => z (of_decide_eq_true w)), if_neg z]
theorem ri_if_lt {x : Int32} {t : Int} : RnI E M (.ifCond .lt t) nx ls (.int x :: r) h Q = if x < 0 then Rn E M t.toNat ls r h Q else Rn E M nx ls r h Q := by
  show Rn E M (if decide (x < 0) = true then t.toNat else nx) ls r h Q = _
  by_cases z : x < 0
  · rw [if_pos (decide_eq_true z), if_pos z]
  · rw [if_neg (fun w => z (of_decide_eq_true w)), if_neg z]
theorem ri_if_ge {x : Int32} {t : Int} : RnI E M (.ifCond .ge t) nx ls (.int x :: r) h Q = if 0 ≤ x then Rn E M t.toNat ls r h Q else Rn E M nx ls r h Q := by
  show Rn E M (if decide (0 ≤ x) = true then t.toNat else nx) ls r h Q = _
  by_cases z : 0 ≤ x
  · rw [if_pos (decide_eq_true z), if_pos z]
  · rw [if_neg (fun w => z (of_decide_eq_true w)), if_neg z]
theorem ri_if_gt {x : Int32} {t : Int} : RnI E M (.ifCond .gt t) nx ls (.int x :: r) h Q = if 0 < x then Rn E M t.toNat ls r h Q else Rn E M nx ls r h Q := by
  show Rn E M (if decide (0 < x) = true then t.toNat else nx) ls r h Q = _
  by_cases z : 0 < x
  · rw [if_pos (decide_eq_true z), if_pos z]
  · rw [if_neg (fun w => z (of_decide_eq_true w)), if_neg z]
theorem ri_if_le {x : Int32} {t : Int} : RnI E M (.ifCond .le t) nx ls (.int x :: r) h Q = if x ≤ 0 then Rn E M t.toNat ls r h Q else Rn E M nx ls r h Q := by
  show Rn E M (if decide (x ≤ 0) = true then t.toNat else nx) ls r h Q = _
  by_cases z : x ≤ 0
  · rw [if_pos (decide_eq_true z), if_pos z]
  · rw [if_neg (fun w => z (of_decide_eq_true w)), if_neg z]
theorem ri_icmp_eq {x y : Int32} {t : Int} : RnI E M (.if_icmp .eq t) nx ls (.int y :: .int x :: r) h Q = if x = y then Rn E M t.toNat ls r h Q else Rn E M nx ls r h Q := by
  show Rn E M (if decide (x = y) = true then t.toNat else nx) ls r h Q = _
  by_cases z : x = y
  · rw [if_pos (decide_eq_true z), if_pos z]
  · rw [if_neg (fun w => z (of_decide_eq_true w)), if_neg z]
theorem ri_icmp_ne {x y : Int32} {t : Int} : RnI E M (.if_icmp .ne t) nx ls (.int y :: .int x :: r) h Q = if ¬ x = y then Rn E M t.toNat ls r h Q else Rn E M nx ls r h Q := by
  show Rn E M (if decide (¬ x = y) = true then t.toNat else nx) ls r h Q = _
  by_cases z : ¬ x = y
  · rw [if_pos (decide_eq_true z), if_pos z]
  · rw [if_neg (fun w => z (of_decide_eq_true w)), if_neg z]
theorem ri_icmp_lt {x y : Int32} {t : Int} : RnI E M (.if_icmp .lt t) nx ls (.int y :: .int x :: r) h Q = if x < y then Rn E M t.toNat ls r h Q else Rn E M nx ls r h Q := by
  show Rn E M (if decide (x < y) = true then t.toNat else nx) ls r h Q = _
  by_cases z : x < y
  · rw [if_pos (decide_eq_true z), if_pos z]
  · rw [if_neg (fun w => z (of_decide_eq_true w)), if_neg z]
theorem ri_icmp_ge {x y : Int32} {t : Int} : RnI E M (.if_icmp .ge t) nx ls (.int y :: .int x :: r) h Q = if y ≤ x then Rn E M t.toNat ls r h Q else Rn E M nx ls r h Q := by
  show Rn E M (if decide (y ≤ x) = true then t.toNat else nx) ls r h Q = _
  by_cases z : y ≤ x
  · rw [if_pos (decide_eq_true z), if_pos z]
  · rw [if_neg (fun w => z (of_decide_eq_true w)), if_neg z]
theorem ri_icmp_gt {x y : Int32} {t : Int} : RnI E M (.if_icmp .gt t) nx ls (.int y :: .int x :: r) h Q = if y < x then Rn E M t.toNat ls r h Q else Rn E M nx ls r h Q := by
  show Rn E M (if decide (y < x) = true then t.toNat else nx) ls r h Q = _
  by_cases z : y < x
  · rw [if_pos (decide_eq_true z), if_pos z]
  · rw [if_neg (fun w => z (of_decide_eq_true w)), if_neg z]
theorem ri_icmp_le {x y : Int32} {t : Int} : RnI E M (.if_icmp .le t) nx ls (.int y :: .int x :: r) h Q = if x ≤ y then Rn E M t.toNat ls r h Q else Rn E M nx ls r h Q := by
  show Rn E M (if decide (x ≤ y) = true then t.toNat else nx) ls r h Q = _
  by_cases z : x ≤ y
  · rw [if_pos (decide_eq_true z), if_pos z]
  · rw [if_neg (fun w => z (of_decide_eq_true w)), if_neg z]
theorem ri_ifnullN {t : Int} : RnI E M (.ifnull t) nx ls (.null :: r) h Q = Rn E M (t.toNat) ls r h Q := rfl
theorem ri_ifnullR {t : Int} {a : Nat} : RnI E M (.ifnull t) nx ls (.ref a :: r) h Q = Rn E M (nx) ls r h Q := rfl
theorem ri_ifnonnullN {t : Int} : RnI E M (.ifnonnull t) nx ls (.null :: r) h Q = Rn E M (nx) ls r h Q := rfl
theorem ri_ifnonnullR {t : Int} {a : Nat} : RnI E M (.ifnonnull t) nx ls (.ref a :: r) h Q = Rn E M (t.toNat) ls r h Q := rfl
theorem ri_goto {t : Int} : RnI E M (.goto t) nx ls r h Q = Rn E M t.toNat ls r h Q := rfl
theorem ri_ret {k : Nat} : RnI E M (.ret k) nx ls r h Q = Rn E M nx (ls.take k) r h Q := rfl
theorem ri_istore {i : Nat} {x : Int32} : RnI E M (.istore i) nx ls (.int x :: r) h Q = Rn E M nx (sto1 ls i (.int x)) r h Q := rfl
theorem ri_lstore {i : Nat} {x : Int64} : RnI E M (.lstore i) nx ls (.long x :: r) h Q = Rn E M nx (sto2 ls i (.long x)) r h Q := rfl
theorem ri_astoreR {i a : Nat} : RnI E M (.astore i) nx ls (.ref a :: r) h Q = Rn E M nx (sto1 ls i (.ref a)) r h Q := rfl
theorem ri_astoreN {i : Nat} : RnI E M (.astore i) nx ls (.null :: r) h Q = Rn E M nx (sto1 ls i .null) r h Q := rfl
theorem ri_V {n : Nat} : RnI E M (.invokevirtual n) nx ls r h Q = RnC E 0 M n nx ls r h Q := rfl
theorem ri_S {n : Nat} : RnI E M (.invokestatic n) nx ls r h Q = RnC E 1 M n nx ls r h Q := rfl
theorem ri_C {n : Nat} : RnI E M (.invokespecial n) nx ls r h Q = RnC E 2 M n nx ls r h Q := rfl
end RI
