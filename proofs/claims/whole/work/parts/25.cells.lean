/-! EQUATIONS by cell; constants; lists; switches -/
theorem sto1_s {x : Value} {t : List Value} {v : Value} (i : Nat) : sto1 (x :: t) (i + 2) v = x :: sto1 t (i + 1) v := by
  have e : kp (x :: t) (i + 2) = x :: kp t (i + 1) := by
    show (match t[i]? with | some v => if v.category = 2 then (x :: t).set (i + 1) jk else x :: t | none => x :: t) = x :: (match t[i]? with | some v => if v.category = 2 then t.set i jk else t | none => t)
    cases t[i]? with
    | none => rfl
    | some v =>
      show (if v.category = 2 then (x :: t).set (i + 1) jk else x :: t) = x :: (if v.category = 2 then t.set i jk else t)
      by_cases z : v.category = 2
      · rw [if_pos z, if_pos z]
        rfl
      · rw [if_neg z, if_neg z]
  unfold sto1
  rw [e, List.length_cons, show i + 2 + 1 - (t.length + 1) = i + 1 + 1 - t.length by omega]
  rfl
theorem sto2_s {x : Value} {t : List Value} {v : Value} (i : Nat) : sto2 (x :: t) (i + 2) v = x :: sto2 t (i + 1) v := by
  have e : kp (x :: t) (i + 2) = x :: kp t (i + 1) := by
    show (match t[i]? with | some v => if v.category = 2 then (x :: t).set (i + 1) jk else x :: t | none => x :: t) = x :: (match t[i]? with | some v => if v.category = 2 then t.set i jk else t | none => t)
    cases t[i]? with
    | none => rfl
    | some v =>
      show (if v.category = 2 then (x :: t).set (i + 1) jk else x :: t) = x :: (if v.category = 2 then t.set i jk else t)
      by_cases z : v.category = 2
      · rw [if_pos z, if_pos z]
        rfl
      · rw [if_neg z, if_neg z]
  unfold sto2
  rw [e, List.length_cons, show i + 2 + 2 - (t.length + 1) = i + 1 + 2 - t.length by omega]
  rfl
theorem sto1_z {v : Value} : ∀ (t : List Value), sto1 t 0 v = v :: t.tail
  | [] => rfl
  | x :: t => by
    show (x :: t ++ List.replicate (0 + 1 - (t.length + 1)) jk).set 0 v = v :: t
    rw [show 0 + 1 - (t.length + 1) = 0 by omega]
    show v :: (t ++ []) = v :: t
    rw [List.append_nil]
theorem sto2_z1 {v y z : Value} {t : List Value} : sto2 (y :: z :: t) 0 v = v :: jk :: t := by
  show ((y :: z :: t ++ List.replicate (0 + 2 - (t.length + 1 + 1)) jk).set 0 v).set 1 jk = v :: jk :: t
  rw [show 0 + 2 - (t.length + 1 + 1) = 0 by omega]
  show v :: jk :: (t ++ []) = v :: jk :: t
  rw [List.append_nil]
theorem sto2_z0 {v : Value} : sto2 [] 0 v = [v, jk] := rfl
theorem sto2_z2 {v y : Value} : sto2 [y] 0 v = [v, jk] := rfl
theorem sto2_1n {x v : Value} (hx : x.category ≠ 2) : sto2 [x] 1 v = [x, v, jk] := by
  have e : kp [x] 1 = [x] := if_neg hx
  unfold sto2
  rw [e]
  rfl
theorem sto2_1o {x y v : Value} (hx : x.category ≠ 2) : sto2 [x, y] 1 v = [x, v, jk] := by
  have e : kp [x, y] 1 = [x, y] := if_neg hx
  unfold sto2
  rw [e]
  rfl
theorem sto2_1t {x y z v : Value} {t : List Value} (hx : x.category ≠ 2) : sto2 (x :: y :: z :: t) 1 v = x :: v :: jk :: t := by
  have e : kp (x :: y :: z :: t) 1 = x :: y :: z :: t := if_neg hx
  unfold sto2
  rw [e, List.length_cons, List.length_cons, List.length_cons, show 1 + 2 - (t.length + 1 + 1 + 1) = 0 by omega]
  show x :: v :: jk :: (t ++ []) = _
  rw [List.append_nil]
theorem sto1_1n {x : Value} {t : List Value} {v : Value} (hx : x.category ≠ 2) : sto1 (x :: t) 1 v = x :: v :: t.tail := by
  have e : kp (x :: t) 1 = x :: t := if_neg hx
  unfold sto1
  rw [e]
  cases t with
  | nil => rfl
  | cons y t =>
    rw [List.length_cons, List.length_cons, show 1 + 1 - (t.length + 1 + 1) = 0 by omega]
    show x :: v :: (t ++ []) = _
    rw [List.append_nil]
    rfl
theorem sto1_1l {x : Int64} {t : List Value} {v : Value} : sto1 (.long x :: t) 1 v = jk :: v :: t.tail := by
  have e : kp (.long x :: t) 1 = jk :: t := rfl
  unfold sto1
  rw [e]
  cases t with
  | nil => rfl
  | cons y t =>
    rw [List.length_cons, List.length_cons, show 1 + 1 - (t.length + 1 + 1) = 0 by omega]
    show jk :: v :: (t ++ []) = _
    rw [List.append_nil]
    rfl
theorem s1_i1 {x : Int32} {t : List Value} {v : Value} : sto1 (.int x :: t) 1 v = .int x :: v :: t.tail := sto1_1n (show (1 : Nat) ≠ 2 by decide)
theorem s2_in {x : Int32} {v : Value} : sto2 [.int x] 1 v = [.int x, v, jk] := sto2_1n (show (1 : Nat) ≠ 2 by decide)
theorem s2_io {x : Int32} {y : Value} {v : Value} : sto2 [.int x, y] 1 v = [.int x, v, jk] := sto2_1o (show (1 : Nat) ≠ 2 by decide)
theorem s2_it {x : Int32} {y z : Value} {t : List Value} {v : Value} : sto2 (.int x :: y :: z :: t) 1 v = .int x :: v :: jk :: t := sto2_1t (show (1 : Nat) ≠ 2 by decide)
theorem s1_r1 {x : Nat} {t : List Value} {v : Value} : sto1 (.ref x :: t) 1 v = .ref x :: v :: t.tail := sto1_1n (show (1 : Nat) ≠ 2 by decide)
theorem s2_rn {x : Nat} {v : Value} : sto2 [.ref x] 1 v = [.ref x, v, jk] := sto2_1n (show (1 : Nat) ≠ 2 by decide)
theorem s2_ro {x : Nat} {y : Value} {v : Value} : sto2 [.ref x, y] 1 v = [.ref x, v, jk] := sto2_1o (show (1 : Nat) ≠ 2 by decide)
theorem s2_rt {x : Nat} {y z : Value} {t : List Value} {v : Value} : sto2 (.ref x :: y :: z :: t) 1 v = .ref x :: v :: jk :: t := sto2_1t (show (1 : Nat) ≠ 2 by decide)
theorem s1_n1 {t : List Value} {v : Value} : sto1 (.null :: t) 1 v = .null :: v :: t.tail := sto1_1n (by decide)
theorem s2_nn {v : Value} : sto2 [.null] 1 v = [.null, v, jk] := sto2_1n (by decide)
theorem s2_no {y : Value} {v : Value} : sto2 [.null, y] 1 v = [.null, v, jk] := sto2_1o (by decide)
theorem s2_nt {y z : Value} {t : List Value} {v : Value} : sto2 (.null :: y :: z :: t) 1 v = .null :: v :: jk :: t := sto2_1t (by decide)
theorem s1_j1 {t : List Value} {v : Value} : sto1 (jk :: t) 1 v = jk :: v :: t.tail := sto1_1n (by decide)
theorem s2_jn {v : Value} : sto2 [jk] 1 v = [jk, v, jk] := sto2_1n (by decide)
theorem s2_jo {y : Value} {v : Value} : sto2 [jk, y] 1 v = [jk, v, jk] := sto2_1o (by decide)
theorem s2_jt {y z : Value} {t : List Value} {v : Value} : sto2 (jk :: y :: z :: t) 1 v = jk :: v :: jk :: t := sto2_1t (by decide)
theorem s1_2 {x : Value} {t : List Value} {v : Value} : sto1 (x :: t) 2 v = x :: sto1 t 1 v := sto1_s 0
theorem s2_2 {x : Value} {t : List Value} {v : Value} : sto2 (x :: t) 2 v = x :: sto2 t 1 v := sto2_s 0
theorem s1_3 {x : Value} {t : List Value} {v : Value} : sto1 (x :: t) 3 v = x :: sto1 t 2 v := sto1_s 1
theorem s2_3 {x : Value} {t : List Value} {v : Value} : sto2 (x :: t) 3 v = x :: sto2 t 2 v := sto2_s 1
theorem s1_4 {x : Value} {t : List Value} {v : Value} : sto1 (x :: t) 4 v = x :: sto1 t 3 v := sto1_s 2
theorem s2_4 {x : Value} {t : List Value} {v : Value} : sto2 (x :: t) 4 v = x :: sto2 t 3 v := sto2_s 2
theorem s1_5 {x : Value} {t : List Value} {v : Value} : sto1 (x :: t) 5 v = x :: sto1 t 4 v := sto1_s 3
theorem s2_5 {x : Value} {t : List Value} {v : Value} : sto2 (x :: t) 5 v = x :: sto2 t 4 v := sto2_s 3
theorem s1_6 {x : Value} {t : List Value} {v : Value} : sto1 (x :: t) 6 v = x :: sto1 t 5 v := sto1_s 4
theorem s2_6 {x : Value} {t : List Value} {v : Value} : sto2 (x :: t) 6 v = x :: sto2 t 5 v := sto2_s 4
theorem s1_7 {x : Value} {t : List Value} {v : Value} : sto1 (x :: t) 7 v = x :: sto1 t 6 v := sto1_s 5
theorem s2_7 {x : Value} {t : List Value} {v : Value} : sto2 (x :: t) 7 v = x :: sto2 t 6 v := sto2_s 5
theorem s1_8 {x : Value} {t : List Value} {v : Value} : sto1 (x :: t) 8 v = x :: sto1 t 7 v := sto1_s 6
theorem s2_8 {x : Value} {t : List Value} {v : Value} : sto2 (x :: t) 8 v = x :: sto2 t 7 v := sto2_s 6
theorem s1_9 {x : Value} {t : List Value} {v : Value} : sto1 (x :: t) 9 v = x :: sto1 t 8 v := sto1_s 7
theorem s2_9 {x : Value} {t : List Value} {v : Value} : sto2 (x :: t) 9 v = x :: sto2 t 8 v := sto2_s 7
theorem s1_10 {x : Value} {t : List Value} {v : Value} : sto1 (x :: t) 10 v = x :: sto1 t 9 v := sto1_s 8
theorem s2_10 {x : Value} {t : List Value} {v : Value} : sto2 (x :: t) 10 v = x :: sto2 t 9 v := sto2_s 8
theorem s1_11 {x : Value} {t : List Value} {v : Value} : sto1 (x :: t) 11 v = x :: sto1 t 10 v := sto1_s 9
theorem s2_11 {x : Value} {t : List Value} {v : Value} : sto2 (x :: t) 11 v = x :: sto2 t 10 v := sto2_s 9
theorem s1_12 {x : Value} {t : List Value} {v : Value} : sto1 (x :: t) 12 v = x :: sto1 t 11 v := sto1_s 10
theorem s2_12 {x : Value} {t : List Value} {v : Value} : sto2 (x :: t) 12 v = x :: sto2 t 11 v := sto2_s 10
theorem s1_13 {x : Value} {t : List Value} {v : Value} : sto1 (x :: t) 13 v = x :: sto1 t 12 v := sto1_s 11
theorem s2_13 {x : Value} {t : List Value} {v : Value} : sto2 (x :: t) 13 v = x :: sto2 t 12 v := sto2_s 11
theorem s1_14 {x : Value} {t : List Value} {v : Value} : sto1 (x :: t) 14 v = x :: sto1 t 13 v := sto1_s 12
theorem s2_14 {x : Value} {t : List Value} {v : Value} : sto2 (x :: t) 14 v = x :: sto2 t 13 v := sto2_s 12
theorem s1_15 {x : Value} {t : List Value} {v : Value} : sto1 (x :: t) 15 v = x :: sto1 t 14 v := sto1_s 13
theorem s2_15 {x : Value} {t : List Value} {v : Value} : sto2 (x :: t) 15 v = x :: sto2 t 14 v := sto2_s 13
theorem tl_c {x : Value} {t : List Value} : (x :: t).tail = t := rfl
theorem tl_n : ([] : List Value).tail = [] := rfl
theorem tk_0 {t : List Value} : t.take 0 = [] := List.take_zero
theorem tk_1 {x : Value} {t : List Value} : (x :: t).take 1 = x :: t.take 0 := rfl
theorem tk_2 {x : Value} {t : List Value} : (x :: t).take 2 = x :: t.take 1 := rfl
theorem tk_3 {x : Value} {t : List Value} : (x :: t).take 3 = x :: t.take 2 := rfl
theorem tk_4 {x : Value} {t : List Value} : (x :: t).take 4 = x :: t.take 3 := rfl
theorem tk_5 {x : Value} {t : List Value} : (x :: t).take 5 = x :: t.take 4 := rfl
theorem tk_6 {x : Value} {t : List Value} : (x :: t).take 6 = x :: t.take 5 := rfl
theorem tk_7 {x : Value} {t : List Value} : (x :: t).take 7 = x :: t.take 6 := rfl
theorem tk_8 {x : Value} {t : List Value} : (x :: t).take 8 = x :: t.take 7 := rfl
theorem tk_9 {x : Value} {t : List Value} : (x :: t).take 9 = x :: t.take 8 := rfl
theorem tk_10 {x : Value} {t : List Value} : (x :: t).take 10 = x :: t.take 9 := rfl
theorem tk_11 {x : Value} {t : List Value} : (x :: t).take 11 = x :: t.take 10 := rfl
theorem tk_12 {x : Value} {t : List Value} : (x :: t).take 12 = x :: t.take 11 := rfl
theorem tk_13 {x : Value} {t : List Value} : (x :: t).take 13 = x :: t.take 12 := rfl
theorem ent_n : ent [] = [] := rfl
theorem ent_i {x : Int32} {t : List Value} : ent (.int x :: t) = .int x :: ent t := rfl
theorem ent_l {x : Int64} {t : List Value} : ent (.long x :: t) = .long x :: jk :: ent t := rfl
theorem ent_r {x : Nat} {t : List Value} : ent (.ref x :: t) = .ref x :: ent t := rfl
theorem ent_u {t : List Value} : ent (.null :: t) = .null :: ent t := rfl
theorem cs_n : cs [] = 0 := rfl
theorem cs_i {x : Int32} {t : List Value} : cs (.int x :: t) = 1 + cs t := by unfold cs; rw [List.map_cons, List.sum_cons]; rfl
theorem cs_l {x : Int64} {t : List Value} : cs (.long x :: t) = 2 + cs t := by unfold cs; rw [List.map_cons, List.sum_cons]; rfl
theorem cs_r {x : Nat} {t : List Value} : cs (.ref x :: t) = 1 + cs t := by unfold cs; rw [List.map_cons, List.sum_cons]; rfl
theorem cs_u {t : List Value} : cs (.null :: t) = 1 + cs t := by unfold cs; rw [List.map_cons, List.sum_cons]; rfl
theorem tL_n : (Option.none : Option Value).toList = [] := rfl
theorem tL_s {v : Value} : (some v).toList = [v] := rfl
theorem ap_n {r : List Value} : ([] : List Value) ++ r = r := rfl
theorem ap_c {v : Value} {t r : List Value} : (v :: t) ++ r = v :: (t ++ r) := rfl
section EQ
variable {E : EX} {M nx : Nat} {ls r : List Value} {I : Nat → Nat → Int32} {L : Nat → Nat → Int64} {h : AH} {Q : Option Value → AH → Prop}
theorem ric_m10 : RnI E M (.iconst (-10)) nx ls r h Q = Rn E M nx ls (.int (-10) :: r) h Q := rfl
theorem ric_m9 : RnI E M (.iconst (-9)) nx ls r h Q = Rn E M nx ls (.int (-9) :: r) h Q := rfl
theorem ric_m3 : RnI E M (.iconst (-3)) nx ls r h Q = Rn E M nx ls (.int (-3) :: r) h Q := rfl
theorem ric_m2 : RnI E M (.iconst (-2)) nx ls r h Q = Rn E M nx ls (.int (-2) :: r) h Q := rfl
theorem ric_m1 : RnI E M (.iconst (-1)) nx ls r h Q = Rn E M nx ls (.int (-1) :: r) h Q := rfl
theorem ric_0 : RnI E M (.iconst 0) nx ls r h Q = Rn E M nx ls (.int 0 :: r) h Q := rfl
theorem ric_1 : RnI E M (.iconst 1) nx ls r h Q = Rn E M nx ls (.int 1 :: r) h Q := rfl
theorem ric_2 : RnI E M (.iconst 2) nx ls r h Q = Rn E M nx ls (.int 2 :: r) h Q := rfl
theorem ric_3 : RnI E M (.iconst 3) nx ls r h Q = Rn E M nx ls (.int 3 :: r) h Q := rfl
theorem ric_4 : RnI E M (.iconst 4) nx ls r h Q = Rn E M nx ls (.int 4 :: r) h Q := rfl
theorem ric_5 : RnI E M (.iconst 5) nx ls r h Q = Rn E M nx ls (.int 5 :: r) h Q := rfl
theorem ric_6 : RnI E M (.iconst 6) nx ls r h Q = Rn E M nx ls (.int 6 :: r) h Q := rfl
theorem ric_7 : RnI E M (.iconst 7) nx ls r h Q = Rn E M nx ls (.int 7 :: r) h Q := rfl
theorem ric_8 : RnI E M (.iconst 8) nx ls r h Q = Rn E M nx ls (.int 8 :: r) h Q := rfl
theorem ric_9 : RnI E M (.iconst 9) nx ls r h Q = Rn E M nx ls (.int 9 :: r) h Q := rfl
theorem ric_10 : RnI E M (.iconst 10) nx ls r h Q = Rn E M nx ls (.int 10 :: r) h Q := rfl
theorem ric_11 : RnI E M (.iconst 11) nx ls r h Q = Rn E M nx ls (.int 11 :: r) h Q := rfl
theorem ric_12 : RnI E M (.iconst 12) nx ls r h Q = Rn E M nx ls (.int 12 :: r) h Q := rfl
theorem ric_16 : RnI E M (.iconst 16) nx ls r h Q = Rn E M nx ls (.int 16 :: r) h Q := rfl
theorem ric_19 : RnI E M (.iconst 19) nx ls r h Q = Rn E M nx ls (.int 19 :: r) h Q := rfl
theorem ric_20 : RnI E M (.iconst 20) nx ls r h Q = Rn E M nx ls (.int 20 :: r) h Q := rfl
theorem ric_30 : RnI E M (.iconst 30) nx ls r h Q = Rn E M nx ls (.int 30 :: r) h Q := rfl
theorem ric_31 : RnI E M (.iconst 31) nx ls r h Q = Rn E M nx ls (.int 31 :: r) h Q := rfl
theorem ric_32 : RnI E M (.iconst 32) nx ls r h Q = Rn E M nx ls (.int 32 :: r) h Q := rfl
theorem ric_47 : RnI E M (.iconst 47) nx ls r h Q = Rn E M nx ls (.int 47 :: r) h Q := rfl
theorem ric_48 : RnI E M (.iconst 48) nx ls r h Q = Rn E M nx ls (.int 48 :: r) h Q := rfl
theorem ric_57 : RnI E M (.iconst 57) nx ls r h Q = Rn E M nx ls (.int 57 :: r) h Q := rfl
theorem ric_58 : RnI E M (.iconst 58) nx ls r h Q = Rn E M nx ls (.int 58 :: r) h Q := rfl
theorem ric_59 : RnI E M (.iconst 59) nx ls r h Q = Rn E M nx ls (.int 59 :: r) h Q := rfl
theorem ric_60 : RnI E M (.iconst 60) nx ls r h Q = Rn E M nx ls (.int 60 :: r) h Q := rfl
theorem ric_61 : RnI E M (.iconst 61) nx ls r h Q = Rn E M nx ls (.int 61 :: r) h Q := rfl
theorem ric_63 : RnI E M (.iconst 63) nx ls r h Q = Rn E M nx ls (.int 63 :: r) h Q := rfl
theorem ric_64 : RnI E M (.iconst 64) nx ls r h Q = Rn E M nx ls (.int 64 :: r) h Q := rfl
theorem ric_73 : RnI E M (.iconst 73) nx ls r h Q = Rn E M nx ls (.int 73 :: r) h Q := rfl
theorem ric_85 : RnI E M (.iconst 85) nx ls r h Q = Rn E M nx ls (.int 85 :: r) h Q := rfl
theorem ric_96 : RnI E M (.iconst 96) nx ls r h Q = Rn E M nx ls (.int 96 :: r) h Q := rfl
theorem ric_97 : RnI E M (.iconst 97) nx ls r h Q = Rn E M nx ls (.int 97 :: r) h Q := rfl
theorem ric_98 : RnI E M (.iconst 98) nx ls r h Q = Rn E M nx ls (.int 98 :: r) h Q := rfl
theorem ric_99 : RnI E M (.iconst 99) nx ls r h Q = Rn E M nx ls (.int 99 :: r) h Q := rfl
theorem ric_100 : RnI E M (.iconst 100) nx ls r h Q = Rn E M nx ls (.int 100 :: r) h Q := rfl
theorem ric_101 : RnI E M (.iconst 101) nx ls r h Q = Rn E M nx ls (.int 101 :: r) h Q := rfl
theorem ric_104 : RnI E M (.iconst 104) nx ls r h Q = Rn E M nx ls (.int 104 :: r) h Q := rfl
theorem ric_105 : RnI E M (.iconst 105) nx ls r h Q = Rn E M nx ls (.int 105 :: r) h Q := rfl
theorem ric_107 : RnI E M (.iconst 107) nx ls r h Q = Rn E M nx ls (.int 107 :: r) h Q := rfl
theorem ric_108 : RnI E M (.iconst 108) nx ls r h Q = Rn E M nx ls (.int 108 :: r) h Q := rfl
theorem ric_109 : RnI E M (.iconst 109) nx ls r h Q = Rn E M nx ls (.int 109 :: r) h Q := rfl
theorem ric_110 : RnI E M (.iconst 110) nx ls r h Q = Rn E M nx ls (.int 110 :: r) h Q := rfl
theorem ric_111 : RnI E M (.iconst 111) nx ls r h Q = Rn E M nx ls (.int 111 :: r) h Q := rfl
theorem ric_112 : RnI E M (.iconst 112) nx ls r h Q = Rn E M nx ls (.int 112 :: r) h Q := rfl
theorem ric_115 : RnI E M (.iconst 115) nx ls r h Q = Rn E M nx ls (.int 115 :: r) h Q := rfl
theorem ric_116 : RnI E M (.iconst 116) nx ls r h Q = Rn E M nx ls (.int 116 :: r) h Q := rfl
theorem ric_119 : RnI E M (.iconst 119) nx ls r h Q = Rn E M nx ls (.int 119 :: r) h Q := rfl
theorem ric_122 : RnI E M (.iconst 122) nx ls r h Q = Rn E M nx ls (.int 122 :: r) h Q := rfl
theorem ric_127 : RnI E M (.iconst 127) nx ls r h Q = Rn E M nx ls (.int 127 :: r) h Q := rfl
theorem ric_144 : RnI E M (.iconst 144) nx ls r h Q = Rn E M nx ls (.int 144 :: r) h Q := rfl
theorem ric_145 : RnI E M (.iconst 145) nx ls r h Q = Rn E M nx ls (.int 145 :: r) h Q := rfl
theorem ric_255 : RnI E M (.iconst 255) nx ls r h Q = Rn E M nx ls (.int 255 :: r) h Q := rfl
theorem ric_256 : RnI E M (.iconst 256) nx ls r h Q = Rn E M nx ls (.int 256 :: r) h Q := rfl
theorem ric_290 : RnI E M (.iconst 290) nx ls r h Q = Rn E M nx ls (.int 290 :: r) h Q := rfl
theorem ric_400 : RnI E M (.iconst 400) nx ls r h Q = Rn E M nx ls (.int 400 :: r) h Q := rfl
theorem ric_480 : RnI E M (.iconst 480) nx ls r h Q = Rn E M nx ls (.int 480 :: r) h Q := rfl
theorem ric_1000 : RnI E M (.iconst 1000) nx ls r h Q = Rn E M nx ls (.int 1000 :: r) h Q := rfl
theorem ric_2304 : RnI E M (.iconst 2304) nx ls r h Q = Rn E M nx ls (.int 2304 :: r) h Q := rfl
theorem ric_3721 : RnI E M (.iconst 3721) nx ls r h Q = Rn E M nx ls (.int 3721 :: r) h Q := rfl
theorem ric_3904 : RnI E M (.iconst 3904) nx ls r h Q = Rn E M nx ls (.int 3904 :: r) h Q := rfl
theorem ric_4096 : RnI E M (.iconst 4096) nx ls r h Q = Rn E M nx ls (.int 4096 :: r) h Q := rfl
theorem ric_9999 : RnI E M (.iconst 9999) nx ls r h Q = Rn E M nx ls (.int 9999 :: r) h Q := rfl
theorem rlc_0 : RnI E M (.lconst 0) nx ls r h Q = Rn E M nx ls (.long 0 :: r) h Q := rfl
theorem rlc_1 : RnI E M (.lconst 1) nx ls r h Q = Rn E M nx ls (.long 1 :: r) h Q := rfl
theorem rdw_0 : RnI E M (.ldc_w 0) nx ls r h Q = Rn E M nx ls (.int 1000000 :: r) h Q := rfl
theorem rdw_1 : RnI E M (.ldc_w 1) nx ls r h Q = Rn E M nx ls (.int 1431655765 :: r) h Q := rfl
theorem rdw_2 : RnI E M (.ldc_w 2) nx ls r h Q = Rn E M nx ls (.int 858993459 :: r) h Q := rfl
theorem rdw_3 : RnI E M (.ldc_w 3) nx ls r h Q = Rn E M nx ls (.int 252645135 :: r) h Q := rfl
theorem rdw_4 : RnI E M (.ldc_w 4) nx ls r h Q = Rn E M nx ls (.int (-1000000) :: r) h Q := rfl
theorem rdw_5 : RnI E M (.ldc_w 5) nx ls r h Q = Rn E M nx ls (.int 99999 :: r) h Q := rfl
theorem rdw_6 : RnI E M (.ldc_w 6) nx ls r h Q = Rn E M nx ls (.int 1000000 :: r) h Q := rfl
theorem rdw_7 : RnI E M (.ldc_w 7) nx ls r h Q = Rn E M nx ls (.int (-1000000) :: r) h Q := rfl
theorem rdw_8 : RnI E M (.ldc_w 8) nx ls r h Q = Rn E M nx ls (.int 99999 :: r) h Q := rfl
theorem rd2_0 : RnI E M (.ldc2_w 0) nx ls r h Q = Rn E M nx ls (.long 281474976710655 :: r) h Q := rfl
theorem rd2_1 : RnI E M (.ldc2_w 1) nx ls r h Q = Rn E M nx ls (.long (-1) :: r) h Q := rfl
theorem rd2_2 : RnI E M (.ldc2_w 2) nx ls r h Q = Rn E M nx ls (.long 6148914691236517205 :: r) h Q := rfl
theorem rd2_3 : RnI E M (.ldc2_w 3) nx ls r h Q = Rn E M nx ls (.long 3689348814741910323 :: r) h Q := rfl
theorem rd2_4 : RnI E M (.ldc2_w 4) nx ls r h Q = Rn E M nx ls (.long 1085102592571150095 :: r) h Q := rfl
theorem rd2_5 : RnI E M (.ldc2_w 5) nx ls r h Q = Rn E M nx ls (.long 281474976710655 :: r) h Q := rfl
theorem rd2_6 : RnI E M (.ldc2_w 6) nx ls r h Q = Rn E M nx ls (.long (-1) :: r) h Q := rfl
theorem rd2_7 : RnI E M (.ldc2_w 7) nx ls r h Q = Rn E M nx ls (.long (-141289400074369) :: r) h Q := rfl
theorem rd2_8 : RnI E M (.ldc2_w 8) nx ls r h Q = Rn E M nx ls (.long (-1103823438082) :: r) h Q := rfl
theorem rd2_9 : RnI E M (.ldc2_w 9) nx ls r h Q = Rn E M nx ls (.long 281474976710655 :: r) h Q := rfl
theorem rd2_10 : RnI E M (.ldc2_w 10) nx ls r h Q = Rn E M nx ls (.long (-1) :: r) h Q := rfl
theorem rd2_11 : RnI E M (.ldc2_w 11) nx ls r h Q = Rn E M nx ls (.long (-1) :: r) h Q := rfl
theorem rd2_12 : RnI E M (.ldc2_w 12) nx ls r h Q = Rn E M nx ls (.long 10 :: r) h Q := rfl
theorem rd2_13 : RnI E M (.ldc2_w 13) nx ls r h Q = Rn E M nx ls (.long 100 :: r) h Q := rfl
theorem rd2_14 : RnI E M (.ldc2_w 14) nx ls r h Q = Rn E M nx ls (.long 1000 :: r) h Q := rfl
theorem rd2_15 : RnI E M (.ldc2_w 15) nx ls r h Q = Rn E M nx ls (.long 10000 :: r) h Q := rfl
theorem rd2_16 : RnI E M (.ldc2_w 16) nx ls r h Q = Rn E M nx ls (.long 100000 :: r) h Q := rfl
theorem rd2_17 : RnI E M (.ldc2_w 17) nx ls r h Q = Rn E M nx ls (.long 1152921504606846975 :: r) h Q := rfl
theorem rd2_18 : RnI E M (.ldc2_w 18) nx ls r h Q = Rn E M nx ls (.long 255 :: r) h Q := rfl
theorem rd2_19 : RnI E M (.ldc2_w 19) nx ls r h Q = Rn E M nx ls (.long 256 :: r) h Q := rfl
theorem rd2_20 : RnI E M (.ldc2_w 20) nx ls r h Q = Rn E M nx ls (.long 65536 :: r) h Q := rfl
theorem rd2_21 : RnI E M (.ldc2_w 21) nx ls r h Q = Rn E M nx ls (.long (-1) :: r) h Q := rfl
theorem rd2_22 : RnI E M (.ldc2_w 22) nx ls r h Q = Rn E M nx ls (.long 11 :: r) h Q := rfl
theorem rd2_23 : RnI E M (.ldc2_w 23) nx ls r h Q = Rn E M nx ls (.long 101 :: r) h Q := rfl
theorem rd2_24 : RnI E M (.ldc2_w 24) nx ls r h Q = Rn E M nx ls (.long 1011 :: r) h Q := rfl
theorem rd2_25 : RnI E M (.ldc2_w 25) nx ls r h Q = Rn E M nx ls (.long 11011 :: r) h Q := rfl
theorem rd2_26 : RnI E M (.ldc2_w 26) nx ls r h Q = Rn E M nx ls (.long 100001 :: r) h Q := rfl
theorem rd2_27 : RnI E M (.ldc2_w 27) nx ls r h Q = Rn E M nx ls (.long 4294967295 :: r) h Q := rfl
theorem rdc_0 : RnI E M (.ldc 0) nx ls r h Q = Rn E M nx ls (.ref 1000010 :: r) h Q := rfl
theorem rdc_101 : RnI E M (.ldc 101) nx ls r h Q = Rn E M nx ls (.ref 1000011 :: r) h Q := rfl
theorem rdc_202 : RnI E M (.ldc 202) nx ls r h Q = Rn E M nx ls (.ref 1000012 :: r) h Q := rfl
theorem rdc_303 : RnI E M (.ldc 303) nx ls r h Q = Rn E M nx ls (.ref 1000013 :: r) h Q := rfl
theorem rdc_404 : RnI E M (.ldc 404) nx ls r h Q = Rn E M nx ls (.ref 1000014 :: r) h Q := rfl
theorem rdc_505 : RnI E M (.ldc 505) nx ls r h Q = Rn E M nx ls (.ref 1000015 :: r) h Q := rfl
theorem rdc_606 : RnI E M (.ldc 606) nx ls r h Q = Rn E M nx ls (.ref 1000016 :: r) h Q := rfl
theorem rgs_1 : RnI E M (.getstatic 1) nx ls r h Q = Rn E M nx ls (.ref 1000001 :: r) h Q := rfl
theorem rgs_102 : RnI E M (.getstatic 102) nx ls r h Q = Rn E M nx ls (.ref 1000002 :: r) h Q := rfl
theorem rgs_203 : RnI E M (.getstatic 203) nx ls r h Q = Rn E M nx ls (.ref 1000003 :: r) h Q := rfl
theorem rin_1_1 {x0 : Value} {t : List Value} {x : Int32} : RnI E M (.iinc 1 1) nx (x0 :: .int x :: t) r h Q = Rn E M nx (sto1 (x0 :: .int x :: t) 1 (.int (x + 1))) r h Q := rfl
theorem rin_10_1 {x0 x1 x2 x3 x4 x5 x6 x7 x8 x9 : Value} {t : List Value} {x : Int32} : RnI E M (.iinc 10 1) nx (x0 :: x1 :: x2 :: x3 :: x4 :: x5 :: x6 :: x7 :: x8 :: x9 :: .int x :: t) r h Q = Rn E M nx (sto1 (x0 :: x1 :: x2 :: x3 :: x4 :: x5 :: x6 :: x7 :: x8 :: x9 :: .int x :: t) 10 (.int (x + 1))) r h Q := rfl
theorem rin_2_m1 {x0 x1 : Value} {t : List Value} {x : Int32} : RnI E M (.iinc 2 (-1)) nx (x0 :: x1 :: .int x :: t) r h Q = Rn E M nx (sto1 (x0 :: x1 :: .int x :: t) 2 (.int (x + (-1)))) r h Q := rfl
theorem rin_2_1 {x0 x1 : Value} {t : List Value} {x : Int32} : RnI E M (.iinc 2 1) nx (x0 :: x1 :: .int x :: t) r h Q = Rn E M nx (sto1 (x0 :: x1 :: .int x :: t) 2 (.int (x + 1))) r h Q := rfl
theorem rin_3_m1 {x0 x1 x2 : Value} {t : List Value} {x : Int32} : RnI E M (.iinc 3 (-1)) nx (x0 :: x1 :: x2 :: .int x :: t) r h Q = Rn E M nx (sto1 (x0 :: x1 :: x2 :: .int x :: t) 3 (.int (x + (-1)))) r h Q := rfl
theorem rin_3_1 {x0 x1 x2 : Value} {t : List Value} {x : Int32} : RnI E M (.iinc 3 1) nx (x0 :: x1 :: x2 :: .int x :: t) r h Q = Rn E M nx (sto1 (x0 :: x1 :: x2 :: .int x :: t) 3 (.int (x + 1))) r h Q := rfl
theorem rin_3_7 {x0 x1 x2 : Value} {t : List Value} {x : Int32} : RnI E M (.iinc 3 7) nx (x0 :: x1 :: x2 :: .int x :: t) r h Q = Rn E M nx (sto1 (x0 :: x1 :: x2 :: .int x :: t) 3 (.int (x + 7))) r h Q := rfl
theorem rin_4_m1 {x0 x1 x2 x3 : Value} {t : List Value} {x : Int32} : RnI E M (.iinc 4 (-1)) nx (x0 :: x1 :: x2 :: x3 :: .int x :: t) r h Q = Rn E M nx (sto1 (x0 :: x1 :: x2 :: x3 :: .int x :: t) 4 (.int (x + (-1)))) r h Q := rfl
theorem rin_4_1 {x0 x1 x2 x3 : Value} {t : List Value} {x : Int32} : RnI E M (.iinc 4 1) nx (x0 :: x1 :: x2 :: x3 :: .int x :: t) r h Q = Rn E M nx (sto1 (x0 :: x1 :: x2 :: x3 :: .int x :: t) 4 (.int (x + 1))) r h Q := rfl
theorem rin_5_m1 {x0 x1 x2 x3 x4 : Value} {t : List Value} {x : Int32} : RnI E M (.iinc 5 (-1)) nx (x0 :: x1 :: x2 :: x3 :: x4 :: .int x :: t) r h Q = Rn E M nx (sto1 (x0 :: x1 :: x2 :: x3 :: x4 :: .int x :: t) 5 (.int (x + (-1)))) r h Q := rfl
theorem rin_5_1 {x0 x1 x2 x3 x4 : Value} {t : List Value} {x : Int32} : RnI E M (.iinc 5 1) nx (x0 :: x1 :: x2 :: x3 :: x4 :: .int x :: t) r h Q = Rn E M nx (sto1 (x0 :: x1 :: x2 :: x3 :: x4 :: .int x :: t) 5 (.int (x + 1))) r h Q := rfl
theorem rin_6_1 {x0 x1 x2 x3 x4 x5 : Value} {t : List Value} {x : Int32} : RnI E M (.iinc 6 1) nx (x0 :: x1 :: x2 :: x3 :: x4 :: x5 :: .int x :: t) r h Q = Rn E M nx (sto1 (x0 :: x1 :: x2 :: x3 :: x4 :: x5 :: .int x :: t) 6 (.int (x + 1))) r h Q := rfl
theorem rin_7_1 {x0 x1 x2 x3 x4 x5 x6 : Value} {t : List Value} {x : Int32} : RnI E M (.iinc 7 1) nx (x0 :: x1 :: x2 :: x3 :: x4 :: x5 :: x6 :: .int x :: t) r h Q = Rn E M nx (sto1 (x0 :: x1 :: x2 :: x3 :: x4 :: x5 :: x6 :: .int x :: t) 7 (.int (x + 1))) r h Q := rfl
theorem rin_8_1 {x0 x1 x2 x3 x4 x5 x6 x7 : Value} {t : List Value} {x : Int32} : RnI E M (.iinc 8 1) nx (x0 :: x1 :: x2 :: x3 :: x4 :: x5 :: x6 :: x7 :: .int x :: t) r h Q = Rn E M nx (sto1 (x0 :: x1 :: x2 :: x3 :: x4 :: x5 :: x6 :: x7 :: .int x :: t) 8 (.int (x + 1))) r h Q := rfl
theorem rin_9_1 {x0 x1 x2 x3 x4 x5 x6 x7 x8 : Value} {t : List Value} {x : Int32} : RnI E M (.iinc 9 1) nx (x0 :: x1 :: x2 :: x3 :: x4 :: x5 :: x6 :: x7 :: x8 :: .int x :: t) r h Q = Rn E M nx (sto1 (x0 :: x1 :: x2 :: x3 :: x4 :: x5 :: x6 :: x7 :: x8 :: .int x :: t) 9 (.int (x + 1))) r h Q := rfl
theorem gf_1000_0 : RnI E M (.getfield 1000) nx ls (.ref 0 :: r) (K0, I, L) Q = Rn E M nx ls (.ref 1 :: r) (K0, I, L) Q := ri_gR rfl rfl rfl rfl rfl
theorem gf_1001105_106 : RnI E M (.getfield 1001105) nx ls (.ref 106 :: r) (K0, I, L) Q = Rn E M nx ls (.ref 110 :: r) (K0, I, L) Q := ri_gR rfl rfl rfl rfl rfl
theorem gf_101009_0 : RnI E M (.getfield 101009) nx ls (.ref 0 :: r) (K0, I, L) Q = Rn E M nx ls (.ref 53 :: r) (K0, I, L) Q := ri_gR rfl rfl rfl rfl rfl
theorem gf_1011112_106 : RnI E M (.getfield 1011112) nx ls (.ref 106 :: r) (K0, I, L) Q = Rn E M nx ls (.ref 111 :: r) (K0, I, L) Q := ri_gR rfl rfl rfl rfl rfl
theorem gf_1021113_106 : RnI E M (.getfield 1021113) nx ls (.ref 106 :: r) (K0, I, L) Q = Rn E M nx ls (.ref 112 :: r) (K0, I, L) Q := ri_gR rfl rfl rfl rfl rfl
theorem gf_1031116_106 : RnI E M (.getfield 1031116) nx ls (.ref 106 :: r) (K0, I, L) Q = Rn E M nx ls (.ref 113 :: r) (K0, I, L) Q := ri_gR rfl rfl rfl rfl rfl
theorem gf_1041119_106 : RnI E M (.getfield 1041119) nx ls (.ref 106 :: r) (K0, I, L) Q = Rn E M nx ls (.ref 114 :: r) (K0, I, L) Q := ri_gR rfl rfl rfl rfl rfl
theorem gf_1051120_106 : RnI E M (.getfield 1051120) nx ls (.ref 106 :: r) (K0, I, L) Q = Rn E M nx ls (.ref 115 :: r) (K0, I, L) Q := ri_gR rfl rfl rfl rfl rfl
theorem gf_1061121_106 : RnI E M (.getfield 1061121) nx ls (.ref 106 :: r) (K0, I, L) Q = Rn E M nx ls (.ref 116 :: r) (K0, I, L) Q := ri_gR rfl rfl rfl rfl rfl
theorem gf_1071122_106 : RnI E M (.getfield 1071122) nx ls (.ref 106 :: r) (K0, I, L) Q = Rn E M nx ls (.ref 117 :: r) (K0, I, L) Q := ri_gR rfl rfl rfl rfl rfl
theorem gf_1081123_106 : RnI E M (.getfield 1081123) nx ls (.ref 106 :: r) (K0, I, L) Q = Rn E M nx ls (.ref 118 :: r) (K0, I, L) Q := ri_gR rfl rfl rfl rfl rfl
theorem gf_1091124_106 : RnI E M (.getfield 1091124) nx ls (.ref 106 :: r) (K0, I, L) Q = Rn E M nx ls (.ref 119 :: r) (K0, I, L) Q := ri_gR rfl rfl rfl rfl rfl
theorem gf_11001_0 : RnI E M (.getfield 11001) nx ls (.ref 0 :: r) (K0, I, L) Q = Rn E M nx ls (.ref 4 :: r) (K0, I, L) Q := ri_gR rfl rfl rfl rfl rfl
theorem gf_1101125_106 : RnI E M (.getfield 1101125) nx ls (.ref 106 :: r) (K0, I, L) Q = Rn E M nx ls (.ref 120 :: r) (K0, I, L) Q := ri_gR rfl rfl rfl rfl rfl
theorem gf_110500_1 : RnI E M (.getfield 110500) nx ls (.ref 1 :: r) (K0, I, L) Q = Rn E M nx ls (.ref 2 :: r) (K0, I, L) Q := ri_gR rfl rfl rfl rfl rfl
theorem gf_1111126_106 : RnI E M (.getfield 1111126) nx ls (.ref 106 :: r) (K0, I, L) Q = Rn E M nx ls (.ref 121 :: r) (K0, I, L) Q := ri_gR rfl rfl rfl rfl rfl
theorem gf_1121128_106 : RnI E M (.getfield 1121128) nx ls (.ref 106 :: r) (K0, I, L) Q = Rn E M nx ls (.ref 122 :: r) (K0, I, L) Q := ri_gR rfl rfl rfl rfl rfl
theorem gf_1131117_106 : RnI E M (.getfield 1131117) nx ls (.ref 106 :: r) (K0, I, L) Q = Rn E M nx ls (.long (L 106 17) :: r) (K0, I, L) Q := ri_gL rfl rfl rfl rfl
theorem gf_1151106_106 : RnI E M (.getfield 1151106) nx ls (.ref 106 :: r) (K0, I, L) Q = Rn E M nx ls (.int (I 106 6) :: r) (K0, I, L) Q := ri_gI rfl rfl rfl rfl
theorem gf_1161111_106 : RnI E M (.getfield 1161111) nx ls (.ref 106 :: r) (K0, I, L) Q = Rn E M nx ls (.int (I 106 11) :: r) (K0, I, L) Q := ri_gI rfl rfl rfl rfl
theorem gf_1171107_106 : RnI E M (.getfield 1171107) nx ls (.ref 106 :: r) (K0, I, L) Q = Rn E M nx ls (.int (I 106 7) :: r) (K0, I, L) Q := ri_gI rfl rfl rfl rfl
theorem gf_1181115_106 : RnI E M (.getfield 1181115) nx ls (.ref 106 :: r) (K0, I, L) Q = Rn E M nx ls (.int (I 106 15) :: r) (K0, I, L) Q := ri_gI rfl rfl rfl rfl
theorem gf_1191118_106 : RnI E M (.getfield 1191118) nx ls (.ref 106 :: r) (K0, I, L) Q = Rn E M nx ls (.long (L 106 18) :: r) (K0, I, L) Q := ri_gL rfl rfl rfl rfl
theorem gf_1201108_106 : RnI E M (.getfield 1201108) nx ls (.ref 106 :: r) (K0, I, L) Q = Rn E M nx ls (.int (I 106 8) :: r) (K0, I, L) Q := ri_gI rfl rfl rfl rfl
theorem gf_120501_1 : RnI E M (.getfield 120501) nx ls (.ref 1 :: r) (K0, I, L) Q = Rn E M nx ls (.ref 3 :: r) (K0, I, L) Q := ri_gR rfl rfl rfl rfl rfl
theorem gf_1211110_106 : RnI E M (.getfield 1211110) nx ls (.ref 106 :: r) (K0, I, L) Q = Rn E M nx ls (.int (I 106 10) :: r) (K0, I, L) Q := ri_gI rfl rfl rfl rfl
theorem gf_1221114_106 : RnI E M (.getfield 1221114) nx ls (.ref 106 :: r) (K0, I, L) Q = Rn E M nx ls (.int (I 106 14) :: r) (K0, I, L) Q := ri_gI rfl rfl rfl rfl
theorem gf_1231109_106 : RnI E M (.getfield 1231109) nx ls (.ref 106 :: r) (K0, I, L) Q = Rn E M nx ls (.int (I 106 9) :: r) (K0, I, L) Q := ri_gI rfl rfl rfl rfl
theorem gf_1241127_106 : RnI E M (.getfield 1241127) nx ls (.ref 106 :: r) (K0, I, L) Q = Rn E M nx ls (.long (L 106 27) :: r) (K0, I, L) Q := ri_gL rfl rfl rfl rfl
theorem gf_1251101_106 : RnI E M (.getfield 1251101) nx ls (.ref 106 :: r) (K0, I, L) Q = Rn E M nx ls (.long (L 106 1) :: r) (K0, I, L) Q := ri_gL rfl rfl rfl rfl
theorem gf_130900_4 : RnI E M (.getfield 130900) nx ls (.ref 4 :: r) (K0, I, L) Q = Rn E M nx ls (.ref 5 :: r) (K0, I, L) Q := ri_gR rfl rfl rfl rfl rfl
theorem gf_130900_9 : RnI E M (.getfield 130900) nx ls (.ref 9 :: r) (K0, I, L) Q = Rn E M nx ls (.ref 10 :: r) (K0, I, L) Q := ri_gR rfl rfl rfl rfl rfl
theorem gf_140901_4 : RnI E M (.getfield 140901) nx ls (.ref 4 :: r) (K0, I, L) Q = Rn E M nx ls (.ref 6 :: r) (K0, I, L) Q := ri_gR rfl rfl rfl rfl rfl
theorem gf_140901_9 : RnI E M (.getfield 140901) nx ls (.ref 9 :: r) (K0, I, L) Q = Rn E M nx ls (.ref 11 :: r) (K0, I, L) Q := ri_gR rfl rfl rfl rfl rfl
theorem gf_150902_4 : RnI E M (.getfield 150902) nx ls (.ref 4 :: r) (K0, I, L) Q = Rn E M nx ls (.ref 7 :: r) (K0, I, L) Q := ri_gR rfl rfl rfl rfl rfl
theorem gf_150902_9 : RnI E M (.getfield 150902) nx ls (.ref 9 :: r) (K0, I, L) Q = Rn E M nx ls (.ref 12 :: r) (K0, I, L) Q := ri_gR rfl rfl rfl rfl rfl
theorem gf_160200_8 : RnI E M (.getfield 160200) nx ls (.ref 8 :: r) (K0, I, L) Q = Rn E M nx ls (.ref 9 :: r) (K0, I, L) Q := ri_gR rfl rfl rfl rfl rfl
theorem gf_170201_8 : RnI E M (.getfield 170201) nx ls (.ref 8 :: r) (K0, I, L) Q = Rn E M nx ls (.ref 13 :: r) (K0, I, L) Q := ri_gR rfl rfl rfl rfl rfl
theorem gf_180202_8 : RnI E M (.getfield 180202) nx ls (.ref 8 :: r) (K0, I, L) Q = Rn E M nx ls (.ref 39 :: r) (K0, I, L) Q := ri_gR rfl rfl rfl rfl rfl
theorem gf_190000_13 : RnI E M (.getfield 190000) nx ls (.ref 13 :: r) (K0, I, L) Q = Rn E M nx ls (.ref 14 :: r) (K0, I, L) Q := ri_gR rfl rfl rfl rfl rfl
theorem gf_190000_b {b : Nat} : RnI E M (.getfield 190000) nx ls (.ref (bk b) :: r) (K0, I, L) Q = Rn E M nx ls (.ref (bk b + 1) :: r) (K0, I, L) Q := ri_gR (K0_b b) rfl rfl rfl rfl
theorem gf_200607_t {j : Nat} : RnI E M (.getfield 200607) nx ls (.ref (thd 13 j) :: r) (K0, I, L) Q = Rn E M nx ls (.ref (thd 13 j + 1) :: r) (K0, I, L) Q := ri_gR (K0_t13 j) rfl rfl rfl rfl
theorem gf_200607_u {b j : Nat} : RnI E M (.getfield 200607) nx ls (.ref (thd (bk b) j) :: r) (K0, I, L) Q = Rn E M nx ls (.ref (thd (bk b) j + 1) :: r) (K0, I, L) Q := ri_gR (K0_tb b j) rfl rfl rfl rfl
theorem gf_21002_0 : RnI E M (.getfield 21002) nx ls (.ref 0 :: r) (K0, I, L) Q = Rn E M nx ls (.ref 8 :: r) (K0, I, L) Q := ri_gR rfl rfl rfl rfl rfl
theorem gf_210701_40 : RnI E M (.getfield 210701) nx ls (.ref 40 :: r) (K0, I, L) Q = Rn E M nx ls (.ref 41 :: r) (K0, I, L) Q := ri_gR rfl rfl rfl rfl rfl
theorem gf_220700_40 : RnI E M (.getfield 220700) nx ls (.ref 40 :: r) (K0, I, L) Q = Rn E M nx ls (.ref 9 :: r) (K0, I, L) Q := ri_gR rfl rfl rfl rfl rfl
theorem gf_230100_42 : RnI E M (.getfield 230100) nx ls (.ref 42 :: r) (K0, I, L) Q = Rn E M nx ls (.ref 8 :: r) (K0, I, L) Q := ri_gR rfl rfl rfl rfl rfl
theorem gf_240101_42 : RnI E M (.getfield 240101) nx ls (.ref 42 :: r) (K0, I, L) Q = Rn E M nx ls (.ref 40 :: r) (K0, I, L) Q := ri_gR rfl rfl rfl rfl rfl
theorem gf_250401_43 : RnI E M (.getfield 250401) nx ls (.ref 43 :: r) (K0, I, L) Q = Rn E M nx ls (.ref 44 :: r) (K0, I, L) Q := ri_gR rfl rfl rfl rfl rfl
theorem gf_260402_43 : RnI E M (.getfield 260402) nx ls (.ref 43 :: r) (K0, I, L) Q = Rn E M nx ls (.ref 45 :: r) (K0, I, L) Q := ri_gR rfl rfl rfl rfl rfl
theorem gf_270403_43 : RnI E M (.getfield 270403) nx ls (.ref 43 :: r) (K0, I, L) Q = Rn E M nx ls (.ref 46 :: r) (K0, I, L) Q := ri_gR rfl rfl rfl rfl rfl
theorem gf_280404_43 : RnI E M (.getfield 280404) nx ls (.ref 43 :: r) (K0, I, L) Q = Rn E M nx ls (.ref 47 :: r) (K0, I, L) Q := ri_gR rfl rfl rfl rfl rfl
theorem gf_290400_43 : RnI E M (.getfield 290400) nx ls (.ref 43 :: r) (K0, I, L) Q = Rn E M nx ls (.ref 8 :: r) (K0, I, L) Q := ri_gR rfl rfl rfl rfl rfl
theorem gf_300302_48 : RnI E M (.getfield 300302) nx ls (.ref 48 :: r) (K0, I, L) Q = Rn E M nx ls (.ref 49 :: r) (K0, I, L) Q := ri_gR rfl rfl rfl rfl rfl
theorem gf_30200_8 : RnI E M (.getfield 30200) nx ls (.ref 8 :: r) (K0, I, L) Q = Rn E M nx ls (.ref 9 :: r) (K0, I, L) Q := ri_gR rfl rfl rfl rfl rfl
theorem gf_310300_48 : RnI E M (.getfield 310300) nx ls (.ref 48 :: r) (K0, I, L) Q = Rn E M nx ls (.ref 8 :: r) (K0, I, L) Q := ri_gR rfl rfl rfl rfl rfl
theorem gf_320301_48 : RnI E M (.getfield 320301) nx ls (.ref 48 :: r) (K0, I, L) Q = Rn E M nx ls (.ref 40 :: r) (K0, I, L) Q := ri_gR rfl rfl rfl rfl rfl
theorem gf_330801_50 : RnI E M (.getfield 330801) nx ls (.ref 50 :: r) (K0, I, L) Q = Rn E M nx ls (.ref 51 :: r) (K0, I, L) Q := ri_gR rfl rfl rfl rfl rfl
theorem gf_340800_50 : RnI E M (.getfield 340800) nx ls (.ref 50 :: r) (K0, I, L) Q = Rn E M nx ls (.ref 8 :: r) (K0, I, L) Q := ri_gR rfl rfl rfl rfl rfl
theorem gf_350502_1 : RnI E M (.getfield 350502) nx ls (.ref 1 :: r) (K0, I, L) Q = Rn E M nx ls (.int (I 1 2) :: r) (K0, I, L) Q := ri_gI rfl rfl rfl rfl
theorem gf_360201_8 : RnI E M (.getfield 360201) nx ls (.ref 8 :: r) (K0, I, L) Q = Rn E M nx ls (.ref 13 :: r) (K0, I, L) Q := ri_gR rfl rfl rfl rfl rfl
theorem gf_370505_1 : RnI E M (.getfield 370505) nx ls (.ref 1 :: r) (K0, I, L) Q = Rn E M nx ls (.int (I 1 5) :: r) (K0, I, L) Q := ri_gI rfl rfl rfl rfl
theorem gf_380503_1 : RnI E M (.getfield 380503) nx ls (.ref 1 :: r) (K0, I, L) Q = Rn E M nx ls (.int (I 1 3) :: r) (K0, I, L) Q := ri_gI rfl rfl rfl rfl
theorem gf_390504_1 : RnI E M (.getfield 390504) nx ls (.ref 1 :: r) (K0, I, L) Q = Rn E M nx ls (.int (I 1 4) :: r) (K0, I, L) Q := ri_gI rfl rfl rfl rfl
theorem gf_400903_4 : RnI E M (.getfield 400903) nx ls (.ref 4 :: r) (K0, I, L) Q = Rn E M nx ls (.int (I 4 3) :: r) (K0, I, L) Q := ri_gI rfl rfl rfl rfl
theorem gf_400903_9 : RnI E M (.getfield 400903) nx ls (.ref 9 :: r) (K0, I, L) Q = Rn E M nx ls (.int (I 9 3) :: r) (K0, I, L) Q := ri_gI rfl rfl rfl rfl
theorem gf_41003_0 : RnI E M (.getfield 41003) nx ls (.ref 0 :: r) (K0, I, L) Q = Rn E M nx ls (.ref 40 :: r) (K0, I, L) Q := ri_gR rfl rfl rfl rfl rfl
theorem gf_410904_4 : RnI E M (.getfield 410904) nx ls (.ref 4 :: r) (K0, I, L) Q = Rn E M nx ls (.long (L 4 4) :: r) (K0, I, L) Q := ri_gL rfl rfl rfl rfl
theorem gf_410904_9 : RnI E M (.getfield 410904) nx ls (.ref 9 :: r) (K0, I, L) Q = Rn E M nx ls (.long (L 9 4) :: r) (K0, I, L) Q := ri_gL rfl rfl rfl rfl
theorem gf_420506_1 : RnI E M (.getfield 420506) nx ls (.ref 1 :: r) (K0, I, L) Q = Rn E M nx ls (.int (I 1 6) :: r) (K0, I, L) Q := ri_gI rfl rfl rfl rfl
theorem gf_430903_4 : RnI E M (.getfield 430903) nx ls (.ref 4 :: r) (K0, I, L) Q = Rn E M nx ls (.int (I 4 3) :: r) (K0, I, L) Q := ri_gI rfl rfl rfl rfl
theorem gf_430903_9 : RnI E M (.getfield 430903) nx ls (.ref 9 :: r) (K0, I, L) Q = Rn E M nx ls (.int (I 9 3) :: r) (K0, I, L) Q := ri_gI rfl rfl rfl rfl
theorem gf_440904_4 : RnI E M (.getfield 440904) nx ls (.ref 4 :: r) (K0, I, L) Q = Rn E M nx ls (.long (L 4 4) :: r) (K0, I, L) Q := ri_gL rfl rfl rfl rfl
theorem gf_440904_9 : RnI E M (.getfield 440904) nx ls (.ref 9 :: r) (K0, I, L) Q = Rn E M nx ls (.long (L 9 4) :: r) (K0, I, L) Q := ri_gL rfl rfl rfl rfl
theorem gf_450001_13 : RnI E M (.getfield 450001) nx ls (.ref 13 :: r) (K0, I, L) Q = Rn E M nx ls (.int (I 13 1) :: r) (K0, I, L) Q := ri_gI rfl rfl rfl rfl
theorem gf_450001_b {b : Nat} : RnI E M (.getfield 450001) nx ls (.ref (bk b) :: r) (K0, I, L) Q = Rn E M nx ls (.int (I (bk b) 1) :: r) (K0, I, L) Q := ri_gI (K0_b b) rfl rfl rfl
theorem gf_460702_40 : RnI E M (.getfield 460702) nx ls (.ref 40 :: r) (K0, I, L) Q = Rn E M nx ls (.long (L 40 2) :: r) (K0, I, L) Q := ri_gL rfl rfl rfl rfl
theorem gf_51004_0 : RnI E M (.getfield 51004) nx ls (.ref 0 :: r) (K0, I, L) Q = Rn E M nx ls (.ref 42 :: r) (K0, I, L) Q := ri_gR rfl rfl rfl rfl rfl
theorem gf_530606_t {j : Nat} : RnI E M (.getfield 530606) nx ls (.ref (thd 13 j) :: r) (K0, I, L) Q = Rn E M nx ls (.int (I (thd 13 j) 6) :: r) (K0, I, L) Q := ri_gI (K0_t13 j) rfl rfl rfl
theorem gf_530606_u {b j : Nat} : RnI E M (.getfield 530606) nx ls (.ref (thd (bk b) j) :: r) (K0, I, L) Q = Rn E M nx ls (.int (I (thd (bk b) j) 6) :: r) (K0, I, L) Q := ri_gI (K0_tb b j) rfl rfl rfl
theorem gf_540600_t {j : Nat} : RnI E M (.getfield 540600) nx ls (.ref (thd 13 j) :: r) (K0, I, L) Q = Rn E M nx ls (.int (I (thd 13 j) 0) :: r) (K0, I, L) Q := ri_gI (K0_t13 j) rfl rfl rfl
theorem gf_540600_u {b j : Nat} : RnI E M (.getfield 540600) nx ls (.ref (thd (bk b) j) :: r) (K0, I, L) Q = Rn E M nx ls (.int (I (thd (bk b) j) 0) :: r) (K0, I, L) Q := ri_gI (K0_tb b j) rfl rfl rfl
theorem gf_550601_t {j : Nat} : RnI E M (.getfield 550601) nx ls (.ref (thd 13 j) :: r) (K0, I, L) Q = Rn E M nx ls (.int (I (thd 13 j) 1) :: r) (K0, I, L) Q := ri_gI (K0_t13 j) rfl rfl rfl
theorem gf_550601_u {b j : Nat} : RnI E M (.getfield 550601) nx ls (.ref (thd (bk b) j) :: r) (K0, I, L) Q = Rn E M nx ls (.int (I (thd (bk b) j) 1) :: r) (K0, I, L) Q := ri_gI (K0_tb b j) rfl rfl rfl
theorem gf_560602_t {j : Nat} : RnI E M (.getfield 560602) nx ls (.ref (thd 13 j) :: r) (K0, I, L) Q = Rn E M nx ls (.int (I (thd 13 j) 2) :: r) (K0, I, L) Q := ri_gI (K0_t13 j) rfl rfl rfl
theorem gf_560602_u {b j : Nat} : RnI E M (.getfield 560602) nx ls (.ref (thd (bk b) j) :: r) (K0, I, L) Q = Rn E M nx ls (.int (I (thd (bk b) j) 2) :: r) (K0, I, L) Q := ri_gI (K0_tb b j) rfl rfl rfl
theorem gf_570603_t {j : Nat} : RnI E M (.getfield 570603) nx ls (.ref (thd 13 j) :: r) (K0, I, L) Q = Rn E M nx ls (.int (I (thd 13 j) 3) :: r) (K0, I, L) Q := ri_gI (K0_t13 j) rfl rfl rfl
theorem gf_570603_u {b j : Nat} : RnI E M (.getfield 570603) nx ls (.ref (thd (bk b) j) :: r) (K0, I, L) Q = Rn E M nx ls (.int (I (thd (bk b) j) 3) :: r) (K0, I, L) Q := ri_gI (K0_tb b j) rfl rfl rfl
theorem gf_580604_t {j : Nat} : RnI E M (.getfield 580604) nx ls (.ref (thd 13 j) :: r) (K0, I, L) Q = Rn E M nx ls (.int (I (thd 13 j) 4) :: r) (K0, I, L) Q := ri_gI (K0_t13 j) rfl rfl rfl
theorem gf_580604_u {b j : Nat} : RnI E M (.getfield 580604) nx ls (.ref (thd (bk b) j) :: r) (K0, I, L) Q = Rn E M nx ls (.int (I (thd (bk b) j) 4) :: r) (K0, I, L) Q := ri_gI (K0_tb b j) rfl rfl rfl
theorem gf_590605_t {j : Nat} : RnI E M (.getfield 590605) nx ls (.ref (thd 13 j) :: r) (K0, I, L) Q = Rn E M nx ls (.int (I (thd 13 j) 5) :: r) (K0, I, L) Q := ri_gI (K0_t13 j) rfl rfl rfl
theorem gf_590605_u {b j : Nat} : RnI E M (.getfield 590605) nx ls (.ref (thd (bk b) j) :: r) (K0, I, L) Q = Rn E M nx ls (.int (I (thd (bk b) j) 5) :: r) (K0, I, L) Q := ri_gI (K0_tb b j) rfl rfl rfl
theorem gf_600605_t {j : Nat} : RnI E M (.getfield 600605) nx ls (.ref (thd 13 j) :: r) (K0, I, L) Q = Rn E M nx ls (.int (I (thd 13 j) 5) :: r) (K0, I, L) Q := ri_gI (K0_t13 j) rfl rfl rfl
theorem gf_600605_u {b j : Nat} : RnI E M (.getfield 600605) nx ls (.ref (thd (bk b) j) :: r) (K0, I, L) Q = Rn E M nx ls (.int (I (thd (bk b) j) 5) :: r) (K0, I, L) Q := ri_gI (K0_tb b j) rfl rfl rfl
theorem gf_61005_0 : RnI E M (.getfield 61005) nx ls (.ref 0 :: r) (K0, I, L) Q = Rn E M nx ls (.ref 43 :: r) (K0, I, L) Q := ri_gR rfl rfl rfl rfl rfl
theorem gf_610603_t {j : Nat} : RnI E M (.getfield 610603) nx ls (.ref (thd 13 j) :: r) (K0, I, L) Q = Rn E M nx ls (.int (I (thd 13 j) 3) :: r) (K0, I, L) Q := ri_gI (K0_t13 j) rfl rfl rfl
theorem gf_610603_u {b j : Nat} : RnI E M (.getfield 610603) nx ls (.ref (thd (bk b) j) :: r) (K0, I, L) Q = Rn E M nx ls (.int (I (thd (bk b) j) 3) :: r) (K0, I, L) Q := ri_gI (K0_tb b j) rfl rfl rfl
theorem gf_620600_t {j : Nat} : RnI E M (.getfield 620600) nx ls (.ref (thd 13 j) :: r) (K0, I, L) Q = Rn E M nx ls (.int (I (thd 13 j) 0) :: r) (K0, I, L) Q := ri_gI (K0_t13 j) rfl rfl rfl
theorem gf_620600_u {b j : Nat} : RnI E M (.getfield 620600) nx ls (.ref (thd (bk b) j) :: r) (K0, I, L) Q = Rn E M nx ls (.int (I (thd (bk b) j) 0) :: r) (K0, I, L) Q := ri_gI (K0_tb b j) rfl rfl rfl
theorem gf_630601_t {j : Nat} : RnI E M (.getfield 630601) nx ls (.ref (thd 13 j) :: r) (K0, I, L) Q = Rn E M nx ls (.int (I (thd 13 j) 1) :: r) (K0, I, L) Q := ri_gI (K0_t13 j) rfl rfl rfl
theorem gf_630601_u {b j : Nat} : RnI E M (.getfield 630601) nx ls (.ref (thd (bk b) j) :: r) (K0, I, L) Q = Rn E M nx ls (.int (I (thd (bk b) j) 1) :: r) (K0, I, L) Q := ri_gI (K0_tb b j) rfl rfl rfl
theorem gf_640602_t {j : Nat} : RnI E M (.getfield 640602) nx ls (.ref (thd 13 j) :: r) (K0, I, L) Q = Rn E M nx ls (.int (I (thd 13 j) 2) :: r) (K0, I, L) Q := ri_gI (K0_t13 j) rfl rfl rfl
theorem gf_640602_u {b j : Nat} : RnI E M (.getfield 640602) nx ls (.ref (thd (bk b) j) :: r) (K0, I, L) Q = Rn E M nx ls (.int (I (thd (bk b) j) 2) :: r) (K0, I, L) Q := ri_gI (K0_tb b j) rfl rfl rfl
theorem gf_650201_8 : RnI E M (.getfield 650201) nx ls (.ref 8 :: r) (K0, I, L) Q = Rn E M nx ls (.ref 13 :: r) (K0, I, L) Q := ri_gR rfl rfl rfl rfl rfl
theorem gf_660200_8 : RnI E M (.getfield 660200) nx ls (.ref 8 :: r) (K0, I, L) Q = Rn E M nx ls (.ref 9 :: r) (K0, I, L) Q := ri_gR rfl rfl rfl rfl rfl
theorem gf_670600_t {j : Nat} : RnI E M (.getfield 670600) nx ls (.ref (thd 13 j) :: r) (K0, I, L) Q = Rn E M nx ls (.int (I (thd 13 j) 0) :: r) (K0, I, L) Q := ri_gI (K0_t13 j) rfl rfl rfl
theorem gf_670600_u {b j : Nat} : RnI E M (.getfield 670600) nx ls (.ref (thd (bk b) j) :: r) (K0, I, L) Q = Rn E M nx ls (.int (I (thd (bk b) j) 0) :: r) (K0, I, L) Q := ri_gI (K0_tb b j) rfl rfl rfl
theorem gf_680604_t {j : Nat} : RnI E M (.getfield 680604) nx ls (.ref (thd 13 j) :: r) (K0, I, L) Q = Rn E M nx ls (.int (I (thd 13 j) 4) :: r) (K0, I, L) Q := ri_gI (K0_t13 j) rfl rfl rfl
theorem gf_680604_u {b j : Nat} : RnI E M (.getfield 680604) nx ls (.ref (thd (bk b) j) :: r) (K0, I, L) Q = Rn E M nx ls (.int (I (thd (bk b) j) 4) :: r) (K0, I, L) Q := ri_gI (K0_tb b j) rfl rfl rfl
theorem gf_690102_42 : RnI E M (.getfield 690102) nx ls (.ref 42 :: r) (K0, I, L) Q = Rn E M nx ls (.long (L 42 2) :: r) (K0, I, L) Q := ri_gL rfl rfl rfl rfl
theorem gf_700103_42 : RnI E M (.getfield 700103) nx ls (.ref 42 :: r) (K0, I, L) Q = Rn E M nx ls (.int (I 42 3) :: r) (K0, I, L) Q := ri_gI rfl rfl rfl rfl
theorem gf_71006_0 : RnI E M (.getfield 71006) nx ls (.ref 0 :: r) (K0, I, L) Q = Rn E M nx ls (.ref 48 :: r) (K0, I, L) Q := ri_gR rfl rfl rfl rfl rfl
theorem gf_710104_42 : RnI E M (.getfield 710104) nx ls (.ref 42 :: r) (K0, I, L) Q = Rn E M nx ls (.int (I 42 4) :: r) (K0, I, L) Q := ri_gI rfl rfl rfl rfl
theorem gf_720102_42 : RnI E M (.getfield 720102) nx ls (.ref 42 :: r) (K0, I, L) Q = Rn E M nx ls (.long (L 42 2) :: r) (K0, I, L) Q := ri_gL rfl rfl rfl rfl
theorem gf_730103_42 : RnI E M (.getfield 730103) nx ls (.ref 42 :: r) (K0, I, L) Q = Rn E M nx ls (.int (I 42 3) :: r) (K0, I, L) Q := ri_gI rfl rfl rfl rfl
theorem gf_740104_42 : RnI E M (.getfield 740104) nx ls (.ref 42 :: r) (K0, I, L) Q = Rn E M nx ls (.int (I 42 4) :: r) (K0, I, L) Q := ri_gI rfl rfl rfl rfl
theorem gf_750201_8 : RnI E M (.getfield 750201) nx ls (.ref 8 :: r) (K0, I, L) Q = Rn E M nx ls (.ref 13 :: r) (K0, I, L) Q := ri_gR rfl rfl rfl rfl rfl
theorem gf_760303_48 : RnI E M (.getfield 760303) nx ls (.ref 48 :: r) (K0, I, L) Q = Rn E M nx ls (.long (L 48 3) :: r) (K0, I, L) Q := ri_gL rfl rfl rfl rfl
theorem gf_770200_8 : RnI E M (.getfield 770200) nx ls (.ref 8 :: r) (K0, I, L) Q = Rn E M nx ls (.ref 9 :: r) (K0, I, L) Q := ri_gR rfl rfl rfl rfl rfl
theorem gf_780201_8 : RnI E M (.getfield 780201) nx ls (.ref 8 :: r) (K0, I, L) Q = Rn E M nx ls (.ref 13 :: r) (K0, I, L) Q := ri_gR rfl rfl rfl rfl rfl
theorem gf_790600_t {j : Nat} : RnI E M (.getfield 790600) nx ls (.ref (thd 13 j) :: r) (K0, I, L) Q = Rn E M nx ls (.int (I (thd 13 j) 0) :: r) (K0, I, L) Q := ri_gI (K0_t13 j) rfl rfl rfl
theorem gf_790600_u {b j : Nat} : RnI E M (.getfield 790600) nx ls (.ref (thd (bk b) j) :: r) (K0, I, L) Q = Rn E M nx ls (.int (I (thd (bk b) j) 0) :: r) (K0, I, L) Q := ri_gI (K0_tb b j) rfl rfl rfl
theorem gf_800903_4 : RnI E M (.getfield 800903) nx ls (.ref 4 :: r) (K0, I, L) Q = Rn E M nx ls (.int (I 4 3) :: r) (K0, I, L) Q := ri_gI rfl rfl rfl rfl
theorem gf_800903_9 : RnI E M (.getfield 800903) nx ls (.ref 9 :: r) (K0, I, L) Q = Rn E M nx ls (.int (I 9 3) :: r) (K0, I, L) Q := ri_gI rfl rfl rfl rfl
theorem gf_81007_0 : RnI E M (.getfield 81007) nx ls (.ref 0 :: r) (K0, I, L) Q = Rn E M nx ls (.ref 50 :: r) (K0, I, L) Q := ri_gR rfl rfl rfl rfl rfl
theorem gf_810802_50 : RnI E M (.getfield 810802) nx ls (.ref 50 :: r) (K0, I, L) Q = Rn E M nx ls (.int (I 50 2) :: r) (K0, I, L) Q := ri_gI rfl rfl rfl rfl
theorem gf_820803_50 : RnI E M (.getfield 820803) nx ls (.ref 50 :: r) (K0, I, L) Q = Rn E M nx ls (.int (I 50 3) :: r) (K0, I, L) Q := ri_gI rfl rfl rfl rfl
theorem gf_830804_50 : RnI E M (.getfield 830804) nx ls (.ref 50 :: r) (K0, I, L) Q = Rn E M nx ls (.int (I 50 4) :: r) (K0, I, L) Q := ri_gI rfl rfl rfl rfl
theorem gf_840200_8 : RnI E M (.getfield 840200) nx ls (.ref 8 :: r) (K0, I, L) Q = Rn E M nx ls (.ref 9 :: r) (K0, I, L) Q := ri_gR rfl rfl rfl rfl rfl
theorem gf_850903_4 : RnI E M (.getfield 850903) nx ls (.ref 4 :: r) (K0, I, L) Q = Rn E M nx ls (.int (I 4 3) :: r) (K0, I, L) Q := ri_gI rfl rfl rfl rfl
theorem gf_850903_9 : RnI E M (.getfield 850903) nx ls (.ref 9 :: r) (K0, I, L) Q = Rn E M nx ls (.int (I 9 3) :: r) (K0, I, L) Q := ri_gI rfl rfl rfl rfl
theorem gf_860804_50 : RnI E M (.getfield 860804) nx ls (.ref 50 :: r) (K0, I, L) Q = Rn E M nx ls (.int (I 50 4) :: r) (K0, I, L) Q := ri_gI rfl rfl rfl rfl
theorem gf_890606_t {j : Nat} : RnI E M (.getfield 890606) nx ls (.ref (thd 13 j) :: r) (K0, I, L) Q = Rn E M nx ls (.int (I (thd 13 j) 6) :: r) (K0, I, L) Q := ri_gI (K0_t13 j) rfl rfl rfl
theorem gf_890606_u {b j : Nat} : RnI E M (.getfield 890606) nx ls (.ref (thd (bk b) j) :: r) (K0, I, L) Q = Rn E M nx ls (.int (I (thd (bk b) j) 6) :: r) (K0, I, L) Q := ri_gI (K0_tb b j) rfl rfl rfl
theorem gf_901010_0 : RnI E M (.getfield 901010) nx ls (.ref 0 :: r) (K0, I, L) Q = Rn E M nx ls (.long (L 0 10) :: r) (K0, I, L) Q := ri_gL rfl rfl rfl rfl
theorem gf_910001_13 : RnI E M (.getfield 910001) nx ls (.ref 13 :: r) (K0, I, L) Q = Rn E M nx ls (.int (I 13 1) :: r) (K0, I, L) Q := ri_gI rfl rfl rfl rfl
theorem gf_910001_b {b : Nat} : RnI E M (.getfield 910001) nx ls (.ref (bk b) :: r) (K0, I, L) Q = Rn E M nx ls (.int (I (bk b) 1) :: r) (K0, I, L) Q := ri_gI (K0_b b) rfl rfl rfl
theorem gf_91008_0 : RnI E M (.getfield 91008) nx ls (.ref 0 :: r) (K0, I, L) Q = Rn E M nx ls (.ref 52 :: r) (K0, I, L) Q := ri_gR rfl rfl rfl rfl rfl
theorem gf_920600_t {j : Nat} : RnI E M (.getfield 920600) nx ls (.ref (thd 13 j) :: r) (K0, I, L) Q = Rn E M nx ls (.int (I (thd 13 j) 0) :: r) (K0, I, L) Q := ri_gI (K0_t13 j) rfl rfl rfl
theorem gf_920600_u {b j : Nat} : RnI E M (.getfield 920600) nx ls (.ref (thd (bk b) j) :: r) (K0, I, L) Q = Rn E M nx ls (.int (I (thd (bk b) j) 0) :: r) (K0, I, L) Q := ri_gI (K0_tb b j) rfl rfl rfl
theorem gf_930601_t {j : Nat} : RnI E M (.getfield 930601) nx ls (.ref (thd 13 j) :: r) (K0, I, L) Q = Rn E M nx ls (.int (I (thd 13 j) 1) :: r) (K0, I, L) Q := ri_gI (K0_t13 j) rfl rfl rfl
theorem gf_930601_u {b j : Nat} : RnI E M (.getfield 930601) nx ls (.ref (thd (bk b) j) :: r) (K0, I, L) Q = Rn E M nx ls (.int (I (thd (bk b) j) 1) :: r) (K0, I, L) Q := ri_gI (K0_tb b j) rfl rfl rfl
theorem gf_940602_t {j : Nat} : RnI E M (.getfield 940602) nx ls (.ref (thd 13 j) :: r) (K0, I, L) Q = Rn E M nx ls (.int (I (thd 13 j) 2) :: r) (K0, I, L) Q := ri_gI (K0_t13 j) rfl rfl rfl
theorem gf_940602_u {b j : Nat} : RnI E M (.getfield 940602) nx ls (.ref (thd (bk b) j) :: r) (K0, I, L) Q = Rn E M nx ls (.int (I (thd (bk b) j) 2) :: r) (K0, I, L) Q := ri_gI (K0_tb b j) rfl rfl rfl
theorem gf_950604_t {j : Nat} : RnI E M (.getfield 950604) nx ls (.ref (thd 13 j) :: r) (K0, I, L) Q = Rn E M nx ls (.int (I (thd 13 j) 4) :: r) (K0, I, L) Q := ri_gI (K0_t13 j) rfl rfl rfl
theorem gf_950604_u {b j : Nat} : RnI E M (.getfield 950604) nx ls (.ref (thd (bk b) j) :: r) (K0, I, L) Q = Rn E M nx ls (.int (I (thd (bk b) j) 4) :: r) (K0, I, L) Q := ri_gI (K0_tb b j) rfl rfl rfl
theorem gf_960502_1 : RnI E M (.getfield 960502) nx ls (.ref 1 :: r) (K0, I, L) Q = Rn E M nx ls (.int (I 1 2) :: r) (K0, I, L) Q := ri_gI rfl rfl rfl rfl
theorem gf_971102_106 : RnI E M (.getfield 971102) nx ls (.ref 106 :: r) (K0, I, L) Q = Rn E M nx ls (.ref 107 :: r) (K0, I, L) Q := ri_gR rfl rfl rfl rfl rfl
theorem gf_981103_106 : RnI E M (.getfield 981103) nx ls (.ref 106 :: r) (K0, I, L) Q = Rn E M nx ls (.ref 108 :: r) (K0, I, L) Q := ri_gR rfl rfl rfl rfl rfl
theorem gf_991104_106 : RnI E M (.getfield 991104) nx ls (.ref 106 :: r) (K0, I, L) Q = Rn E M nx ls (.ref 109 :: r) (K0, I, L) Q := ri_gR rfl rfl rfl rfl rfl
theorem pf_1131117_106 {x : Int64} : RnI E M (.putfield 1131117) nx ls (.long x :: .ref 106 :: r) (K0, I, L) Q = Rn E M nx ls r (K0, I, u2 L 106 17 x) Q := ri_pL rfl rfl rfl rfl
theorem pf_1141100_106 {x : Int32} : RnI E M (.putfield 1141100) nx ls (.int x :: .ref 106 :: r) (K0, I, L) Q = Rn E M nx ls r (K0, u2 I 106 0 x, L) Q := ri_pI rfl rfl rfl rfl
theorem pf_1151106_106 {x : Int32} : RnI E M (.putfield 1151106) nx ls (.int x :: .ref 106 :: r) (K0, I, L) Q = Rn E M nx ls r (K0, u2 I 106 6 x, L) Q := ri_pI rfl rfl rfl rfl
theorem pf_1161111_106 {x : Int32} : RnI E M (.putfield 1161111) nx ls (.int x :: .ref 106 :: r) (K0, I, L) Q = Rn E M nx ls r (K0, u2 I 106 11 x, L) Q := ri_pI rfl rfl rfl rfl
theorem pf_1171107_106 {x : Int32} : RnI E M (.putfield 1171107) nx ls (.int x :: .ref 106 :: r) (K0, I, L) Q = Rn E M nx ls r (K0, u2 I 106 7 x, L) Q := ri_pI rfl rfl rfl rfl
theorem pf_1181115_106 {x : Int32} : RnI E M (.putfield 1181115) nx ls (.int x :: .ref 106 :: r) (K0, I, L) Q = Rn E M nx ls r (K0, u2 I 106 15 x, L) Q := ri_pI rfl rfl rfl rfl
theorem pf_1191118_106 {x : Int64} : RnI E M (.putfield 1191118) nx ls (.long x :: .ref 106 :: r) (K0, I, L) Q = Rn E M nx ls r (K0, I, u2 L 106 18 x) Q := ri_pL rfl rfl rfl rfl
theorem pf_1201108_106 {x : Int32} : RnI E M (.putfield 1201108) nx ls (.int x :: .ref 106 :: r) (K0, I, L) Q = Rn E M nx ls r (K0, u2 I 106 8 x, L) Q := ri_pI rfl rfl rfl rfl
theorem pf_1211110_106 {x : Int32} : RnI E M (.putfield 1211110) nx ls (.int x :: .ref 106 :: r) (K0, I, L) Q = Rn E M nx ls r (K0, u2 I 106 10 x, L) Q := ri_pI rfl rfl rfl rfl
theorem pf_1221114_106 {x : Int32} : RnI E M (.putfield 1221114) nx ls (.int x :: .ref 106 :: r) (K0, I, L) Q = Rn E M nx ls r (K0, u2 I 106 14 x, L) Q := ri_pI rfl rfl rfl rfl
theorem pf_1231109_106 {x : Int32} : RnI E M (.putfield 1231109) nx ls (.int x :: .ref 106 :: r) (K0, I, L) Q = Rn E M nx ls r (K0, u2 I 106 9 x, L) Q := ri_pI rfl rfl rfl rfl
theorem pf_1241127_106 {x : Int64} : RnI E M (.putfield 1241127) nx ls (.long x :: .ref 106 :: r) (K0, I, L) Q = Rn E M nx ls r (K0, I, u2 L 106 27 x) Q := ri_pL rfl rfl rfl rfl
theorem pf_1251101_106 {x : Int64} : RnI E M (.putfield 1251101) nx ls (.long x :: .ref 106 :: r) (K0, I, L) Q = Rn E M nx ls r (K0, I, u2 L 106 1 x) Q := ri_pL rfl rfl rfl rfl
theorem pf_350502_1 {x : Int32} : RnI E M (.putfield 350502) nx ls (.int x :: .ref 1 :: r) (K0, I, L) Q = Rn E M nx ls r (K0, u2 I 1 2 x, L) Q := ri_pI rfl rfl rfl rfl
theorem pf_370505_1 {x : Int32} : RnI E M (.putfield 370505) nx ls (.int x :: .ref 1 :: r) (K0, I, L) Q = Rn E M nx ls r (K0, u2 I 1 5 x, L) Q := ri_pI rfl rfl rfl rfl
theorem pf_380503_1 {x : Int32} : RnI E M (.putfield 380503) nx ls (.int x :: .ref 1 :: r) (K0, I, L) Q = Rn E M nx ls r (K0, u2 I 1 3 x, L) Q := ri_pI rfl rfl rfl rfl
theorem pf_390504_1 {x : Int32} : RnI E M (.putfield 390504) nx ls (.int x :: .ref 1 :: r) (K0, I, L) Q = Rn E M nx ls r (K0, u2 I 1 4 x, L) Q := ri_pI rfl rfl rfl rfl
theorem pf_400903_4 {x : Int32} : RnI E M (.putfield 400903) nx ls (.int x :: .ref 4 :: r) (K0, I, L) Q = Rn E M nx ls r (K0, u2 I 4 3 x, L) Q := ri_pI rfl rfl rfl rfl
theorem pf_400903_9 {x : Int32} : RnI E M (.putfield 400903) nx ls (.int x :: .ref 9 :: r) (K0, I, L) Q = Rn E M nx ls r (K0, u2 I 9 3 x, L) Q := ri_pI rfl rfl rfl rfl
theorem pf_410904_4 {x : Int64} : RnI E M (.putfield 410904) nx ls (.long x :: .ref 4 :: r) (K0, I, L) Q = Rn E M nx ls r (K0, I, u2 L 4 4 x) Q := ri_pL rfl rfl rfl rfl
theorem pf_410904_9 {x : Int64} : RnI E M (.putfield 410904) nx ls (.long x :: .ref 9 :: r) (K0, I, L) Q = Rn E M nx ls r (K0, I, u2 L 9 4 x) Q := ri_pL rfl rfl rfl rfl
theorem pf_420506_1 {x : Int32} : RnI E M (.putfield 420506) nx ls (.int x :: .ref 1 :: r) (K0, I, L) Q = Rn E M nx ls r (K0, u2 I 1 6 x, L) Q := ri_pI rfl rfl rfl rfl
theorem pf_440904_4 {x : Int64} : RnI E M (.putfield 440904) nx ls (.long x :: .ref 4 :: r) (K0, I, L) Q = Rn E M nx ls r (K0, I, u2 L 4 4 x) Q := ri_pL rfl rfl rfl rfl
theorem pf_440904_9 {x : Int64} : RnI E M (.putfield 440904) nx ls (.long x :: .ref 9 :: r) (K0, I, L) Q = Rn E M nx ls r (K0, I, u2 L 9 4 x) Q := ri_pL rfl rfl rfl rfl
theorem pf_450001_13 {x : Int32} : RnI E M (.putfield 450001) nx ls (.int x :: .ref 13 :: r) (K0, I, L) Q = Rn E M nx ls r (K0, u2 I 13 1 x, L) Q := ri_pI rfl rfl rfl rfl
theorem pf_450001_b {b : Nat} {x : Int32} : RnI E M (.putfield 450001) nx ls (.int x :: .ref (bk b) :: r) (K0, I, L) Q = Rn E M nx ls r (K0, u2 I (bk b) 1 x, L) Q := ri_pI (K0_b b) rfl rfl rfl
theorem pf_460702_40 {x : Int64} : RnI E M (.putfield 460702) nx ls (.long x :: .ref 40 :: r) (K0, I, L) Q = Rn E M nx ls r (K0, I, u2 L 40 2 x) Q := ri_pL rfl rfl rfl rfl
theorem pf_470600_t {j : Nat} {x : Int32} : RnI E M (.putfield 470600) nx ls (.int x :: .ref (thd 13 j) :: r) (K0, I, L) Q = Rn E M nx ls r (K0, u2 I (thd 13 j) 0 x, L) Q := ri_pI (K0_t13 j) rfl rfl rfl
theorem pf_470600_u {b j : Nat} {x : Int32} : RnI E M (.putfield 470600) nx ls (.int x :: .ref (thd (bk b) j) :: r) (K0, I, L) Q = Rn E M nx ls r (K0, u2 I (thd (bk b) j) 0 x, L) Q := ri_pI (K0_tb b j) rfl rfl rfl
theorem pf_480601_t {j : Nat} {x : Int32} : RnI E M (.putfield 480601) nx ls (.int x :: .ref (thd 13 j) :: r) (K0, I, L) Q = Rn E M nx ls r (K0, u2 I (thd 13 j) 1 x, L) Q := ri_pI (K0_t13 j) rfl rfl rfl
theorem pf_480601_u {b j : Nat} {x : Int32} : RnI E M (.putfield 480601) nx ls (.int x :: .ref (thd (bk b) j) :: r) (K0, I, L) Q = Rn E M nx ls r (K0, u2 I (thd (bk b) j) 1 x, L) Q := ri_pI (K0_tb b j) rfl rfl rfl
theorem pf_490602_t {j : Nat} {x : Int32} : RnI E M (.putfield 490602) nx ls (.int x :: .ref (thd 13 j) :: r) (K0, I, L) Q = Rn E M nx ls r (K0, u2 I (thd 13 j) 2 x, L) Q := ri_pI (K0_t13 j) rfl rfl rfl
theorem pf_490602_u {b j : Nat} {x : Int32} : RnI E M (.putfield 490602) nx ls (.int x :: .ref (thd (bk b) j) :: r) (K0, I, L) Q = Rn E M nx ls r (K0, u2 I (thd (bk b) j) 2 x, L) Q := ri_pI (K0_tb b j) rfl rfl rfl
theorem pf_500603_t {j : Nat} {x : Int32} : RnI E M (.putfield 500603) nx ls (.int x :: .ref (thd 13 j) :: r) (K0, I, L) Q = Rn E M nx ls r (K0, u2 I (thd 13 j) 3 x, L) Q := ri_pI (K0_t13 j) rfl rfl rfl
theorem pf_500603_u {b j : Nat} {x : Int32} : RnI E M (.putfield 500603) nx ls (.int x :: .ref (thd (bk b) j) :: r) (K0, I, L) Q = Rn E M nx ls r (K0, u2 I (thd (bk b) j) 3 x, L) Q := ri_pI (K0_tb b j) rfl rfl rfl
theorem pf_510604_t {j : Nat} {x : Int32} : RnI E M (.putfield 510604) nx ls (.int x :: .ref (thd 13 j) :: r) (K0, I, L) Q = Rn E M nx ls r (K0, u2 I (thd 13 j) 4 x, L) Q := ri_pI (K0_t13 j) rfl rfl rfl
theorem pf_510604_u {b j : Nat} {x : Int32} : RnI E M (.putfield 510604) nx ls (.int x :: .ref (thd (bk b) j) :: r) (K0, I, L) Q = Rn E M nx ls r (K0, u2 I (thd (bk b) j) 4 x, L) Q := ri_pI (K0_tb b j) rfl rfl rfl
theorem pf_520605_t {j : Nat} {x : Int32} : RnI E M (.putfield 520605) nx ls (.int x :: .ref (thd 13 j) :: r) (K0, I, L) Q = Rn E M nx ls r (K0, u2 I (thd 13 j) 5 x, L) Q := ri_pI (K0_t13 j) rfl rfl rfl
theorem pf_520605_u {b j : Nat} {x : Int32} : RnI E M (.putfield 520605) nx ls (.int x :: .ref (thd (bk b) j) :: r) (K0, I, L) Q = Rn E M nx ls r (K0, u2 I (thd (bk b) j) 5 x, L) Q := ri_pI (K0_tb b j) rfl rfl rfl
theorem pf_530606_t {j : Nat} {x : Int32} : RnI E M (.putfield 530606) nx ls (.int x :: .ref (thd 13 j) :: r) (K0, I, L) Q = Rn E M nx ls r (K0, u2 I (thd 13 j) 6 x, L) Q := ri_pI (K0_t13 j) rfl rfl rfl
theorem pf_530606_u {b j : Nat} {x : Int32} : RnI E M (.putfield 530606) nx ls (.int x :: .ref (thd (bk b) j) :: r) (K0, I, L) Q = Rn E M nx ls r (K0, u2 I (thd (bk b) j) 6 x, L) Q := ri_pI (K0_tb b j) rfl rfl rfl
theorem pf_600605_t {j : Nat} {x : Int32} : RnI E M (.putfield 600605) nx ls (.int x :: .ref (thd 13 j) :: r) (K0, I, L) Q = Rn E M nx ls r (K0, u2 I (thd 13 j) 5 x, L) Q := ri_pI (K0_t13 j) rfl rfl rfl
theorem pf_600605_u {b j : Nat} {x : Int32} : RnI E M (.putfield 600605) nx ls (.int x :: .ref (thd (bk b) j) :: r) (K0, I, L) Q = Rn E M nx ls r (K0, u2 I (thd (bk b) j) 5 x, L) Q := ri_pI (K0_tb b j) rfl rfl rfl
theorem pf_610603_t {j : Nat} {x : Int32} : RnI E M (.putfield 610603) nx ls (.int x :: .ref (thd 13 j) :: r) (K0, I, L) Q = Rn E M nx ls r (K0, u2 I (thd 13 j) 3 x, L) Q := ri_pI (K0_t13 j) rfl rfl rfl
theorem pf_610603_u {b j : Nat} {x : Int32} : RnI E M (.putfield 610603) nx ls (.int x :: .ref (thd (bk b) j) :: r) (K0, I, L) Q = Rn E M nx ls r (K0, u2 I (thd (bk b) j) 3 x, L) Q := ri_pI (K0_tb b j) rfl rfl rfl
theorem pf_720102_42 {x : Int64} : RnI E M (.putfield 720102) nx ls (.long x :: .ref 42 :: r) (K0, I, L) Q = Rn E M nx ls r (K0, I, u2 L 42 2 x) Q := ri_pL rfl rfl rfl rfl
theorem pf_730103_42 {x : Int32} : RnI E M (.putfield 730103) nx ls (.int x :: .ref 42 :: r) (K0, I, L) Q = Rn E M nx ls r (K0, u2 I 42 3 x, L) Q := ri_pI rfl rfl rfl rfl
theorem pf_740104_42 {x : Int32} : RnI E M (.putfield 740104) nx ls (.int x :: .ref 42 :: r) (K0, I, L) Q = Rn E M nx ls r (K0, u2 I 42 4 x, L) Q := ri_pI rfl rfl rfl rfl
theorem pf_760303_48 {x : Int64} : RnI E M (.putfield 760303) nx ls (.long x :: .ref 48 :: r) (K0, I, L) Q = Rn E M nx ls r (K0, I, u2 L 48 3 x) Q := ri_pL rfl rfl rfl rfl
theorem pf_860804_50 {x : Int32} : RnI E M (.putfield 860804) nx ls (.int x :: .ref 50 :: r) (K0, I, L) Q = Rn E M nx ls r (K0, u2 I 50 4 x, L) Q := ri_pI rfl rfl rfl rfl
theorem pf_870802_50 {x : Int32} : RnI E M (.putfield 870802) nx ls (.int x :: .ref 50 :: r) (K0, I, L) Q = Rn E M nx ls r (K0, u2 I 50 2 x, L) Q := ri_pI rfl rfl rfl rfl
theorem pf_880803_50 {x : Int32} : RnI E M (.putfield 880803) nx ls (.int x :: .ref 50 :: r) (K0, I, L) Q = Rn E M nx ls r (K0, u2 I 50 3 x, L) Q := ri_pI rfl rfl rfl rfl
theorem pf_890606_t {j : Nat} {x : Int32} : RnI E M (.putfield 890606) nx ls (.int x :: .ref (thd 13 j) :: r) (K0, I, L) Q = Rn E M nx ls r (K0, u2 I (thd 13 j) 6 x, L) Q := ri_pI (K0_t13 j) rfl rfl rfl
theorem pf_890606_u {b j : Nat} {x : Int32} : RnI E M (.putfield 890606) nx ls (.int x :: .ref (thd (bk b) j) :: r) (K0, I, L) Q = Rn E M nx ls r (K0, u2 I (thd (bk b) j) 6 x, L) Q := ri_pI (K0_tb b j) rfl rfl rfl
theorem pf_901010_0 {x : Int64} : RnI E M (.putfield 901010) nx ls (.long x :: .ref 0 :: r) (K0, I, L) Q = Rn E M nx ls r (K0, I, u2 L 0 10 x) Q := ri_pL rfl rfl rfl rfl
theorem pf_920600_t {j : Nat} {x : Int32} : RnI E M (.putfield 920600) nx ls (.int x :: .ref (thd 13 j) :: r) (K0, I, L) Q = Rn E M nx ls r (K0, u2 I (thd 13 j) 0 x, L) Q := ri_pI (K0_t13 j) rfl rfl rfl
theorem pf_920600_u {b j : Nat} {x : Int32} : RnI E M (.putfield 920600) nx ls (.int x :: .ref (thd (bk b) j) :: r) (K0, I, L) Q = Rn E M nx ls r (K0, u2 I (thd (bk b) j) 0 x, L) Q := ri_pI (K0_tb b j) rfl rfl rfl
theorem pf_930601_t {j : Nat} {x : Int32} : RnI E M (.putfield 930601) nx ls (.int x :: .ref (thd 13 j) :: r) (K0, I, L) Q = Rn E M nx ls r (K0, u2 I (thd 13 j) 1 x, L) Q := ri_pI (K0_t13 j) rfl rfl rfl
theorem pf_930601_u {b j : Nat} {x : Int32} : RnI E M (.putfield 930601) nx ls (.int x :: .ref (thd (bk b) j) :: r) (K0, I, L) Q = Rn E M nx ls r (K0, u2 I (thd (bk b) j) 1 x, L) Q := ri_pI (K0_tb b j) rfl rfl rfl
theorem pf_940602_t {j : Nat} {x : Int32} : RnI E M (.putfield 940602) nx ls (.int x :: .ref (thd 13 j) :: r) (K0, I, L) Q = Rn E M nx ls r (K0, u2 I (thd 13 j) 2 x, L) Q := ri_pI (K0_t13 j) rfl rfl rfl
theorem pf_940602_u {b j : Nat} {x : Int32} : RnI E M (.putfield 940602) nx ls (.int x :: .ref (thd (bk b) j) :: r) (K0, I, L) Q = Rn E M nx ls r (K0, u2 I (thd (bk b) j) 2 x, L) Q := ri_pI (K0_tb b j) rfl rfl rfl
theorem pf_950604_t {j : Nat} {x : Int32} : RnI E M (.putfield 950604) nx ls (.int x :: .ref (thd 13 j) :: r) (K0, I, L) Q = Rn E M nx ls r (K0, u2 I (thd 13 j) 4 x, L) Q := ri_pI (K0_t13 j) rfl rfl rfl
theorem pf_950604_u {b j : Nat} {x : Int32} : RnI E M (.putfield 950604) nx ls (.int x :: .ref (thd (bk b) j) :: r) (K0, I, L) Q = Rn E M nx ls r (K0, u2 I (thd (bk b) j) 4 x, L) Q := ri_pI (K0_tb b j) rfl rfl rfl
theorem al_2 {j : Int32} : RnI E M .baload nx ls (.int j :: .ref 2 :: r) (K0, I, L) Q = if vinB j 400 = true then Rn E M nx ls (.int (I 2 j.toNatClampNeg) :: r) (K0, I, L) Q else False := ri_baT rfl (Or.inl rfl)
theorem as_2 {j : Int32} {x : Int32} : RnI E M .bastore nx ls (.int x :: .int j :: .ref 2 :: r) (K0, I, L) Q = if vinB j 400 = true then Rn E M nx ls r (K0, u2 I 2 j.toNatClampNeg (vp_nar .byte x), L) Q else False := ri_bsB rfl
theorem al_3 {j : Int32} : RnI E M .iaload nx ls (.int j :: .ref 3 :: r) (K0, I, L) Q = if vinB j 3 = true then Rn E M nx ls (.int (I 3 j.toNatClampNeg) :: r) (K0, I, L) Q else False := ri_iaT rfl
theorem as_3 {j : Int32} {x : Int32} : RnI E M .iastore nx ls (.int x :: .int j :: .ref 3 :: r) (K0, I, L) Q = if vinB j 3 = true then Rn E M nx ls r (K0, u2 I 3 j.toNatClampNeg x, L) Q else False := ri_isT rfl
theorem al_5 {j : Int32} : RnI E M .laload nx ls (.int j :: .ref 5 :: r) (K0, I, L) Q = if vinB j 4 = true then Rn E M nx ls (.long (L 5 j.toNatClampNeg) :: r) (K0, I, L) Q else False := ri_laT rfl
theorem as_5 {j : Int32} {x : Int64} : RnI E M .lastore nx ls (.long x :: .int j :: .ref 5 :: r) (K0, I, L) Q = if vinB j 4 = true then Rn E M nx ls r (K0, I, u2 L 5 j.toNatClampNeg x) Q else False := ri_lsT rfl
theorem al_6 {j : Int32} : RnI E M .iaload nx ls (.int j :: .ref 6 :: r) (K0, I, L) Q = if vinB j 8 = true then Rn E M nx ls (.int (I 6 j.toNatClampNeg) :: r) (K0, I, L) Q else False := ri_iaT rfl
theorem as_6 {j : Int32} {x : Int32} : RnI E M .iastore nx ls (.int x :: .int j :: .ref 6 :: r) (K0, I, L) Q = if vinB j 8 = true then Rn E M nx ls r (K0, u2 I 6 j.toNatClampNeg x, L) Q else False := ri_isT rfl
theorem al_7 {j : Int32} : RnI E M .laload nx ls (.int j :: .ref 7 :: r) (K0, I, L) Q = if vinB j 8 = true then Rn E M nx ls (.long (L 7 j.toNatClampNeg) :: r) (K0, I, L) Q else False := ri_laT rfl
theorem as_7 {j : Int32} {x : Int64} : RnI E M .lastore nx ls (.long x :: .int j :: .ref 7 :: r) (K0, I, L) Q = if vinB j 8 = true then Rn E M nx ls r (K0, I, u2 L 7 j.toNatClampNeg x) Q else False := ri_lsT rfl
theorem al_10 {j : Int32} : RnI E M .laload nx ls (.int j :: .ref 10 :: r) (K0, I, L) Q = if vinB j 4 = true then Rn E M nx ls (.long (L 10 j.toNatClampNeg) :: r) (K0, I, L) Q else False := ri_laT rfl
theorem as_10 {j : Int32} {x : Int64} : RnI E M .lastore nx ls (.long x :: .int j :: .ref 10 :: r) (K0, I, L) Q = if vinB j 4 = true then Rn E M nx ls r (K0, I, u2 L 10 j.toNatClampNeg x) Q else False := ri_lsT rfl
theorem al_11 {j : Int32} : RnI E M .iaload nx ls (.int j :: .ref 11 :: r) (K0, I, L) Q = if vinB j 8 = true then Rn E M nx ls (.int (I 11 j.toNatClampNeg) :: r) (K0, I, L) Q else False := ri_iaT rfl
theorem as_11 {j : Int32} {x : Int32} : RnI E M .iastore nx ls (.int x :: .int j :: .ref 11 :: r) (K0, I, L) Q = if vinB j 8 = true then Rn E M nx ls r (K0, u2 I 11 j.toNatClampNeg x, L) Q else False := ri_isT rfl
theorem al_12 {j : Int32} : RnI E M .laload nx ls (.int j :: .ref 12 :: r) (K0, I, L) Q = if vinB j 8 = true then Rn E M nx ls (.long (L 12 j.toNatClampNeg) :: r) (K0, I, L) Q else False := ri_laT rfl
theorem as_12 {j : Int32} {x : Int64} : RnI E M .lastore nx ls (.long x :: .int j :: .ref 12 :: r) (K0, I, L) Q = if vinB j 8 = true then Rn E M nx ls r (K0, I, u2 L 12 j.toNatClampNeg x) Q else False := ri_lsT rfl
theorem al_39 {j : Int32} : RnI E M .iaload nx ls (.int j :: .ref 39 :: r) (K0, I, L) Q = if vinB j 5 = true then Rn E M nx ls (.int (I 39 j.toNatClampNeg) :: r) (K0, I, L) Q else False := ri_iaT rfl
theorem as_39 {j : Int32} {x : Int32} : RnI E M .iastore nx ls (.int x :: .int j :: .ref 39 :: r) (K0, I, L) Q = if vinB j 5 = true then Rn E M nx ls r (K0, u2 I 39 j.toNatClampNeg x, L) Q else False := ri_isT rfl
theorem al_41 {j : Int32} : RnI E M .iaload nx ls (.int j :: .ref 41 :: r) (K0, I, L) Q = if vinB j 2304 = true then Rn E M nx ls (.int (I 41 j.toNatClampNeg) :: r) (K0, I, L) Q else False := ri_iaT rfl
theorem as_41 {j : Int32} {x : Int32} : RnI E M .iastore nx ls (.int x :: .int j :: .ref 41 :: r) (K0, I, L) Q = if vinB j 2304 = true then Rn E M nx ls r (K0, u2 I 41 j.toNatClampNeg x, L) Q else False := ri_isT rfl
theorem al_44 {j : Int32} : RnI E M .laload nx ls (.int j :: .ref 44 :: r) (K0, I, L) Q = if vinB j 12 = true then Rn E M nx ls (.long (L 44 j.toNatClampNeg) :: r) (K0, I, L) Q else False := ri_laT rfl
theorem as_44 {j : Int32} {x : Int64} : RnI E M .lastore nx ls (.long x :: .int j :: .ref 44 :: r) (K0, I, L) Q = if vinB j 12 = true then Rn E M nx ls r (K0, I, u2 L 44 j.toNatClampNeg x) Q else False := ri_lsT rfl
theorem al_45 {j : Int32} : RnI E M .iaload nx ls (.int j :: .ref 45 :: r) (K0, I, L) Q = if vinB j 12 = true then Rn E M nx ls (.int (I 45 j.toNatClampNeg) :: r) (K0, I, L) Q else False := ri_iaT rfl
theorem as_45 {j : Int32} {x : Int32} : RnI E M .iastore nx ls (.int x :: .int j :: .ref 45 :: r) (K0, I, L) Q = if vinB j 12 = true then Rn E M nx ls r (K0, u2 I 45 j.toNatClampNeg x, L) Q else False := ri_isT rfl
theorem al_46 {j : Int32} : RnI E M .iaload nx ls (.int j :: .ref 46 :: r) (K0, I, L) Q = if vinB j 12 = true then Rn E M nx ls (.int (I 46 j.toNatClampNeg) :: r) (K0, I, L) Q else False := ri_iaT rfl
theorem as_46 {j : Int32} {x : Int32} : RnI E M .iastore nx ls (.int x :: .int j :: .ref 46 :: r) (K0, I, L) Q = if vinB j 12 = true then Rn E M nx ls r (K0, u2 I 46 j.toNatClampNeg x, L) Q else False := ri_isT rfl
theorem al_47 {j : Int32} : RnI E M .iaload nx ls (.int j :: .ref 47 :: r) (K0, I, L) Q = if vinB j 60 = true then Rn E M nx ls (.int (I 47 j.toNatClampNeg) :: r) (K0, I, L) Q else False := ri_iaT rfl
theorem as_47 {j : Int32} {x : Int32} : RnI E M .iastore nx ls (.int x :: .int j :: .ref 47 :: r) (K0, I, L) Q = if vinB j 60 = true then Rn E M nx ls r (K0, u2 I 47 j.toNatClampNeg x, L) Q else False := ri_isT rfl
theorem al_49 {j : Int32} : RnI E M .iaload nx ls (.int j :: .ref 49 :: r) (K0, I, L) Q = if vinB j 3721 = true then Rn E M nx ls (.int (I 49 j.toNatClampNeg) :: r) (K0, I, L) Q else False := ri_iaT rfl
theorem as_49 {j : Int32} {x : Int32} : RnI E M .iastore nx ls (.int x :: .int j :: .ref 49 :: r) (K0, I, L) Q = if vinB j 3721 = true then Rn E M nx ls r (K0, u2 I 49 j.toNatClampNeg x, L) Q else False := ri_isT rfl
theorem al_51 {j : Int32} : RnI E M .iaload nx ls (.int j :: .ref 51 :: r) (K0, I, L) Q = if vinB j 480 = true then Rn E M nx ls (.int (I 51 j.toNatClampNeg) :: r) (K0, I, L) Q else False := ri_iaT rfl
theorem as_51 {j : Int32} {x : Int32} : RnI E M .iastore nx ls (.int x :: .int j :: .ref 51 :: r) (K0, I, L) Q = if vinB j 480 = true then Rn E M nx ls r (K0, u2 I 51 j.toNatClampNeg x, L) Q else False := ri_isT rfl
theorem al_53 {j : Int32} : RnI E M .baload nx ls (.int j :: .ref 53 :: r) (K0, I, L) Q = if vinB j 2 = true then Rn E M nx ls (.int (I 53 j.toNatClampNeg) :: r) (K0, I, L) Q else False := ri_baT rfl (Or.inr rfl)
theorem as_53 {j : Int32} {x : Int32} : RnI E M .bastore nx ls (.int x :: .int j :: .ref 53 :: r) (K0, I, L) Q = if vinB j 2 = true then Rn E M nx ls r (K0, u2 I 53 j.toNatClampNeg (vp_nar .boolean x), L) Q else False := ri_bsZ rfl
theorem al_107 {j : Int32} : RnI E M .iaload nx ls (.int j :: .ref 107 :: r) (K0, I, L) Q = if vinB j 145 = true then Rn E M nx ls (.int (I 107 j.toNatClampNeg) :: r) (K0, I, L) Q else False := ri_iaT rfl
theorem as_107 {j : Int32} {x : Int32} : RnI E M .iastore nx ls (.int x :: .int j :: .ref 107 :: r) (K0, I, L) Q = if vinB j 145 = true then Rn E M nx ls r (K0, u2 I 107 j.toNatClampNeg x, L) Q else False := ri_isT rfl
theorem al_108 {j : Int32} : RnI E M .iaload nx ls (.int j :: .ref 108 :: r) (K0, I, L) Q = if vinB j 290 = true then Rn E M nx ls (.int (I 108 j.toNatClampNeg) :: r) (K0, I, L) Q else False := ri_iaT rfl
theorem as_108 {j : Int32} {x : Int32} : RnI E M .iastore nx ls (.int x :: .int j :: .ref 108 :: r) (K0, I, L) Q = if vinB j 290 = true then Rn E M nx ls r (K0, u2 I 108 j.toNatClampNeg x, L) Q else False := ri_isT rfl
theorem al_109 {j : Int32} : RnI E M .baload nx ls (.int j :: .ref 109 :: r) (K0, I, L) Q = if vinB j 2 = true then Rn E M nx ls (.int (I 109 j.toNatClampNeg) :: r) (K0, I, L) Q else False := ri_baT rfl (Or.inr rfl)
theorem as_109 {j : Int32} {x : Int32} : RnI E M .bastore nx ls (.int x :: .int j :: .ref 109 :: r) (K0, I, L) Q = if vinB j 2 = true then Rn E M nx ls r (K0, u2 I 109 j.toNatClampNeg (vp_nar .boolean x), L) Q else False := ri_bsZ rfl
theorem al_110 {j : Int32} : RnI E M .iaload nx ls (.int j :: .ref 110 :: r) (K0, I, L) Q = if vinB j 400 = true then Rn E M nx ls (.int (I 110 j.toNatClampNeg) :: r) (K0, I, L) Q else False := ri_iaT rfl
theorem as_110 {j : Int32} {x : Int32} : RnI E M .iastore nx ls (.int x :: .int j :: .ref 110 :: r) (K0, I, L) Q = if vinB j 400 = true then Rn E M nx ls r (K0, u2 I 110 j.toNatClampNeg x, L) Q else False := ri_isT rfl
theorem al_111 {j : Int32} : RnI E M .iaload nx ls (.int j :: .ref 111 :: r) (K0, I, L) Q = if vinB j 96 = true then Rn E M nx ls (.int (I 111 j.toNatClampNeg) :: r) (K0, I, L) Q else False := ri_iaT rfl
theorem as_111 {j : Int32} {x : Int32} : RnI E M .iastore nx ls (.int x :: .int j :: .ref 111 :: r) (K0, I, L) Q = if vinB j 96 = true then Rn E M nx ls r (K0, u2 I 111 j.toNatClampNeg x, L) Q else False := ri_isT rfl
theorem al_112 {j : Int32} : RnI E M .iaload nx ls (.int j :: .ref 112 :: r) (K0, I, L) Q = if vinB j 16 = true then Rn E M nx ls (.int (I 112 j.toNatClampNeg) :: r) (K0, I, L) Q else False := ri_iaT rfl
theorem as_112 {j : Int32} {x : Int32} : RnI E M .iastore nx ls (.int x :: .int j :: .ref 112 :: r) (K0, I, L) Q = if vinB j 16 = true then Rn E M nx ls r (K0, u2 I 112 j.toNatClampNeg x, L) Q else False := ri_isT rfl
theorem al_113 {j : Int32} : RnI E M .laload nx ls (.int j :: .ref 113 :: r) (K0, I, L) Q = if vinB j 16 = true then Rn E M nx ls (.long (L 113 j.toNatClampNeg) :: r) (K0, I, L) Q else False := ri_laT rfl
theorem as_113 {j : Int32} {x : Int64} : RnI E M .lastore nx ls (.long x :: .int j :: .ref 113 :: r) (K0, I, L) Q = if vinB j 16 = true then Rn E M nx ls r (K0, I, u2 L 113 j.toNatClampNeg x) Q else False := ri_lsT rfl
theorem al_114 {j : Int32} : RnI E M .iaload nx ls (.int j :: .ref 114 :: r) (K0, I, L) Q = if vinB j 5 = true then Rn E M nx ls (.int (I 114 j.toNatClampNeg) :: r) (K0, I, L) Q else False := ri_iaT rfl
theorem as_114 {j : Int32} {x : Int32} : RnI E M .iastore nx ls (.int x :: .int j :: .ref 114 :: r) (K0, I, L) Q = if vinB j 5 = true then Rn E M nx ls r (K0, u2 I 114 j.toNatClampNeg x, L) Q else False := ri_isT rfl
theorem al_115 {j : Int32} : RnI E M .iaload nx ls (.int j :: .ref 115 :: r) (K0, I, L) Q = if vinB j 48 = true then Rn E M nx ls (.int (I 115 j.toNatClampNeg) :: r) (K0, I, L) Q else False := ri_iaT rfl
theorem as_115 {j : Int32} {x : Int32} : RnI E M .iastore nx ls (.int x :: .int j :: .ref 115 :: r) (K0, I, L) Q = if vinB j 48 = true then Rn E M nx ls r (K0, u2 I 115 j.toNatClampNeg x, L) Q else False := ri_isT rfl
theorem al_116 {j : Int32} : RnI E M .baload nx ls (.int j :: .ref 116 :: r) (K0, I, L) Q = if vinB j 48 = true then Rn E M nx ls (.int (I 116 j.toNatClampNeg) :: r) (K0, I, L) Q else False := ri_baT rfl (Or.inr rfl)
theorem as_116 {j : Int32} {x : Int32} : RnI E M .bastore nx ls (.int x :: .int j :: .ref 116 :: r) (K0, I, L) Q = if vinB j 48 = true then Rn E M nx ls r (K0, u2 I 116 j.toNatClampNeg (vp_nar .boolean x), L) Q else False := ri_bsZ rfl
theorem al_117 {j : Int32} : RnI E M .baload nx ls (.int j :: .ref 117 :: r) (K0, I, L) Q = if vinB j 48 = true then Rn E M nx ls (.int (I 117 j.toNatClampNeg) :: r) (K0, I, L) Q else False := ri_baT rfl (Or.inr rfl)
theorem as_117 {j : Int32} {x : Int32} : RnI E M .bastore nx ls (.int x :: .int j :: .ref 117 :: r) (K0, I, L) Q = if vinB j 48 = true then Rn E M nx ls r (K0, u2 I 117 j.toNatClampNeg (vp_nar .boolean x), L) Q else False := ri_bsZ rfl
theorem al_118 {j : Int32} : RnI E M .iaload nx ls (.int j :: .ref 118 :: r) (K0, I, L) Q = if vinB j 48 = true then Rn E M nx ls (.int (I 118 j.toNatClampNeg) :: r) (K0, I, L) Q else False := ri_iaT rfl
theorem as_118 {j : Int32} {x : Int32} : RnI E M .iastore nx ls (.int x :: .int j :: .ref 118 :: r) (K0, I, L) Q = if vinB j 48 = true then Rn E M nx ls r (K0, u2 I 118 j.toNatClampNeg x, L) Q else False := ri_isT rfl
theorem al_119 {j : Int32} : RnI E M .laload nx ls (.int j :: .ref 119 :: r) (K0, I, L) Q = if vinB j 12 = true then Rn E M nx ls (.long (L 119 j.toNatClampNeg) :: r) (K0, I, L) Q else False := ri_laT rfl
theorem as_119 {j : Int32} {x : Int64} : RnI E M .lastore nx ls (.long x :: .int j :: .ref 119 :: r) (K0, I, L) Q = if vinB j 12 = true then Rn E M nx ls r (K0, I, u2 L 119 j.toNatClampNeg x) Q else False := ri_lsT rfl
theorem al_120 {j : Int32} : RnI E M .laload nx ls (.int j :: .ref 120 :: r) (K0, I, L) Q = if vinB j 4096 = true then Rn E M nx ls (.long (L 120 j.toNatClampNeg) :: r) (K0, I, L) Q else False := ri_laT rfl
theorem as_120 {j : Int32} {x : Int64} : RnI E M .lastore nx ls (.long x :: .int j :: .ref 120 :: r) (K0, I, L) Q = if vinB j 4096 = true then Rn E M nx ls r (K0, I, u2 L 120 j.toNatClampNeg x) Q else False := ri_lsT rfl
theorem al_121 {j : Int32} : RnI E M .iaload nx ls (.int j :: .ref 121 :: r) (K0, I, L) Q = if vinB j 3904 = true then Rn E M nx ls (.int (I 121 j.toNatClampNeg) :: r) (K0, I, L) Q else False := ri_iaT rfl
theorem as_121 {j : Int32} {x : Int32} : RnI E M .iastore nx ls (.int x :: .int j :: .ref 121 :: r) (K0, I, L) Q = if vinB j 3904 = true then Rn E M nx ls r (K0, u2 I 121 j.toNatClampNeg x, L) Q else False := ri_isT rfl
theorem al_122 {j : Int32} : RnI E M .laload nx ls (.int j :: .ref 122 :: r) (K0, I, L) Q = if vinB j 8 = true then Rn E M nx ls (.long (L 122 j.toNatClampNeg) :: r) (K0, I, L) Q else False := ri_laT rfl
theorem as_122 {j : Int32} {x : Int64} : RnI E M .lastore nx ls (.long x :: .int j :: .ref 122 :: r) (K0, I, L) Q = if vinB j 8 = true then Rn E M nx ls r (K0, I, u2 L 122 j.toNatClampNeg x) Q else False := ri_lsT rfl
theorem al_c {b : Nat} {j : Int32} : RnI E M .iaload nx ls (.int j :: .ref (thd 13 b + 1) :: r) (K0, I, L) Q = if vinB j 5 = true then Rn E M nx ls (.int (I (thd 13 b + 1) j.toNatClampNeg) :: r) (K0, I, L) Q else False := ri_iaT (K0_c13 b)
theorem as_c {b : Nat} {j : Int32} {x : Int32} : RnI E M .iastore nx ls (.int x :: .int j :: .ref (thd 13 b + 1) :: r) (K0, I, L) Q = if vinB j 5 = true then Rn E M nx ls r (K0, u2 I (thd 13 b + 1) j.toNatClampNeg x, L) Q else False := ri_isT (K0_c13 b)
theorem al_d {b c : Nat} {j : Int32} : RnI E M .iaload nx ls (.int j :: .ref (thd (bk b) c + 1) :: r) (K0, I, L) Q = if vinB j 5 = true then Rn E M nx ls (.int (I (thd (bk b) c + 1) j.toNatClampNeg) :: r) (K0, I, L) Q else False := ri_iaT (K0_cb b c)
theorem as_d {b c : Nat} {j : Int32} {x : Int32} : RnI E M .iastore nx ls (.int x :: .int j :: .ref (thd (bk b) c + 1) :: r) (K0, I, L) Q = if vinB j 5 = true then Rn E M nx ls r (K0, u2 I (thd (bk b) c + 1) j.toNatClampNeg x, L) Q else False := ri_isT (K0_cb b c)
theorem t13_get : ∀ i : Nat, i < 12 → ([16, 18, 20, 22, 24, 26, 28, 30, 32, 34, 36, 38] : List Nat).getD i 0 = 13 + 2 + 2 * (i % 12) + 1 := by decide
theorem t54_get : ∀ i : Nat, i < 12 → ([57, 59, 61, 63, 65, 67, 69, 71, 73, 75, 77, 79] : List Nat).getD i 0 = 54 + 2 + 2 * (i % 12) + 1 := by decide
theorem t80_get : ∀ i : Nat, i < 12 → ([83, 85, 87, 89, 91, 93, 95, 97, 99, 101, 103, 105] : List Nat).getD i 0 = 80 + 2 + 2 * (i % 12) + 1 := by decide
theorem vin_lt {j : Int32} {n : Nat} (h : vinB j n = true) : j.toNatClampNeg < n := by
  have h2 := of_decide_eq_true h
  unfold Int32.toNatClampNeg
  omega
theorem al_14 {j : Int32} : RnI E M .aaload nx ls (.int j :: .ref 14 :: r) (K0, I, L) Q = if vinB j 12 = true then Rn E M nx ls (.ref (thd 13 j.toNatClampNeg) :: r) (K0, I, L) Q else False := ri_aaT rfl (Or.inl rfl) (fun z => t13_get _ (vin_lt z))
theorem al_bk {b : Nat} {j : Int32} : RnI E M .aaload nx ls (.int j :: .ref (bk b + 1) :: r) (K0, I, L) Q = if vinB j 12 = true then Rn E M nx ls (.ref (thd (bk b) j.toNatClampNeg) :: r) (K0, I, L) Q else False := ri_aaT (K0_ba b) (Or.inl rfl) (fun z => by
  unfold thd bk
  by_cases y : b % 2 = 0
  · rw [if_pos y, if_pos y]
    exact t54_get _ (vin_lt z)
  · rw [if_neg y, if_neg y]
    exact t80_get _ (vin_lt z))
theorem im_get : ∀ i : Nat, i < 2 → ([55, 81] : List Nat).getD i 0 = bk i + 1 := by decide
theorem al_52 {j : Int32} : RnI E M .aaload nx ls (.int j :: .ref 52 :: r) (K0, I, L) Q = if vinB j 2 = true then Rn E M nx ls (.ref (bk j.toNatClampNeg) :: r) (K0, I, L) Q else False := ri_aaT rfl (Or.inr rfl) (fun z => im_get _ (vin_lt z))
theorem al_x0 {j : Int32} : RnI E M .iaload nx ls (.int j :: .ref 1000000 :: r) h Q = if vinB j (E 0).1 = true then Rn E M nx ls (.int ((E 0).2 j.toNatClampNeg) :: r) h Q else False := ri_iaE (a := 0) (by decide)
theorem al_x1 {j : Int32} : RnI E M .iaload nx ls (.int j :: .ref 1000001 :: r) h Q = if vinB j (E 1).1 = true then Rn E M nx ls (.int ((E 1).2 j.toNatClampNeg) :: r) h Q else False := ri_iaE (a := 1) (by decide)
theorem al_x2 {j : Int32} : RnI E M .iaload nx ls (.int j :: .ref 1000002 :: r) h Q = if vinB j (E 2).1 = true then Rn E M nx ls (.int ((E 2).2 j.toNatClampNeg) :: r) h Q else False := ri_iaE (a := 2) (by decide)
theorem al_x3 {j : Int32} : RnI E M .iaload nx ls (.int j :: .ref 1000003 :: r) h Q = if vinB j (E 3).1 = true then Rn E M nx ls (.int ((E 3).2 j.toNatClampNeg) :: r) h Q else False := ri_iaE (a := 3) (by decide)
theorem ln_x0 : RnI E M .arraylength nx ls (.ref 1000000 :: r) h Q = Rn E M nx ls (.int (Int32.ofNat (E 0).1) :: r) h Q := ri_lenE (a := 0) (by decide)
theorem ln_3 : RnI E M .arraylength nx ls (.ref 3 :: r) (K0, I, L) Q = Rn E M nx ls (.int 3 :: r) (K0, I, L) Q := ri_lenT rfl (by decide) rfl
theorem ln_5 : RnI E M .arraylength nx ls (.ref 5 :: r) (K0, I, L) Q = Rn E M nx ls (.int 4 :: r) (K0, I, L) Q := ri_lenT rfl (by decide) rfl
theorem ln_7 : RnI E M .arraylength nx ls (.ref 7 :: r) (K0, I, L) Q = Rn E M nx ls (.int 8 :: r) (K0, I, L) Q := ri_lenT rfl (by decide) rfl
theorem ln_41 : RnI E M .arraylength nx ls (.ref 41 :: r) (K0, I, L) Q = Rn E M nx ls (.int 2304 :: r) (K0, I, L) Q := ri_lenT rfl (by decide) rfl
theorem ln_45 : RnI E M .arraylength nx ls (.ref 45 :: r) (K0, I, L) Q = Rn E M nx ls (.int 12 :: r) (K0, I, L) Q := ri_lenT rfl (by decide) rfl
theorem cp_5 {n : Nat} (hn : n % 10 = 0) (hc : cs r ≤ 8) : RnI E M (.invokedynamic n) nx ls (.int 4 :: .int 0 :: .ref 10 :: .int 0 :: .ref 5 :: r) (K0, I, L) Q = Rn E M nx ls r (K0, I, u1 L 10 (va_cpy (L 5) (L 10) 0 0 4)) Q := ri_cpL (x := 0) (y := 0) (z := 4) hn rfl rfl rfl rfl rfl (by decide) (by decide) hc
theorem cp_6 {n : Nat} (hn : n % 10 = 0) (hc : cs r ≤ 8) : RnI E M (.invokedynamic n) nx ls (.int 8 :: .int 0 :: .ref 11 :: .int 0 :: .ref 6 :: r) (K0, I, L) Q = Rn E M nx ls r (K0, u1 I 11 (va_cpy (I 6) (I 11) 0 0 8), L) Q := ri_cpI (x := 0) (y := 0) (z := 8) hn rfl rfl rfl rfl rfl (by decide) (by decide) hc
theorem cp_7 {n : Nat} (hn : n % 10 = 0) (hc : cs r ≤ 8) : RnI E M (.invokedynamic n) nx ls (.int 8 :: .int 0 :: .ref 12 :: .int 0 :: .ref 7 :: r) (K0, I, L) Q = Rn E M nx ls r (K0, I, u1 L 12 (va_cpy (L 7) (L 12) 0 0 8)) Q := ri_cpL (x := 0) (y := 0) (z := 8) hn rfl rfl rfl rfl rfl (by decide) (by decide) hc
theorem cp_t {b j i : Nat} {n : Nat} (hn : n % 10 = 0) (hc : cs r ≤ 8) : RnI E M (.invokedynamic n) nx ls (.int 5 :: .int 0 :: .ref (thd 13 j + 1) :: .int 0 :: .ref (thd (bk b) i + 1) :: r) (K0, I, L) Q = Rn E M nx ls r (K0, u1 I (thd 13 j + 1) (va_cpy (I (thd (bk b) i + 1)) (I (thd 13 j + 1)) 0 0 5), L) Q := ri_cpI (x := 0) (y := 0) (z := 5) hn (K0_cb b i) (K0_c13 j) rfl rfl rfl (by decide) (by decide) hc
theorem cp_u {b j i : Nat} {n : Nat} (hn : n % 10 = 0) (hc : cs r ≤ 8) : RnI E M (.invokedynamic n) nx ls (.int 5 :: .int 0 :: .ref (thd (bk b) i + 1) :: .int 0 :: .ref (thd 13 j + 1) :: r) (K0, I, L) Q = Rn E M nx ls r (K0, u1 I (thd (bk b) i + 1) (va_cpy (I (thd 13 j + 1)) (I (thd (bk b) i + 1)) 0 0 5), L) Q := ri_cpI (x := 0) (y := 0) (z := 5) hn (K0_c13 j) (K0_cb b i) rfl rfl rfl (by decide) (by decide) hc
theorem sl_0 {n : Nat} (hn : n % 10 = 2) (hc : cs r ≤ 8) : RnI E M (.invokedynamic n) nx ls (.ref 1000010 :: r) h Q = Rn E M nx ls (.int 4 :: r) h Q := ri_slen (i := 0) hn (by decide) hc
theorem sc_0 {n : Nat} {j : Int32} (hn : n % 10 = 3) (hc : cs r ≤ 8) : RnI E M (.invokedynamic n) nx ls (.int j :: .ref 1000010 :: r) h Q = if vinB j 4 = true then Rn E M nx ls (.int (([112, 97, 116, 104] : List Int32).getD j.toNatClampNeg 0) :: r) h Q else False := ri_sch (i := 0) hn (by decide) hc
theorem sl_1 {n : Nat} (hn : n % 10 = 2) (hc : cs r ≤ 8) : RnI E M (.invokedynamic n) nx ls (.ref 1000011 :: r) h Q = Rn E M nx ls (.int 5 :: r) h Q := ri_slen (i := 1) hn (by decide) hc
theorem sc_1 {n : Nat} {j : Int32} (hn : n % 10 = 3) (hc : cs r ≤ 8) : RnI E M (.invokedynamic n) nx ls (.int j :: .ref 1000011 :: r) h Q = if vinB j 5 = true then Rn E M nx ls (.int (([115, 119, 97, 109, 112] : List Int32).getD j.toNatClampNeg 0) :: r) h Q else False := ri_sch (i := 1) hn (by decide) hc
theorem sl_2 {n : Nat} (hn : n % 10 = 2) (hc : cs r ≤ 8) : RnI E M (.invokedynamic n) nx ls (.ref 1000012 :: r) h Q = Rn E M nx ls (.int 4 :: r) h Q := ri_slen (i := 2) hn (by decide) hc
theorem sc_2 {n : Nat} {j : Int32} (hn : n % 10 = 3) (hc : cs r ≤ 8) : RnI E M (.invokedynamic n) nx ls (.int j :: .ref 1000012 :: r) h Q = if vinB j 4 = true then Rn E M nx ls (.int (([108, 97, 107, 101] : List Int32).getD j.toNatClampNeg 0) :: r) h Q else False := ri_sch (i := 2) hn (by decide) hc
theorem sl_3 {n : Nat} (hn : n % 10 = 2) (hc : cs r ≤ 8) : RnI E M (.invokedynamic n) nx ls (.ref 1000013 :: r) h Q = Rn E M nx ls (.int 5 :: r) h Q := ri_slen (i := 3) hn (by decide) hc
theorem sc_3 {n : Nat} {j : Int32} (hn : n % 10 = 3) (hc : cs r ≤ 8) : RnI E M (.invokedynamic n) nx ls (.int j :: .ref 1000013 :: r) h Q = if vinB j 5 = true then Rn E M nx ls (.int (([99, 97, 98, 105, 110] : List Int32).getD j.toNatClampNeg 0) :: r) h Q else False := ri_sch (i := 3) hn (by decide) hc
theorem sl_4 {n : Nat} (hn : n % 10 = 2) (hc : cs r ≤ 8) : RnI E M (.invokedynamic n) nx ls (.ref 1000014 :: r) h Q = Rn E M nx ls (.int 4 :: r) h Q := ri_slen (i := 4) hn (by decide) hc
theorem sc_4 {n : Nat} {j : Int32} (hn : n % 10 = 3) (hc : cs r ≤ 8) : RnI E M (.invokedynamic n) nx ls (.int j :: .ref 1000014 :: r) h Q = if vinB j 4 = true then Rn E M nx ls (.int (([104, 111, 109, 101] : List Int32).getD j.toNatClampNeg 0) :: r) h Q else False := ri_sch (i := 4) hn (by decide) hc
theorem sl_5 {n : Nat} (hn : n % 10 = 2) (hc : cs r ≤ 8) : RnI E M (.invokedynamic n) nx ls (.ref 1000015 :: r) h Q = Rn E M nx ls (.int 4 :: r) h Q := ri_slen (i := 5) hn (by decide) hc
theorem sc_5 {n : Nat} {j : Int32} (hn : n % 10 = 3) (hc : cs r ≤ 8) : RnI E M (.invokedynamic n) nx ls (.int j :: .ref 1000015 :: r) h Q = if vinB j 4 = true then Rn E M nx ls (.int (([109, 111, 111, 110] : List Int32).getD j.toNatClampNeg 0) :: r) h Q else False := ri_sch (i := 5) hn (by decide) hc
theorem sl_6 {n : Nat} (hn : n % 10 = 2) (hc : cs r ≤ 8) : RnI E M (.invokedynamic n) nx ls (.ref 1000016 :: r) h Q = Rn E M nx ls (.int 4 :: r) h Q := ri_slen (i := 6) hn (by decide) hc
theorem sc_6 {n : Nat} {j : Int32} (hn : n % 10 = 3) (hc : cs r ≤ 8) : RnI E M (.invokedynamic n) nx ls (.int j :: .ref 1000016 :: r) h Q = if vinB j 4 = true then Rn E M nx ls (.int (([115, 110, 111, 119] : List Int32).getD j.toNatClampNeg 0) :: r) h Q else False := ri_sch (i := 6) hn (by decide) hc
def swN (E : EX) (M : Nat) (ls r : List Value) (h : AH) (Q : Option Value → AH → Prop) (x : Int32) (d : Nat) : Int → List Int → Prop
  | _, [] => Rn E M d ls r h Q
  | lo, t :: ts => if x = Int32.ofInt lo then Rn E M t.toNat ls r h Q else swN E M ls r h Q x d (lo + 1) ts
theorem i32_of {x : Int32} {lo : Int} (h1 : -2 ^ 31 ≤ lo) (h2 : lo < 2 ^ 31) : x = Int32.ofInt lo ↔ x.toInt = lo := by
  constructor
  · intro e
    rw [e]
    exact Int32.toInt_ofInt_of_le (by omega) (by omega)
  · intro e
    rw [← e]
    exact (Int32.ofInt_toInt x).symm
theorem swN_eq {x : Int32} {d : Nat} : ∀ (ts : List Int) (lo : Int), -2 ^ 31 ≤ lo → lo + ts.length ≤ 2 ^ 31 → (if x.toInt < lo ∨ lo + ts.length - 1 < x.toInt then Rn E M d ls r h Q else match ts[(x.toInt - lo).toNat]? with
    | some t => Rn E M t.toNat ls r h Q
    | none => False) = swN E M ls r h Q x d lo ts
  | [], lo, h1, h2 => by
    rw [if_pos (by simp only [List.length_nil]; omega)]
    rfl
  | t :: ts, lo, h1, h2 => by
    rw [List.length_cons] at h2
    have ih := swN_eq (x := x) (d := d) ts (lo + 1) (by omega) (by omega)
    show _ = if x = Int32.ofInt lo then Rn E M t.toNat ls r h Q else swN E M ls r h Q x d (lo + 1) ts
    rw [← ih]
    by_cases z : x.toInt = lo
    · rw [if_pos ((i32_of h1 (by omega)).mpr z), if_neg (by rw [List.length_cons]; omega), show (x.toInt - lo).toNat = 0 by omega]
      rfl
    · rw [if_neg (fun q => z ((i32_of h1 (by omega)).mp q))]
      by_cases y : x.toInt < lo ∨ lo + (t :: ts).length - 1 < x.toInt
      · rw [if_pos y, if_pos (by rw [List.length_cons] at y; omega)]
      · rw [if_neg y, if_neg (by rw [List.length_cons] at y; omega), show (x.toInt - lo).toNat = (x.toInt - (lo + 1)).toNat + 1 by omega, List.getElem?_cons_succ]
theorem ri_tsw {d lo hi : Int} {ts : Array Int} {x : Int32} (h1 : -2 ^ 31 ≤ lo) (h2 : lo + ts.toList.length ≤ 2 ^ 31) (h3 : hi = lo + ts.toList.length - 1) : RnI E M (.tableswitch d lo hi ts) nx ls (.int x :: r) h Q = swN E M ls r h Q x d.toNat lo ts.toList := by
  rw [← swN_eq ts.toList lo h1 h2]
  show RnS E M (match (if x.toInt < lo ∨ hi < x.toInt then some d.toNat else (ts.toList[(x.toInt - lo).toNat]?).map (fun q => q.toNat)) with
      | some t => some (t, ls, r, h)
      | none => none) Q = _
  rw [h3]
  by_cases z : x.toInt < lo ∨ lo + ts.toList.length - 1 < x.toInt
  · rw [if_pos z, if_pos z]
    rfl
  · rw [if_neg z, if_neg z]
    cases ts.toList[(x.toInt - lo).toNat]? <;> rfl
def lkN (E : EX) (M : Nat) (ls r : List Value) (h : AH) (Q : Option Value → AH → Prop) (x : Int32) (d : Nat) : List (Int × Int) → Prop
  | [] => Rn E M d ls r h Q
  | (k, t) :: ts => if x = Int32.ofInt k then Rn E M t.toNat ls r h Q else lkN E M ls r h Q x d ts
theorem lkN_eq {x : Int32} {d : Int} : ∀ (ps : List (Int × Int)), (∀ q ∈ ps, -2 ^ 31 ≤ q.1 ∧ q.1 < 2 ^ 31) → Rn E M (lkT d x.toInt ps) ls r h Q = lkN E M ls r h Q x d.toNat ps
  | [], _ => rfl
  | (k, t) :: ts, hb => by
    have ih := lkN_eq (x := x) (d := d) ts (fun q hq => hb q (List.mem_cons_of_mem _ hq))
    have hk := hb (k, t) (List.mem_cons_self ..)
    show Rn E M (if k = x.toInt then t.toNat else lkT d x.toInt ts) ls r h Q = if x = Int32.ofInt k then Rn E M t.toNat ls r h Q else lkN E M ls r h Q x d.toNat ts
    by_cases z : k = x.toInt
    · rw [if_pos z, if_pos ((i32_of hk.1 hk.2).mpr z.symm)]
    · rw [if_neg z, if_neg (fun q => z ((i32_of hk.1 hk.2).mp q).symm), ih]
theorem sw_42 : ∀ {x : Int32}, RnI E M (.tableswitch 32 5 7 #[28, 30, 30]) nx ls (.int x :: r) h Q = (if x = 5 then Rn E M 28 ls r h Q else if x = 6 then Rn E M 30 ls r h Q else if x = 7 then Rn E M 30 ls r h Q else Rn E M 32 ls r h Q) := ri_tsw (by decide) (by decide) (by decide)
theorem sw_43 : ∀ {x : Int32}, RnI E M (.tableswitch 158 1 5 #[36, 36, 51, 77, 115]) nx ls (.int x :: r) h Q = (if x = 1 then Rn E M 36 ls r h Q else if x = 2 then Rn E M 36 ls r h Q else if x = 3 then Rn E M 51 ls r h Q else if x = 4 then Rn E M 77 ls r h Q else if x = 5 then Rn E M 115 ls r h Q else Rn E M 158 ls r h Q) := ri_tsw (by decide) (by decide) (by decide)
theorem sw_49 : ∀ {x : Int32}, RnI E M (.tableswitch 91 1 5 #[36, 36, 36, 50, 63]) nx ls (.int x :: r) h Q = (if x = 1 then Rn E M 36 ls r h Q else if x = 2 then Rn E M 36 ls r h Q else if x = 3 then Rn E M 36 ls r h Q else if x = 4 then Rn E M 50 ls r h Q else if x = 5 then Rn E M 63 ls r h Q else Rn E M 91 ls r h Q) := ri_tsw (by decide) (by decide) (by decide)
theorem sw_67 : ∀ {x : Int32}, RnI E M (.tableswitch 116 0 7 #[64, 69, 74, 79, 84, 89, 94, 99]) nx ls (.int x :: r) h Q = (if x = 0 then Rn E M 64 ls r h Q else if x = 1 then Rn E M 69 ls r h Q else if x = 2 then Rn E M 74 ls r h Q else if x = 3 then Rn E M 79 ls r h Q else if x = 4 then Rn E M 84 ls r h Q else if x = 5 then Rn E M 89 ls r h Q else if x = 6 then Rn E M 94 ls r h Q else if x = 7 then Rn E M 99 ls r h Q else Rn E M 116 ls r h Q) := ri_tsw (by decide) (by decide) (by decide)
theorem sw_73 : ∀ {x : Int32}, RnI E M (.lookupswitch 76 #[(0, 64), (1, 70)]) nx ls (.int x :: r) h Q = (if x = 0 then Rn E M 64 ls r h Q else if x = 1 then Rn E M 70 ls r h Q else Rn E M 76 ls r h Q) := lkN_eq _ (by decide)
theorem sw_90 : ∀ {x : Int32}, RnI E M (.tableswitch 71 0 2 #[44, 55, 63]) nx ls (.int x :: r) h Q = (if x = 0 then Rn E M 44 ls r h Q else if x = 1 then Rn E M 55 ls r h Q else if x = 2 then Rn E M 63 ls r h Q else Rn E M 71 ls r h Q) := ri_tsw (by decide) (by decide) (by decide)
theorem sw_118 : ∀ {x : Int32}, RnI E M (.lookupswitch 100 #[(0, 84), (1, 92)]) nx ls (.int x :: r) h Q = (if x = 0 then Rn E M 84 ls r h Q else if x = 1 then Rn E M 92 ls r h Q else Rn E M 100 ls r h Q) := lkN_eq _ (by decide)
theorem sw_133 : ∀ {x : Int32}, RnI E M (.tableswitch 96 0 5 #[60, 66, 72, 78, 84, 90]) nx ls (.int x :: r) h Q = (if x = 0 then Rn E M 60 ls r h Q else if x = 1 then Rn E M 66 ls r h Q else if x = 2 then Rn E M 72 ls r h Q else if x = 3 then Rn E M 78 ls r h Q else if x = 4 then Rn E M 84 ls r h Q else if x = 5 then Rn E M 90 ls r h Q else Rn E M 96 ls r h Q) := ri_tsw (by decide) (by decide) (by decide)
theorem sw_144 : ∀ {x : Int32}, RnI E M (.tableswitch 85 0 4 #[36, 47, 58, 66, 74]) nx ls (.int x :: r) h Q = (if x = 0 then Rn E M 36 ls r h Q else if x = 1 then Rn E M 47 ls r h Q else if x = 2 then Rn E M 58 ls r h Q else if x = 3 then Rn E M 66 ls r h Q else if x = 4 then Rn E M 74 ls r h Q else Rn E M 85 ls r h Q) := ri_tsw (by decide) (by decide) (by decide)
theorem sw_217 : ∀ {x : Int32}, RnI E M (.tableswitch 1101 0 29 #[168, 231, 244, 257, 280, 303, 336, 369, 444, 477, 510, 543, 586, 609, 632, 645, 668, 731, 774, 817, 860, 893, 916, 929, 952, 985, 1018, 1041, 1064, 1087]) nx ls (.int x :: r) h Q = (if x = 0 then Rn E M 168 ls r h Q else if x = 1 then Rn E M 231 ls r h Q else if x = 2 then Rn E M 244 ls r h Q else if x = 3 then Rn E M 257 ls r h Q else if x = 4 then Rn E M 280 ls r h Q else if x = 5 then Rn E M 303 ls r h Q else if x = 6 then Rn E M 336 ls r h Q else if x = 7 then Rn E M 369 ls r h Q else if x = 8 then Rn E M 444 ls r h Q else if x = 9 then Rn E M 477 ls r h Q else if x = 10 then Rn E M 510 ls r h Q else if x = 11 then Rn E M 543 ls r h Q else if x = 12 then Rn E M 586 ls r h Q else if x = 13 then Rn E M 609 ls r h Q else if x = 14 then Rn E M 632 ls r h Q else if x = 15 then Rn E M 645 ls r h Q else if x = 16 then Rn E M 668 ls r h Q else if x = 17 then Rn E M 731 ls r h Q else if x = 18 then Rn E M 774 ls r h Q else if x = 19 then Rn E M 817 ls r h Q else if x = 20 then Rn E M 860 ls r h Q else if x = 21 then Rn E M 893 ls r h Q else if x = 22 then Rn E M 916 ls r h Q else if x = 23 then Rn E M 929 ls r h Q else if x = 24 then Rn E M 952 ls r h Q else if x = 25 then Rn E M 985 ls r h Q else if x = 26 then Rn E M 1018 ls r h Q else if x = 27 then Rn E M 1041 ls r h Q else if x = 28 then Rn E M 1064 ls r h Q else if x = 29 then Rn E M 1087 ls r h Q else Rn E M 1101 ls r h Q) := ri_tsw (by decide) (by decide) (by decide)
theorem rt_0 : RnI E 0 .return_ nx ls [] h Q = Q none h := ri_ret0 (show rkM 0 = 0 from rfl)
theorem rt_2 : RnI E 2 .return_ nx ls [] h Q = Q none h := ri_ret0 (show rkM 2 = 0 from rfl)
theorem rt_3 : RnI E 3 .return_ nx ls [] h Q = Q none h := ri_ret0 (show rkM 3 = 0 from rfl)
theorem rt_4 : RnI E 4 .return_ nx ls [] h Q = Q none h := ri_ret0 (show rkM 4 = 0 from rfl)
theorem rt_5 : RnI E 5 .return_ nx ls [] h Q = Q none h := ri_ret0 (show rkM 5 = 0 from rfl)
theorem rt_6 : RnI E 6 .return_ nx ls [] h Q = Q none h := ri_ret0 (show rkM 6 = 0 from rfl)
theorem rt_7 : RnI E 7 .return_ nx ls [] h Q = Q none h := ri_ret0 (show rkM 7 = 0 from rfl)
theorem rt_8 : RnI E 8 .return_ nx ls [] h Q = Q none h := ri_ret0 (show rkM 8 = 0 from rfl)
theorem rt_9 : RnI E 9 .return_ nx ls [] h Q = Q none h := ri_ret0 (show rkM 9 = 0 from rfl)
theorem rt_10 : RnI E 10 .return_ nx ls [] h Q = Q none h := ri_ret0 (show rkM 10 = 0 from rfl)
theorem rt_11 : RnI E 11 .return_ nx ls [] h Q = Q none h := ri_ret0 (show rkM 11 = 0 from rfl)
theorem rt_12 {v : Int32} : RnI E 12 .ireturn nx ls [.int v] h Q = Q (some (.int v)) h := ri_retI (show rkM 12 = 1 from rfl)
theorem rt_13 {v : Int32} : RnI E 13 .ireturn nx ls [.int v] h Q = Q (some (.int v)) h := ri_retI (show rkM 13 = 1 from rfl)
theorem rt_14 : RnI E 14 .ireturn nx ls [.int 0] h Q = Q (some (.int 0)) h := ri_retZ (show rkM 14 = 2 from rfl) (Or.inl rfl)
theorem ru_14 : RnI E 14 .ireturn nx ls [.int 1] h Q = Q (some (.int 1)) h := ri_retZ (show rkM 14 = 2 from rfl) (Or.inr rfl)
theorem rx_14 {c : Prop} [Decidable c] : RnI E 14 .ireturn nx ls [.int (if c then 1 else 0)] h Q = Q (some (.int (if c then 1 else 0))) h := ri_retZ (show rkM 14 = 2 from rfl) (by by_cases z : c; exact Or.inr (if_pos z); exact Or.inl (if_neg z))
theorem rt_15 {v : Int32} : RnI E 15 .ireturn nx ls [.int v] h Q = Q (some (.int v)) h := ri_retI (show rkM 15 = 1 from rfl)
theorem rt_16 {v : Int32} : RnI E 16 .ireturn nx ls [.int v] h Q = Q (some (.int v)) h := ri_retI (show rkM 16 = 1 from rfl)
theorem rt_17 {v : Int32} : RnI E 17 .ireturn nx ls [.int v] h Q = Q (some (.int v)) h := ri_retI (show rkM 17 = 1 from rfl)
theorem rt_18 {v : Int32} : RnI E 18 .ireturn nx ls [.int v] h Q = Q (some (.int v)) h := ri_retI (show rkM 18 = 1 from rfl)
theorem rt_19 : RnI E 19 .return_ nx ls [] h Q = Q none h := ri_ret0 (show rkM 19 = 0 from rfl)
theorem rt_20 : RnI E 20 .return_ nx ls [] h Q = Q none h := ri_ret0 (show rkM 20 = 0 from rfl)
theorem rt_21 {v : Int32} : RnI E 21 .ireturn nx ls [.int v] h Q = Q (some (.int v)) h := ri_retI (show rkM 21 = 1 from rfl)
theorem rt_22 {v : Int32} : RnI E 22 .ireturn nx ls [.int v] h Q = Q (some (.int v)) h := ri_retI (show rkM 22 = 1 from rfl)
theorem rt_23 : RnI E 23 .ireturn nx ls [.int 0] h Q = Q (some (.int 0)) h := ri_retZ (show rkM 23 = 2 from rfl) (Or.inl rfl)
theorem ru_23 : RnI E 23 .ireturn nx ls [.int 1] h Q = Q (some (.int 1)) h := ri_retZ (show rkM 23 = 2 from rfl) (Or.inr rfl)
theorem rx_23 {c : Prop} [Decidable c] : RnI E 23 .ireturn nx ls [.int (if c then 1 else 0)] h Q = Q (some (.int (if c then 1 else 0))) h := ri_retZ (show rkM 23 = 2 from rfl) (by by_cases z : c; exact Or.inr (if_pos z); exact Or.inl (if_neg z))
theorem rt_24 {v : Int32} : RnI E 24 .ireturn nx ls [.int v] h Q = Q (some (.int v)) h := ri_retI (show rkM 24 = 1 from rfl)
theorem rt_25 : RnI E 25 .ireturn nx ls [.int 0] h Q = Q (some (.int 0)) h := ri_retZ (show rkM 25 = 2 from rfl) (Or.inl rfl)
theorem ru_25 : RnI E 25 .ireturn nx ls [.int 1] h Q = Q (some (.int 1)) h := ri_retZ (show rkM 25 = 2 from rfl) (Or.inr rfl)
theorem rx_25 {c : Prop} [Decidable c] : RnI E 25 .ireturn nx ls [.int (if c then 1 else 0)] h Q = Q (some (.int (if c then 1 else 0))) h := ri_retZ (show rkM 25 = 2 from rfl) (by by_cases z : c; exact Or.inr (if_pos z); exact Or.inl (if_neg z))
theorem rt_26 {v : Int32} : RnI E 26 .ireturn nx ls [.int v] h Q = Q (some (.int v)) h := ri_retI (show rkM 26 = 1 from rfl)
theorem rt_28 : RnI E 28 .ireturn nx ls [.int 0] h Q = Q (some (.int 0)) h := ri_retZ (show rkM 28 = 2 from rfl) (Or.inl rfl)
theorem ru_28 : RnI E 28 .ireturn nx ls [.int 1] h Q = Q (some (.int 1)) h := ri_retZ (show rkM 28 = 2 from rfl) (Or.inr rfl)
theorem rx_28 {c : Prop} [Decidable c] : RnI E 28 .ireturn nx ls [.int (if c then 1 else 0)] h Q = Q (some (.int (if c then 1 else 0))) h := ri_retZ (show rkM 28 = 2 from rfl) (by by_cases z : c; exact Or.inr (if_pos z); exact Or.inl (if_neg z))
theorem rt_29 {v : Int32} : RnI E 29 .ireturn nx ls [.int v] h Q = Q (some (.int v)) h := ri_retI (show rkM 29 = 1 from rfl)
theorem rt_30 : RnI E 30 .ireturn nx ls [.int 0] h Q = Q (some (.int 0)) h := ri_retZ (show rkM 30 = 2 from rfl) (Or.inl rfl)
theorem ru_30 : RnI E 30 .ireturn nx ls [.int 1] h Q = Q (some (.int 1)) h := ri_retZ (show rkM 30 = 2 from rfl) (Or.inr rfl)
theorem rx_30 {c : Prop} [Decidable c] : RnI E 30 .ireturn nx ls [.int (if c then 1 else 0)] h Q = Q (some (.int (if c then 1 else 0))) h := ri_retZ (show rkM 30 = 2 from rfl) (by by_cases z : c; exact Or.inr (if_pos z); exact Or.inl (if_neg z))
theorem rt_42 {v : Int32} : RnI E 42 .ireturn nx ls [.int v] h Q = Q (some (.int v)) h := ri_retI (show rkM 42 = 1 from rfl)
theorem rt_43 : RnI E 43 .ireturn nx ls [.int 0] h Q = Q (some (.int 0)) h := ri_retZ (show rkM 43 = 2 from rfl) (Or.inl rfl)
theorem ru_43 : RnI E 43 .ireturn nx ls [.int 1] h Q = Q (some (.int 1)) h := ri_retZ (show rkM 43 = 2 from rfl) (Or.inr rfl)
theorem rx_43 {c : Prop} [Decidable c] : RnI E 43 .ireturn nx ls [.int (if c then 1 else 0)] h Q = Q (some (.int (if c then 1 else 0))) h := ri_retZ (show rkM 43 = 2 from rfl) (by by_cases z : c; exact Or.inr (if_pos z); exact Or.inl (if_neg z))
theorem rt_44 : RnI E 44 .ireturn nx ls [.int 0] h Q = Q (some (.int 0)) h := ri_retZ (show rkM 44 = 2 from rfl) (Or.inl rfl)
theorem ru_44 : RnI E 44 .ireturn nx ls [.int 1] h Q = Q (some (.int 1)) h := ri_retZ (show rkM 44 = 2 from rfl) (Or.inr rfl)
theorem rx_44 {c : Prop} [Decidable c] : RnI E 44 .ireturn nx ls [.int (if c then 1 else 0)] h Q = Q (some (.int (if c then 1 else 0))) h := ri_retZ (show rkM 44 = 2 from rfl) (by by_cases z : c; exact Or.inr (if_pos z); exact Or.inl (if_neg z))
theorem rt_45 {v : Int32} : RnI E 45 .ireturn nx ls [.int v] h Q = Q (some (.int v)) h := ri_retI (show rkM 45 = 1 from rfl)
theorem rt_46 : RnI E 46 .ireturn nx ls [.int 0] h Q = Q (some (.int 0)) h := ri_retZ (show rkM 46 = 2 from rfl) (Or.inl rfl)
theorem ru_46 : RnI E 46 .ireturn nx ls [.int 1] h Q = Q (some (.int 1)) h := ri_retZ (show rkM 46 = 2 from rfl) (Or.inr rfl)
theorem rx_46 {c : Prop} [Decidable c] : RnI E 46 .ireturn nx ls [.int (if c then 1 else 0)] h Q = Q (some (.int (if c then 1 else 0))) h := ri_retZ (show rkM 46 = 2 from rfl) (by by_cases z : c; exact Or.inr (if_pos z); exact Or.inl (if_neg z))
theorem rt_47 : RnI E 47 .ireturn nx ls [.int 0] h Q = Q (some (.int 0)) h := ri_retZ (show rkM 47 = 2 from rfl) (Or.inl rfl)
theorem ru_47 : RnI E 47 .ireturn nx ls [.int 1] h Q = Q (some (.int 1)) h := ri_retZ (show rkM 47 = 2 from rfl) (Or.inr rfl)
theorem rx_47 {c : Prop} [Decidable c] : RnI E 47 .ireturn nx ls [.int (if c then 1 else 0)] h Q = Q (some (.int (if c then 1 else 0))) h := ri_retZ (show rkM 47 = 2 from rfl) (by by_cases z : c; exact Or.inr (if_pos z); exact Or.inl (if_neg z))
theorem rt_48 : RnI E 48 .ireturn nx ls [.int 0] h Q = Q (some (.int 0)) h := ri_retZ (show rkM 48 = 2 from rfl) (Or.inl rfl)
theorem ru_48 : RnI E 48 .ireturn nx ls [.int 1] h Q = Q (some (.int 1)) h := ri_retZ (show rkM 48 = 2 from rfl) (Or.inr rfl)
theorem rx_48 {c : Prop} [Decidable c] : RnI E 48 .ireturn nx ls [.int (if c then 1 else 0)] h Q = Q (some (.int (if c then 1 else 0))) h := ri_retZ (show rkM 48 = 2 from rfl) (by by_cases z : c; exact Or.inr (if_pos z); exact Or.inl (if_neg z))
theorem rt_49 : RnI E 49 .return_ nx ls [] h Q = Q none h := ri_ret0 (show rkM 49 = 0 from rfl)
theorem rt_50 : RnI E 50 .return_ nx ls [] h Q = Q none h := ri_ret0 (show rkM 50 = 0 from rfl)
theorem rt_51 : RnI E 51 .return_ nx ls [] h Q = Q none h := ri_ret0 (show rkM 51 = 0 from rfl)
theorem rt_52 {v : Int64} : RnI E 52 .lreturn nx ls [.long v] h Q = Q (some (.long v)) h := ri_retL (show rkM 52 = 3 from rfl)
theorem rt_53 : RnI E 53 .return_ nx ls [] h Q = Q none h := ri_ret0 (show rkM 53 = 0 from rfl)
theorem rt_54 : RnI E 54 .ireturn nx ls [.int 0] h Q = Q (some (.int 0)) h := ri_retZ (show rkM 54 = 2 from rfl) (Or.inl rfl)
theorem ru_54 : RnI E 54 .ireturn nx ls [.int 1] h Q = Q (some (.int 1)) h := ri_retZ (show rkM 54 = 2 from rfl) (Or.inr rfl)
theorem rx_54 {c : Prop} [Decidable c] : RnI E 54 .ireturn nx ls [.int (if c then 1 else 0)] h Q = Q (some (.int (if c then 1 else 0))) h := ri_retZ (show rkM 54 = 2 from rfl) (by by_cases z : c; exact Or.inr (if_pos z); exact Or.inl (if_neg z))
theorem rt_55 : RnI E 55 .return_ nx ls [] h Q = Q none h := ri_ret0 (show rkM 55 = 0 from rfl)
theorem rt_56 : RnI E 56 .return_ nx ls [] h Q = Q none h := ri_ret0 (show rkM 56 = 0 from rfl)
theorem rt_57 : RnI E 57 .return_ nx ls [] h Q = Q none h := ri_ret0 (show rkM 57 = 0 from rfl)
theorem rt_58 {v : Int32} : RnI E 58 .ireturn nx ls [.int v] h Q = Q (some (.int v)) h := ri_retI (show rkM 58 = 1 from rfl)
theorem rt_59 {v : Int32} : RnI E 59 .ireturn nx ls [.int v] h Q = Q (some (.int v)) h := ri_retI (show rkM 59 = 1 from rfl)
theorem rt_60 {v : Int32} : RnI E 60 .ireturn nx ls [.int v] h Q = Q (some (.int v)) h := ri_retI (show rkM 60 = 1 from rfl)
theorem rt_61 {v : Int32} : RnI E 61 .ireturn nx ls [.int v] h Q = Q (some (.int v)) h := ri_retI (show rkM 61 = 1 from rfl)
theorem rt_62 {v : Int64} : RnI E 62 .lreturn nx ls [.long v] h Q = Q (some (.long v)) h := ri_retL (show rkM 62 = 3 from rfl)
theorem rt_63 {v : Int32} : RnI E 63 .ireturn nx ls [.int v] h Q = Q (some (.int v)) h := ri_retI (show rkM 63 = 1 from rfl)
theorem rt_64 {v : Int32} : RnI E 64 .ireturn nx ls [.int v] h Q = Q (some (.int v)) h := ri_retI (show rkM 64 = 1 from rfl)
theorem rt_65 {v : Int32} : RnI E 65 .ireturn nx ls [.int v] h Q = Q (some (.int v)) h := ri_retI (show rkM 65 = 1 from rfl)
theorem rt_66 {v : Int32} : RnI E 66 .ireturn nx ls [.int v] h Q = Q (some (.int v)) h := ri_retI (show rkM 66 = 1 from rfl)
theorem rt_67 {v : Int32} : RnI E 67 .ireturn nx ls [.int v] h Q = Q (some (.int v)) h := ri_retI (show rkM 67 = 1 from rfl)
theorem rt_68 {v : Nat} : RnI E 68 .areturn nx ls [.ref v] h Q = Q (some (.ref v)) h := ri_retR (show rkM 68 = 4 from rfl)
theorem ru_68 : RnI E 68 .areturn nx ls [.null] h Q = Q (some .null) h := ri_retN (show rkM 68 = 4 from rfl)
theorem rt_69 {v : Int32} : RnI E 69 .ireturn nx ls [.int v] h Q = Q (some (.int v)) h := ri_retI (show rkM 69 = 1 from rfl)
theorem rt_71 : RnI E 71 .ireturn nx ls [.int 0] h Q = Q (some (.int 0)) h := ri_retZ (show rkM 71 = 2 from rfl) (Or.inl rfl)
theorem ru_71 : RnI E 71 .ireturn nx ls [.int 1] h Q = Q (some (.int 1)) h := ri_retZ (show rkM 71 = 2 from rfl) (Or.inr rfl)
theorem rx_71 {c : Prop} [Decidable c] : RnI E 71 .ireturn nx ls [.int (if c then 1 else 0)] h Q = Q (some (.int (if c then 1 else 0))) h := ri_retZ (show rkM 71 = 2 from rfl) (by by_cases z : c; exact Or.inr (if_pos z); exact Or.inl (if_neg z))
theorem rt_72 {v : Int32} : RnI E 72 .ireturn nx ls [.int v] h Q = Q (some (.int v)) h := ri_retI (show rkM 72 = 1 from rfl)
theorem rt_73 {v : Int32} : RnI E 73 .ireturn nx ls [.int v] h Q = Q (some (.int v)) h := ri_retI (show rkM 73 = 1 from rfl)
theorem rt_74 {v : Int64} : RnI E 74 .lreturn nx ls [.long v] h Q = Q (some (.long v)) h := ri_retL (show rkM 74 = 3 from rfl)
theorem rt_75 {v : Int32} : RnI E 75 .ireturn nx ls [.int v] h Q = Q (some (.int v)) h := ri_retI (show rkM 75 = 1 from rfl)
theorem rt_76 {v : Int32} : RnI E 76 .ireturn nx ls [.int v] h Q = Q (some (.int v)) h := ri_retI (show rkM 76 = 1 from rfl)
theorem rt_77 {v : Int32} : RnI E 77 .ireturn nx ls [.int v] h Q = Q (some (.int v)) h := ri_retI (show rkM 77 = 1 from rfl)
theorem rt_78 {v : Int32} : RnI E 78 .ireturn nx ls [.int v] h Q = Q (some (.int v)) h := ri_retI (show rkM 78 = 1 from rfl)
theorem rt_79 {v : Int32} : RnI E 79 .ireturn nx ls [.int v] h Q = Q (some (.int v)) h := ri_retI (show rkM 79 = 1 from rfl)
theorem rt_80 : RnI E 80 .return_ nx ls [] h Q = Q none h := ri_ret0 (show rkM 80 = 0 from rfl)
theorem rt_81 : RnI E 81 .return_ nx ls [] h Q = Q none h := ri_ret0 (show rkM 81 = 0 from rfl)
theorem rt_82 {v : Int64} : RnI E 82 .lreturn nx ls [.long v] h Q = Q (some (.long v)) h := ri_retL (show rkM 82 = 3 from rfl)
theorem rt_83 {v : Int64} : RnI E 83 .lreturn nx ls [.long v] h Q = Q (some (.long v)) h := ri_retL (show rkM 83 = 3 from rfl)
theorem rt_84 {v : Int32} : RnI E 84 .ireturn nx ls [.int v] h Q = Q (some (.int v)) h := ri_retI (show rkM 84 = 1 from rfl)
theorem rt_85 {v : Int32} : RnI E 85 .ireturn nx ls [.int v] h Q = Q (some (.int v)) h := ri_retI (show rkM 85 = 1 from rfl)
theorem rt_86 {v : Int32} : RnI E 86 .ireturn nx ls [.int v] h Q = Q (some (.int v)) h := ri_retI (show rkM 86 = 1 from rfl)
theorem rt_87 {v : Int32} : RnI E 87 .ireturn nx ls [.int v] h Q = Q (some (.int v)) h := ri_retI (show rkM 87 = 1 from rfl)
theorem rt_88 : RnI E 88 .ireturn nx ls [.int 0] h Q = Q (some (.int 0)) h := ri_retZ (show rkM 88 = 2 from rfl) (Or.inl rfl)
theorem ru_88 : RnI E 88 .ireturn nx ls [.int 1] h Q = Q (some (.int 1)) h := ri_retZ (show rkM 88 = 2 from rfl) (Or.inr rfl)
theorem rx_88 {c : Prop} [Decidable c] : RnI E 88 .ireturn nx ls [.int (if c then 1 else 0)] h Q = Q (some (.int (if c then 1 else 0))) h := ri_retZ (show rkM 88 = 2 from rfl) (by by_cases z : c; exact Or.inr (if_pos z); exact Or.inl (if_neg z))
theorem rt_89 : RnI E 89 .ireturn nx ls [.int 0] h Q = Q (some (.int 0)) h := ri_retZ (show rkM 89 = 2 from rfl) (Or.inl rfl)
theorem ru_89 : RnI E 89 .ireturn nx ls [.int 1] h Q = Q (some (.int 1)) h := ri_retZ (show rkM 89 = 2 from rfl) (Or.inr rfl)
theorem rx_89 {c : Prop} [Decidable c] : RnI E 89 .ireturn nx ls [.int (if c then 1 else 0)] h Q = Q (some (.int (if c then 1 else 0))) h := ri_retZ (show rkM 89 = 2 from rfl) (by by_cases z : c; exact Or.inr (if_pos z); exact Or.inl (if_neg z))
theorem rt_90 {v : Int32} : RnI E 90 .ireturn nx ls [.int v] h Q = Q (some (.int v)) h := ri_retI (show rkM 90 = 1 from rfl)
theorem rt_91 : RnI E 91 .return_ nx ls [] h Q = Q none h := ri_ret0 (show rkM 91 = 0 from rfl)
theorem rt_92 {v : Int32} : RnI E 92 .ireturn nx ls [.int v] h Q = Q (some (.int v)) h := ri_retI (show rkM 92 = 1 from rfl)
theorem rt_93 {v : Int64} : RnI E 93 .lreturn nx ls [.long v] h Q = Q (some (.long v)) h := ri_retL (show rkM 93 = 3 from rfl)
theorem rt_94 {v : Int32} : RnI E 94 .ireturn nx ls [.int v] h Q = Q (some (.int v)) h := ri_retI (show rkM 94 = 1 from rfl)
theorem rt_95 {v : Int32} : RnI E 95 .ireturn nx ls [.int v] h Q = Q (some (.int v)) h := ri_retI (show rkM 95 = 1 from rfl)
theorem rt_96 : RnI E 96 .return_ nx ls [] h Q = Q none h := ri_ret0 (show rkM 96 = 0 from rfl)
theorem rt_97 : RnI E 97 .ireturn nx ls [.int 0] h Q = Q (some (.int 0)) h := ri_retZ (show rkM 97 = 2 from rfl) (Or.inl rfl)
theorem ru_97 : RnI E 97 .ireturn nx ls [.int 1] h Q = Q (some (.int 1)) h := ri_retZ (show rkM 97 = 2 from rfl) (Or.inr rfl)
theorem rx_97 {c : Prop} [Decidable c] : RnI E 97 .ireturn nx ls [.int (if c then 1 else 0)] h Q = Q (some (.int (if c then 1 else 0))) h := ri_retZ (show rkM 97 = 2 from rfl) (by by_cases z : c; exact Or.inr (if_pos z); exact Or.inl (if_neg z))
theorem rt_98 : RnI E 98 .return_ nx ls [] h Q = Q none h := ri_ret0 (show rkM 98 = 0 from rfl)
theorem rt_99 : RnI E 99 .ireturn nx ls [.int 0] h Q = Q (some (.int 0)) h := ri_retZ (show rkM 99 = 2 from rfl) (Or.inl rfl)
theorem ru_99 : RnI E 99 .ireturn nx ls [.int 1] h Q = Q (some (.int 1)) h := ri_retZ (show rkM 99 = 2 from rfl) (Or.inr rfl)
theorem rx_99 {c : Prop} [Decidable c] : RnI E 99 .ireturn nx ls [.int (if c then 1 else 0)] h Q = Q (some (.int (if c then 1 else 0))) h := ri_retZ (show rkM 99 = 2 from rfl) (by by_cases z : c; exact Or.inr (if_pos z); exact Or.inl (if_neg z))
theorem rt_100 {v : Int32} : RnI E 100 .ireturn nx ls [.int v] h Q = Q (some (.int v)) h := ri_retI (show rkM 100 = 1 from rfl)
theorem rt_101 : RnI E 101 .return_ nx ls [] h Q = Q none h := ri_ret0 (show rkM 101 = 0 from rfl)
theorem rt_102 {v : Int32} : RnI E 102 .ireturn nx ls [.int v] h Q = Q (some (.int v)) h := ri_retI (show rkM 102 = 1 from rfl)
theorem rt_103 {v : Int32} : RnI E 103 .ireturn nx ls [.int v] h Q = Q (some (.int v)) h := ri_retI (show rkM 103 = 1 from rfl)
theorem rt_104 : RnI E 104 .return_ nx ls [] h Q = Q none h := ri_ret0 (show rkM 104 = 0 from rfl)
theorem rt_105 {v : Int32} : RnI E 105 .ireturn nx ls [.int v] h Q = Q (some (.int v)) h := ri_retI (show rkM 105 = 1 from rfl)
theorem rt_106 : RnI E 106 .ireturn nx ls [.int 0] h Q = Q (some (.int 0)) h := ri_retZ (show rkM 106 = 2 from rfl) (Or.inl rfl)
theorem ru_106 : RnI E 106 .ireturn nx ls [.int 1] h Q = Q (some (.int 1)) h := ri_retZ (show rkM 106 = 2 from rfl) (Or.inr rfl)
theorem rx_106 {c : Prop} [Decidable c] : RnI E 106 .ireturn nx ls [.int (if c then 1 else 0)] h Q = Q (some (.int (if c then 1 else 0))) h := ri_retZ (show rkM 106 = 2 from rfl) (by by_cases z : c; exact Or.inr (if_pos z); exact Or.inl (if_neg z))
theorem rt_107 : RnI E 107 .ireturn nx ls [.int 0] h Q = Q (some (.int 0)) h := ri_retZ (show rkM 107 = 2 from rfl) (Or.inl rfl)
theorem ru_107 : RnI E 107 .ireturn nx ls [.int 1] h Q = Q (some (.int 1)) h := ri_retZ (show rkM 107 = 2 from rfl) (Or.inr rfl)
theorem rx_107 {c : Prop} [Decidable c] : RnI E 107 .ireturn nx ls [.int (if c then 1 else 0)] h Q = Q (some (.int (if c then 1 else 0))) h := ri_retZ (show rkM 107 = 2 from rfl) (by by_cases z : c; exact Or.inr (if_pos z); exact Or.inl (if_neg z))
theorem rt_108 {v : Int32} : RnI E 108 .ireturn nx ls [.int v] h Q = Q (some (.int v)) h := ri_retI (show rkM 108 = 1 from rfl)
theorem rt_109 {v : Int64} : RnI E 109 .lreturn nx ls [.long v] h Q = Q (some (.long v)) h := ri_retL (show rkM 109 = 3 from rfl)
theorem rt_110 : RnI E 110 .return_ nx ls [] h Q = Q none h := ri_ret0 (show rkM 110 = 0 from rfl)
theorem rt_111 {v : Int32} : RnI E 111 .ireturn nx ls [.int v] h Q = Q (some (.int v)) h := ri_retI (show rkM 111 = 1 from rfl)
theorem rt_112 {v : Int32} : RnI E 112 .ireturn nx ls [.int v] h Q = Q (some (.int v)) h := ri_retI (show rkM 112 = 1 from rfl)
theorem rt_113 {v : Int32} : RnI E 113 .ireturn nx ls [.int v] h Q = Q (some (.int v)) h := ri_retI (show rkM 113 = 1 from rfl)
theorem rt_114 {v : Int32} : RnI E 114 .ireturn nx ls [.int v] h Q = Q (some (.int v)) h := ri_retI (show rkM 114 = 1 from rfl)
theorem rt_115 {v : Int32} : RnI E 115 .ireturn nx ls [.int v] h Q = Q (some (.int v)) h := ri_retI (show rkM 115 = 1 from rfl)
theorem rt_116 {v : Int32} : RnI E 116 .ireturn nx ls [.int v] h Q = Q (some (.int v)) h := ri_retI (show rkM 116 = 1 from rfl)
theorem rt_117 {v : Int32} : RnI E 117 .ireturn nx ls [.int v] h Q = Q (some (.int v)) h := ri_retI (show rkM 117 = 1 from rfl)
theorem rt_118 {v : Int32} : RnI E 118 .ireturn nx ls [.int v] h Q = Q (some (.int v)) h := ri_retI (show rkM 118 = 1 from rfl)
theorem rt_119 : RnI E 119 .return_ nx ls [] h Q = Q none h := ri_ret0 (show rkM 119 = 0 from rfl)
theorem rt_120 : RnI E 120 .return_ nx ls [] h Q = Q none h := ri_ret0 (show rkM 120 = 0 from rfl)
theorem rt_121 {v : Int32} : RnI E 121 .ireturn nx ls [.int v] h Q = Q (some (.int v)) h := ri_retI (show rkM 121 = 1 from rfl)
theorem rt_122 {v : Int32} : RnI E 122 .ireturn nx ls [.int v] h Q = Q (some (.int v)) h := ri_retI (show rkM 122 = 1 from rfl)
theorem rt_123 {v : Int32} : RnI E 123 .ireturn nx ls [.int v] h Q = Q (some (.int v)) h := ri_retI (show rkM 123 = 1 from rfl)
theorem rt_124 {v : Int32} : RnI E 124 .ireturn nx ls [.int v] h Q = Q (some (.int v)) h := ri_retI (show rkM 124 = 1 from rfl)
theorem rt_125 {v : Int32} : RnI E 125 .ireturn nx ls [.int v] h Q = Q (some (.int v)) h := ri_retI (show rkM 125 = 1 from rfl)
theorem rt_126 {v : Int32} : RnI E 126 .ireturn nx ls [.int v] h Q = Q (some (.int v)) h := ri_retI (show rkM 126 = 1 from rfl)
theorem rt_127 {v : Int32} : RnI E 127 .ireturn nx ls [.int v] h Q = Q (some (.int v)) h := ri_retI (show rkM 127 = 1 from rfl)
theorem rt_128 {v : Int32} : RnI E 128 .ireturn nx ls [.int v] h Q = Q (some (.int v)) h := ri_retI (show rkM 128 = 1 from rfl)
theorem rt_129 {v : Int32} : RnI E 129 .ireturn nx ls [.int v] h Q = Q (some (.int v)) h := ri_retI (show rkM 129 = 1 from rfl)
theorem rt_130 {v : Int32} : RnI E 130 .ireturn nx ls [.int v] h Q = Q (some (.int v)) h := ri_retI (show rkM 130 = 1 from rfl)
theorem rt_131 {v : Int32} : RnI E 131 .ireturn nx ls [.int v] h Q = Q (some (.int v)) h := ri_retI (show rkM 131 = 1 from rfl)
theorem rt_132 {v : Int32} : RnI E 132 .ireturn nx ls [.int v] h Q = Q (some (.int v)) h := ri_retI (show rkM 132 = 1 from rfl)
theorem rt_133 {v : Int32} : RnI E 133 .ireturn nx ls [.int v] h Q = Q (some (.int v)) h := ri_retI (show rkM 133 = 1 from rfl)
theorem rt_134 {v : Int32} : RnI E 134 .ireturn nx ls [.int v] h Q = Q (some (.int v)) h := ri_retI (show rkM 134 = 1 from rfl)
theorem rt_135 {v : Int32} : RnI E 135 .ireturn nx ls [.int v] h Q = Q (some (.int v)) h := ri_retI (show rkM 135 = 1 from rfl)
theorem rt_136 {v : Int32} : RnI E 136 .ireturn nx ls [.int v] h Q = Q (some (.int v)) h := ri_retI (show rkM 136 = 1 from rfl)
theorem rt_137 {v : Int32} : RnI E 137 .ireturn nx ls [.int v] h Q = Q (some (.int v)) h := ri_retI (show rkM 137 = 1 from rfl)
theorem rt_138 {v : Int32} : RnI E 138 .ireturn nx ls [.int v] h Q = Q (some (.int v)) h := ri_retI (show rkM 138 = 1 from rfl)
theorem rt_139 {v : Int32} : RnI E 139 .ireturn nx ls [.int v] h Q = Q (some (.int v)) h := ri_retI (show rkM 139 = 1 from rfl)
theorem rt_140 {v : Int32} : RnI E 140 .ireturn nx ls [.int v] h Q = Q (some (.int v)) h := ri_retI (show rkM 140 = 1 from rfl)
theorem rt_141 : RnI E 141 .return_ nx ls [] h Q = Q none h := ri_ret0 (show rkM 141 = 0 from rfl)
theorem rt_142 : RnI E 142 .return_ nx ls [] h Q = Q none h := ri_ret0 (show rkM 142 = 0 from rfl)
theorem rt_143 {v : Int32} : RnI E 143 .ireturn nx ls [.int v] h Q = Q (some (.int v)) h := ri_retI (show rkM 143 = 1 from rfl)
theorem rt_144 {v : Int32} : RnI E 144 .ireturn nx ls [.int v] h Q = Q (some (.int v)) h := ri_retI (show rkM 144 = 1 from rfl)
theorem rt_145 {v : Int32} : RnI E 145 .ireturn nx ls [.int v] h Q = Q (some (.int v)) h := ri_retI (show rkM 145 = 1 from rfl)
theorem rt_146 {v : Int32} : RnI E 146 .ireturn nx ls [.int v] h Q = Q (some (.int v)) h := ri_retI (show rkM 146 = 1 from rfl)
theorem rt_147 {v : Int64} : RnI E 147 .lreturn nx ls [.long v] h Q = Q (some (.long v)) h := ri_retL (show rkM 147 = 3 from rfl)
theorem rt_148 : RnI E 148 .return_ nx ls [] h Q = Q none h := ri_ret0 (show rkM 148 = 0 from rfl)
theorem rt_149 {v : Int32} : RnI E 149 .ireturn nx ls [.int v] h Q = Q (some (.int v)) h := ri_retI (show rkM 149 = 1 from rfl)
theorem rt_150 : RnI E 150 .ireturn nx ls [.int 0] h Q = Q (some (.int 0)) h := ri_retZ (show rkM 150 = 2 from rfl) (Or.inl rfl)
theorem ru_150 : RnI E 150 .ireturn nx ls [.int 1] h Q = Q (some (.int 1)) h := ri_retZ (show rkM 150 = 2 from rfl) (Or.inr rfl)
theorem rx_150 {c : Prop} [Decidable c] : RnI E 150 .ireturn nx ls [.int (if c then 1 else 0)] h Q = Q (some (.int (if c then 1 else 0))) h := ri_retZ (show rkM 150 = 2 from rfl) (by by_cases z : c; exact Or.inr (if_pos z); exact Or.inl (if_neg z))
theorem rt_151 {v : Int32} : RnI E 151 .ireturn nx ls [.int v] h Q = Q (some (.int v)) h := ri_retI (show rkM 151 = 1 from rfl)
theorem rt_152 {v : Int32} : RnI E 152 .ireturn nx ls [.int v] h Q = Q (some (.int v)) h := ri_retI (show rkM 152 = 1 from rfl)
theorem rt_153 : RnI E 153 .return_ nx ls [] h Q = Q none h := ri_ret0 (show rkM 153 = 0 from rfl)
theorem rt_154 {v : Int32} : RnI E 154 .ireturn nx ls [.int v] h Q = Q (some (.int v)) h := ri_retI (show rkM 154 = 1 from rfl)
theorem rt_155 {v : Int32} : RnI E 155 .ireturn nx ls [.int v] h Q = Q (some (.int v)) h := ri_retI (show rkM 155 = 1 from rfl)
theorem rt_156 {v : Int64} : RnI E 156 .lreturn nx ls [.long v] h Q = Q (some (.long v)) h := ri_retL (show rkM 156 = 3 from rfl)
theorem rt_157 : RnI E 157 .ireturn nx ls [.int 0] h Q = Q (some (.int 0)) h := ri_retZ (show rkM 157 = 2 from rfl) (Or.inl rfl)
theorem ru_157 : RnI E 157 .ireturn nx ls [.int 1] h Q = Q (some (.int 1)) h := ri_retZ (show rkM 157 = 2 from rfl) (Or.inr rfl)
theorem rx_157 {c : Prop} [Decidable c] : RnI E 157 .ireturn nx ls [.int (if c then 1 else 0)] h Q = Q (some (.int (if c then 1 else 0))) h := ri_retZ (show rkM 157 = 2 from rfl) (by by_cases z : c; exact Or.inr (if_pos z); exact Or.inl (if_neg z))
theorem rt_158 {v : Int32} : RnI E 158 .ireturn nx ls [.int v] h Q = Q (some (.int v)) h := ri_retI (show rkM 158 = 1 from rfl)
theorem rt_159 : RnI E 159 .return_ nx ls [] h Q = Q none h := ri_ret0 (show rkM 159 = 0 from rfl)
theorem rt_160 : RnI E 160 .ireturn nx ls [.int 0] h Q = Q (some (.int 0)) h := ri_retZ (show rkM 160 = 2 from rfl) (Or.inl rfl)
theorem ru_160 : RnI E 160 .ireturn nx ls [.int 1] h Q = Q (some (.int 1)) h := ri_retZ (show rkM 160 = 2 from rfl) (Or.inr rfl)
theorem rx_160 {c : Prop} [Decidable c] : RnI E 160 .ireturn nx ls [.int (if c then 1 else 0)] h Q = Q (some (.int (if c then 1 else 0))) h := ri_retZ (show rkM 160 = 2 from rfl) (by by_cases z : c; exact Or.inr (if_pos z); exact Or.inl (if_neg z))
theorem rt_161 : RnI E 161 .return_ nx ls [] h Q = Q none h := ri_ret0 (show rkM 161 = 0 from rfl)
theorem rt_162 : RnI E 162 .return_ nx ls [] h Q = Q none h := ri_ret0 (show rkM 162 = 0 from rfl)
theorem rt_163 {v : Int32} : RnI E 163 .ireturn nx ls [.int v] h Q = Q (some (.int v)) h := ri_retI (show rkM 163 = 1 from rfl)
theorem rt_164 {v : Int64} : RnI E 164 .lreturn nx ls [.long v] h Q = Q (some (.long v)) h := ri_retL (show rkM 164 = 3 from rfl)
theorem rt_165 {v : Int32} : RnI E 165 .ireturn nx ls [.int v] h Q = Q (some (.int v)) h := ri_retI (show rkM 165 = 1 from rfl)
theorem rt_166 : RnI E 166 .ireturn nx ls [.int 0] h Q = Q (some (.int 0)) h := ri_retZ (show rkM 166 = 2 from rfl) (Or.inl rfl)
theorem ru_166 : RnI E 166 .ireturn nx ls [.int 1] h Q = Q (some (.int 1)) h := ri_retZ (show rkM 166 = 2 from rfl) (Or.inr rfl)
theorem rx_166 {c : Prop} [Decidable c] : RnI E 166 .ireturn nx ls [.int (if c then 1 else 0)] h Q = Q (some (.int (if c then 1 else 0))) h := ri_retZ (show rkM 166 = 2 from rfl) (by by_cases z : c; exact Or.inr (if_pos z); exact Or.inl (if_neg z))
theorem rt_167 {v : Int32} : RnI E 167 .ireturn nx ls [.int v] h Q = Q (some (.int v)) h := ri_retI (show rkM 167 = 1 from rfl)
theorem rt_168 : RnI E 168 .ireturn nx ls [.int 0] h Q = Q (some (.int 0)) h := ri_retZ (show rkM 168 = 2 from rfl) (Or.inl rfl)
theorem ru_168 : RnI E 168 .ireturn nx ls [.int 1] h Q = Q (some (.int 1)) h := ri_retZ (show rkM 168 = 2 from rfl) (Or.inr rfl)
theorem rx_168 {c : Prop} [Decidable c] : RnI E 168 .ireturn nx ls [.int (if c then 1 else 0)] h Q = Q (some (.int (if c then 1 else 0))) h := ri_retZ (show rkM 168 = 2 from rfl) (by by_cases z : c; exact Or.inr (if_pos z); exact Or.inl (if_neg z))
theorem rt_169 {v : Int32} : RnI E 169 .ireturn nx ls [.int v] h Q = Q (some (.int v)) h := ri_retI (show rkM 169 = 1 from rfl)
theorem rt_170 {v : Int64} : RnI E 170 .lreturn nx ls [.long v] h Q = Q (some (.long v)) h := ri_retL (show rkM 170 = 3 from rfl)
theorem rt_171 {v : Int32} : RnI E 171 .ireturn nx ls [.int v] h Q = Q (some (.int v)) h := ri_retI (show rkM 171 = 1 from rfl)
theorem rt_172 {v : Int32} : RnI E 172 .ireturn nx ls [.int v] h Q = Q (some (.int v)) h := ri_retI (show rkM 172 = 1 from rfl)
theorem rt_173 {v : Int32} : RnI E 173 .ireturn nx ls [.int v] h Q = Q (some (.int v)) h := ri_retI (show rkM 173 = 1 from rfl)
theorem rt_174 : RnI E 174 .ireturn nx ls [.int 0] h Q = Q (some (.int 0)) h := ri_retZ (show rkM 174 = 2 from rfl) (Or.inl rfl)
theorem ru_174 : RnI E 174 .ireturn nx ls [.int 1] h Q = Q (some (.int 1)) h := ri_retZ (show rkM 174 = 2 from rfl) (Or.inr rfl)
theorem rx_174 {c : Prop} [Decidable c] : RnI E 174 .ireturn nx ls [.int (if c then 1 else 0)] h Q = Q (some (.int (if c then 1 else 0))) h := ri_retZ (show rkM 174 = 2 from rfl) (by by_cases z : c; exact Or.inr (if_pos z); exact Or.inl (if_neg z))
theorem rt_175 {v : Int32} : RnI E 175 .ireturn nx ls [.int v] h Q = Q (some (.int v)) h := ri_retI (show rkM 175 = 1 from rfl)
theorem rt_176 {v : Int32} : RnI E 176 .ireturn nx ls [.int v] h Q = Q (some (.int v)) h := ri_retI (show rkM 176 = 1 from rfl)
theorem rt_177 : RnI E 177 .ireturn nx ls [.int 0] h Q = Q (some (.int 0)) h := ri_retZ (show rkM 177 = 2 from rfl) (Or.inl rfl)
theorem ru_177 : RnI E 177 .ireturn nx ls [.int 1] h Q = Q (some (.int 1)) h := ri_retZ (show rkM 177 = 2 from rfl) (Or.inr rfl)
theorem rx_177 {c : Prop} [Decidable c] : RnI E 177 .ireturn nx ls [.int (if c then 1 else 0)] h Q = Q (some (.int (if c then 1 else 0))) h := ri_retZ (show rkM 177 = 2 from rfl) (by by_cases z : c; exact Or.inr (if_pos z); exact Or.inl (if_neg z))
theorem rt_178 {v : Int32} : RnI E 178 .ireturn nx ls [.int v] h Q = Q (some (.int v)) h := ri_retI (show rkM 178 = 1 from rfl)
theorem rt_179 {v : Int64} : RnI E 179 .lreturn nx ls [.long v] h Q = Q (some (.long v)) h := ri_retL (show rkM 179 = 3 from rfl)
theorem rt_180 {v : Int32} : RnI E 180 .ireturn nx ls [.int v] h Q = Q (some (.int v)) h := ri_retI (show rkM 180 = 1 from rfl)
theorem rt_181 {v : Int32} : RnI E 181 .ireturn nx ls [.int v] h Q = Q (some (.int v)) h := ri_retI (show rkM 181 = 1 from rfl)
theorem rt_182 {v : Int32} : RnI E 182 .ireturn nx ls [.int v] h Q = Q (some (.int v)) h := ri_retI (show rkM 182 = 1 from rfl)
theorem rt_183 {v : Int32} : RnI E 183 .ireturn nx ls [.int v] h Q = Q (some (.int v)) h := ri_retI (show rkM 183 = 1 from rfl)
theorem rt_184 : RnI E 184 .return_ nx ls [] h Q = Q none h := ri_ret0 (show rkM 184 = 0 from rfl)
theorem rt_185 : RnI E 185 .ireturn nx ls [.int 0] h Q = Q (some (.int 0)) h := ri_retZ (show rkM 185 = 2 from rfl) (Or.inl rfl)
theorem ru_185 : RnI E 185 .ireturn nx ls [.int 1] h Q = Q (some (.int 1)) h := ri_retZ (show rkM 185 = 2 from rfl) (Or.inr rfl)
theorem rx_185 {c : Prop} [Decidable c] : RnI E 185 .ireturn nx ls [.int (if c then 1 else 0)] h Q = Q (some (.int (if c then 1 else 0))) h := ri_retZ (show rkM 185 = 2 from rfl) (by by_cases z : c; exact Or.inr (if_pos z); exact Or.inl (if_neg z))
theorem rt_186 {v : Int32} : RnI E 186 .ireturn nx ls [.int v] h Q = Q (some (.int v)) h := ri_retI (show rkM 186 = 1 from rfl)
theorem rt_187 {v : Int32} : RnI E 187 .ireturn nx ls [.int v] h Q = Q (some (.int v)) h := ri_retI (show rkM 187 = 1 from rfl)
theorem rt_188 {v : Int32} : RnI E 188 .ireturn nx ls [.int v] h Q = Q (some (.int v)) h := ri_retI (show rkM 188 = 1 from rfl)
theorem rt_189 {v : Int32} : RnI E 189 .ireturn nx ls [.int v] h Q = Q (some (.int v)) h := ri_retI (show rkM 189 = 1 from rfl)
theorem rt_190 {v : Int32} : RnI E 190 .ireturn nx ls [.int v] h Q = Q (some (.int v)) h := ri_retI (show rkM 190 = 1 from rfl)
theorem rt_191 {v : Int32} : RnI E 191 .ireturn nx ls [.int v] h Q = Q (some (.int v)) h := ri_retI (show rkM 191 = 1 from rfl)
theorem rt_192 {v : Int32} : RnI E 192 .ireturn nx ls [.int v] h Q = Q (some (.int v)) h := ri_retI (show rkM 192 = 1 from rfl)
theorem rt_193 {v : Int32} : RnI E 193 .ireturn nx ls [.int v] h Q = Q (some (.int v)) h := ri_retI (show rkM 193 = 1 from rfl)
theorem rt_194 : RnI E 194 .return_ nx ls [] h Q = Q none h := ri_ret0 (show rkM 194 = 0 from rfl)
theorem rt_195 {v : Int32} : RnI E 195 .ireturn nx ls [.int v] h Q = Q (some (.int v)) h := ri_retI (show rkM 195 = 1 from rfl)
theorem rt_196 {v : Int32} : RnI E 196 .ireturn nx ls [.int v] h Q = Q (some (.int v)) h := ri_retI (show rkM 196 = 1 from rfl)
theorem rt_197 {v : Int32} : RnI E 197 .ireturn nx ls [.int v] h Q = Q (some (.int v)) h := ri_retI (show rkM 197 = 1 from rfl)
theorem rt_198 : RnI E 198 .ireturn nx ls [.int 0] h Q = Q (some (.int 0)) h := ri_retZ (show rkM 198 = 2 from rfl) (Or.inl rfl)
theorem ru_198 : RnI E 198 .ireturn nx ls [.int 1] h Q = Q (some (.int 1)) h := ri_retZ (show rkM 198 = 2 from rfl) (Or.inr rfl)
theorem rx_198 {c : Prop} [Decidable c] : RnI E 198 .ireturn nx ls [.int (if c then 1 else 0)] h Q = Q (some (.int (if c then 1 else 0))) h := ri_retZ (show rkM 198 = 2 from rfl) (by by_cases z : c; exact Or.inr (if_pos z); exact Or.inl (if_neg z))
theorem rt_199 : RnI E 199 .return_ nx ls [] h Q = Q none h := ri_ret0 (show rkM 199 = 0 from rfl)
theorem rt_200 {v : Int32} : RnI E 200 .ireturn nx ls [.int v] h Q = Q (some (.int v)) h := ri_retI (show rkM 200 = 1 from rfl)
theorem rt_201 {v : Int32} : RnI E 201 .ireturn nx ls [.int v] h Q = Q (some (.int v)) h := ri_retI (show rkM 201 = 1 from rfl)
theorem rt_202 {v : Int32} : RnI E 202 .ireturn nx ls [.int v] h Q = Q (some (.int v)) h := ri_retI (show rkM 202 = 1 from rfl)
theorem rt_203 {v : Int32} : RnI E 203 .ireturn nx ls [.int v] h Q = Q (some (.int v)) h := ri_retI (show rkM 203 = 1 from rfl)
theorem rt_204 {v : Int32} : RnI E 204 .ireturn nx ls [.int v] h Q = Q (some (.int v)) h := ri_retI (show rkM 204 = 1 from rfl)
theorem rt_205 {v : Int32} : RnI E 205 .ireturn nx ls [.int v] h Q = Q (some (.int v)) h := ri_retI (show rkM 205 = 1 from rfl)
theorem rt_206 {v : Int32} : RnI E 206 .ireturn nx ls [.int v] h Q = Q (some (.int v)) h := ri_retI (show rkM 206 = 1 from rfl)
theorem rt_207 {v : Int32} : RnI E 207 .ireturn nx ls [.int v] h Q = Q (some (.int v)) h := ri_retI (show rkM 207 = 1 from rfl)
theorem rt_208 {v : Int32} : RnI E 208 .ireturn nx ls [.int v] h Q = Q (some (.int v)) h := ri_retI (show rkM 208 = 1 from rfl)
theorem rt_209 {v : Int32} : RnI E 209 .ireturn nx ls [.int v] h Q = Q (some (.int v)) h := ri_retI (show rkM 209 = 1 from rfl)
theorem rt_210 {v : Int32} : RnI E 210 .ireturn nx ls [.int v] h Q = Q (some (.int v)) h := ri_retI (show rkM 210 = 1 from rfl)
theorem rt_211 {v : Int32} : RnI E 211 .ireturn nx ls [.int v] h Q = Q (some (.int v)) h := ri_retI (show rkM 211 = 1 from rfl)
theorem rt_212 {v : Int32} : RnI E 212 .ireturn nx ls [.int v] h Q = Q (some (.int v)) h := ri_retI (show rkM 212 = 1 from rfl)
theorem rt_213 {v : Int32} : RnI E 213 .ireturn nx ls [.int v] h Q = Q (some (.int v)) h := ri_retI (show rkM 213 = 1 from rfl)
theorem rt_214 {v : Int32} : RnI E 214 .ireturn nx ls [.int v] h Q = Q (some (.int v)) h := ri_retI (show rkM 214 = 1 from rfl)
theorem rt_215 {v : Int32} : RnI E 215 .ireturn nx ls [.int v] h Q = Q (some (.int v)) h := ri_retI (show rkM 215 = 1 from rfl)
theorem rt_216 {v : Int64} : RnI E 216 .lreturn nx ls [.long v] h Q = Q (some (.long v)) h := ri_retL (show rkM 216 = 3 from rfl)
theorem rt_217 : RnI E 217 .ireturn nx ls [.int 0] h Q = Q (some (.int 0)) h := ri_retZ (show rkM 217 = 2 from rfl) (Or.inl rfl)
theorem ru_217 : RnI E 217 .ireturn nx ls [.int 1] h Q = Q (some (.int 1)) h := ri_retZ (show rkM 217 = 2 from rfl) (Or.inr rfl)
theorem rx_217 {c : Prop} [Decidable c] : RnI E 217 .ireturn nx ls [.int (if c then 1 else 0)] h Q = Q (some (.int (if c then 1 else 0))) h := ri_retZ (show rkM 217 = 2 from rfl) (by by_cases z : c; exact Or.inr (if_pos z); exact Or.inl (if_neg z))
end EQ
