/-! THE LAW'S ENTRY: the world of the engine, out of the claim's premises -/
def EE (L : Nat) (xs : Nat → Int32) : EX := fun j => match j with
  | 0 => (L, xs)
  | 1 => (5, fun k => ([32, 4, 2, 30, 5] : List Int32).getD k 0)
  | 2 => (5, fun k => ([1, 0, 1, 1, 0] : List Int32).getD k 0)
  | 3 => (5, fun k => ([99, 20, 9, 60, 30] : List Int32).getD k 0)
  | _ => (0, fun _ => 0)
def extF (b t1 t2 t3 : Nat) (ad : Nat → Nat) : Nat → Nat := fun j => match j with
  | 0 => b
  | 1 => t1
  | 2 => t2
  | 3 => t3
  | n + 4 => ad (n - 6)
theorem extF_ad {b t1 t2 t3 : Nat} {ad : Nat → Nat} (i : Nat) : extF b t1 t2 t3 ad (10 + i) = ad i := by
  rw [show 10 + i = (6 + i) + 4 by omega]
  show ad (6 + i - 6) = ad i
  rw [show 6 + i - 6 = i by omega]
theorem st_X {args : Array Value} {s : State} {tm : Term} {N : Nat} {f : Nat → Int32} (hN : N < 2 ^ 31) (harr : (Cond.arrayOf tm .int).before args s = true) (hlen : (Cond.eq (.length tm) (.int (Int32.ofNat N))).before args s = true) (hel : ∀ j : Nat, j < N → (Cond.eq (.elem tm (.int (Int32.ofNat j))) (.int (f j))).before args s = true) : ∃ t : Nat, tm.eval args s none [] s = some (.ref t) ∧ va_X t N f s s.heap ∧ t < s.heap.size := by
  obtain ⟨t, ht, cell, h1, h2, h3, h4, h5, h6, -⟩ := va_Tof (f := fun j => .int (f j)) (A := fun _ => False) hN harr (va_eqt hlen) (fun j hj => va_eqt (hel j hj)) (fun _ _ q => q)
  have hl := va_eqt hlen
  obtain ⟨t2, cell2, e1, e2, e3⟩ := Term.length_spec hl
  cases ht.symm.trans e1
  obtain ⟨g1, -, -, -⟩ := State.arrayAt?_spec e2
  cases h1.symm.trans g1
  have hlt : cell.slots.size < 2 ^ 31 := by
    simp only [Term.eval, ht, e2] at hl
    by_cases q : cell.slots.size < 2 ^ 31
    · exact q
    · simp [q, e2] at hl
  have hsz : cell.slots.size = N := by
    have a1 : (Int32.ofNat cell.slots.size).toNatClampNeg = cell.slots.size := Int32.toNatClampNeg_ofNat_of_lt hlt
    have a2 : (Int32.ofNat N).toNatClampNeg = N := Int32.toNatClampNeg_ofNat_of_lt hN
    have a3 : Int32.ofNat cell.slots.size = Int32.ofNat N := h5
    rw [← a1, a3, a2]
  exact ⟨t, ht, ⟨cell, h1, h2, h3, hsz, h6⟩, (Array.getElem?_eq_some_iff.mp h1).1⟩
theorem st_cls {args : Array Value} {s : State} (hts : ∀ w ∈ gTbl, w.before args s = true) : ∃ D : va_G, ∀ (c : Nat) (q : vw_C), clsL[c]? = some q → u_Kn s q.1 q.2.1 q.2.2 (D.1 c) (D.2 c) := by
  have h0 : ∀ c : Nat, ∃ x : ClassId × (Nat → Nat), ∀ q : vw_C, clsL[c]? = some q → u_Kn s q.1 q.2.1 q.2.2 x.1 x.2 := by
    intro c
    cases hq : clsL[c]? with
    | none => exact ⟨(default, fun _ => 0), fun q h => by cases h⟩
    | some q =>
      have hin := (cls_ok c q hq).1
      have key : ∃ (cC : ClassId) (iS : Nat → Nat), u_Kn s q.1 q.2.1 q.2.2 cC iS := by
        match c, hq with
        | 0, hq => cases hq; exact u_known (n := 2) hts hin (hts _ (hasG_in (p := 162) (by decide +kernel)))
        | 1, hq => cases hq; exact u_known (n := 5) hts hin (hts _ (hasG_in (p := 270) (by decide +kernel)))
        | 2, hq => cases hq; exact u_known (n := 3) hts hin (hts _ (hasG_in (p := 154) (by decide +kernel)))
        | 3, hq => cases hq; exact u_known (n := 4) hts hin (hts _ (hasG_in (p := 317) (by decide +kernel)))
        | 4, hq => cases hq; exact u_known (n := 5) hts hin (hts _ (hasG_in (p := 295) (by decide +kernel)))
        | 5, hq => cases hq; exact u_known (n := 7) hts hin (hts _ (hasG_in (p := 95) (by decide +kernel)))
        | 6, hq => cases hq; exact u_known (n := 8) hts hin (hts _ (hasG_in (p := 169) (by decide +kernel)))
        | 7, hq => cases hq; exact u_known (n := 3) hts hin (hts _ (hasG_in (p := 254) (by decide +kernel)))
        | 8, hq => cases hq; exact u_known (n := 5) hts hin (hts _ (hasG_in (p := 336) (by decide +kernel)))
        | 9, hq => cases hq; exact u_known (n := 5) hts hin (hts _ (hasG_in (p := 126) (by decide +kernel)))
        | 10, hq => cases hq; exact u_known (n := 11) hts hin (hts _ (hasG_in (p := 87) (by decide +kernel)))
        | 11, hq => cases hq; exact u_known (n := 29) hts hin (hts _ (hasG_in (p := 1025) (by decide +kernel)))
        | k + 12, hq => simp [clsL] at hq
      obtain ⟨cC, iS, h⟩ := key
      exact ⟨(cC, iS), fun q2 h2 => by cases h2; exact h⟩
  obtain ⟨f, hf⟩ := Classical.axiomOfChoice h0
  exact ⟨(fun c => (f c).1, fun c => (f c).2), fun c q hq => hf c q hq⟩
theorem st_arr {args : Array Value} {s : State} {ty : FieldType} (h : (Cond.arrayClass ty).before args s = true) : ∃ cA : ClassId, ArrOfT s cA ty ∧ s.vm.findClass ("[" ++ ty.toString) = some cA := by
  obtain ⟨cA, kA, comp, h1, h2, h3⟩ := Cond.arrayClass_spec h
  exact ⟨cA, fun n z => ⟨fun k q => (by cases q), kA, h2, comp, h3⟩, h1⟩
theorem st_arrO {args : Array Value} {s : State} {C : String} (h : (Cond.arrayOver (.object C)).before args s = true) : ∃ cA : ClassId, ArrOfT s cA (.object C) ∧ va_RA s cA (.object C) := by
  obtain ⟨comp, cA, kA, h1, h2, h3, h4, h5⟩ := Cond.arrayOver_spec h
  exact ⟨cA, fun n z => ⟨fun k q => (by cases q), kA, h3, comp, h4⟩, kA, comp, h3, h4, h1, h5⟩
def tmS (i : Nat) : Term := Term.string "OnlyBatteries$Text" (([70, 76, 78, 80, 82, 84, 86] : List Nat).getD i 0)
def tmT (j : Nat) : Term := Term.static "OnlyBatteries" (statN.getD j "") "[I"
def fl1 : List Cond := flatC (Jvm.Cond.and given_1 narrow_1)
set_option maxRecDepth 100000 in
theorem n_str : ∀ i : Nat, i < 7 → Cond.exactly (tmS i) "java/lang/String" ∈ fl1 ∧ Cond.eq (.field (tmS i) "java/lang/String" "coder" "B") (.int 0) ∈ fl1 ∧ Cond.arrayOf (.field (tmS i) "java/lang/String" "value" "[B") .byte ∈ fl1 ∧ Cond.eq (.length (.field (tmS i) "java/lang/String" "value" "[B")) (.int (Int32.ofNat (lensS.getD i 0))) ∈ fl1 := by decide +kernel
set_option maxRecDepth 100000 in
theorem n_chs : ∀ i : Nat, i < 7 → ∀ j : Nat, j < lensS.getD i 0 → Cond.eq (.elem (.field (tmS i) "java/lang/String" "value" "[B") (.int (Int32.ofNat j))) (.int ((bytsS.getD i []).getD j 0)) ∈ fl1 := by decide +kernel
set_option maxRecDepth 100000 in
theorem n_dif : ∀ i : Nat, i < 7 → ∀ j : Nat, j < 7 → i ≠ j → Cond.not (Cond.eq (tmS i) (tmS j)) ∈ fl1 ∨ Cond.not (Cond.eq (tmS j) (tmS i)) ∈ fl1 := by decide +kernel
set_option maxRecDepth 100000 in
theorem n_tun : ∀ j : Nat, j < 3 → Cond.arrayOf (tmT (j + 1)) .int ∈ fl1 ∧ Cond.eq (.length (tmT (j + 1))) (.int (Int32.ofNat 5)) ∈ fl1 := by decide +kernel
set_option maxRecDepth 100000 in
theorem n_tuv : ∀ j : Nat, j < 3 → ∀ k : Nat, k < 5 → Cond.eq (.elem (tmT (j + 1)) (.int (Int32.ofNat k))) (.int ((EE 0 (fun _ => 0) (j + 1)).2 k)) ∈ fl1 := by decide +kernel
set_option maxRecDepth 100000 in
theorem n_one : Cond.exactly (tmT 1) "[I" ∈ fl1 ∧ Cond.eq (.static "java/lang/String" "COMPACT_STRINGS" "Z") (.int 1) ∈ fl1 ∧ Cond.isRef (.static "jdk/internal/util/Preconditions" "SIOOBE_FORMATTER" "Ljava/util/function/BiFunction;") ∈ fl1 := by decide +kernel
/-- the world at the law's entry -/
theorem wd_start {s : State} {b L : Nat} {xs : Nat → Int32} (hts : ∀ w ∈ lw_tbl, w.before #[Value.ref b] s = true) (hX : va_X b L xs s s.heap) (hbl : b < s.heap.size) (hgv : (Jvm.Cond.and given_1 narrow_1).before #[Value.ref b] s = true) : ∃ (ext : Nat → Nat) (DA : Nat → ClassId) (D : va_G), ext 0 = b ∧ Wd s.heap.size ext DA D (EE L xs) s := by
  have hN : ∀ w ∈ fl1, w.before #[Value.ref b] s = true := flat_of_before _ hgv
  have hG : ∀ w ∈ gTbl, w.before #[Value.ref b] s = true := fun w hw => hts w (List.mem_filter.mp hw).1
  have hA : ∀ a : Nat, a < s.heap.size → ¬ Ab s.heap.size a := fun a h => Nat.not_le.mpr h
  obtain ⟨D, hD⟩ := st_cls hG
  obtain ⟨c0, a0, b0⟩ := st_arr (hts (.arrayClass .int) (hasW_in (p := 124) (by decide +kernel)))
  obtain ⟨c1, a1, b1⟩ := st_arr (hts (.arrayClass .long) (hasW_in (p := 152) (by decide +kernel)))
  obtain ⟨c2, a2, b2⟩ := st_arr (hts (.arrayClass .byte) (hasW_in (p := 123) (by decide +kernel)))
  obtain ⟨c3, a3, b3⟩ := st_arr (hts (.arrayClass .boolean) (hasW_in (p := 397) (by decide +kernel)))
  have o4 := hts (.arrayOver (.object "OnlyBatteries$Theft")) (hasW_in (p := 168) (by decide +kernel))
  have o5 := hts (.arrayOver (.object "OnlyBatteries$Book")) (hasW_in (p := 361) (by decide +kernel))
  obtain ⟨c4, a4, b4⟩ := st_arrO o4
  obtain ⟨c5, a5, b5⟩ := st_arrO o5
  obtain ⟨t1, e1, x1, l1⟩ := st_X (f := (EE L xs 1).2) (by decide) (hN _ (n_tun 0 (by decide)).1) (hN _ (n_tun 0 (by decide)).2) (fun k hk => hN _ (n_tuv 0 (by decide) k hk))
  obtain ⟨t2, e2, x2, l2⟩ := st_X (f := (EE L xs 2).2) (by decide) (hN _ (n_tun 1 (by decide)).1) (hN _ (n_tun 1 (by decide)).2) (fun k hk => hN _ (n_tuv 1 (by decide) k hk))
  obtain ⟨t3, e3, x3, l3⟩ := st_X (f := (EE L xs 3).2) (by decide) (hN _ (n_tun 2 (by decide)).1) (hN _ (n_tun 2 (by decide)).2) (fun k hk => hN _ (n_tuv 2 (by decide) k hk))
  obtain ⟨adK, adV, hK, hev⟩ := vk_Sof (N := 7) (tm := tmS) (len := lensS) (byt := bytsS) (A := Ab s.heap.size) (by decide) (fun i hi => hN _ (n_str i hi).1) (fun i hi => hN _ (n_str i hi).2.1) (fun i hi => hN _ (n_str i hi).2.2.1) (fun i hi => hN _ (n_str i hi).2.2.2) (fun i hi j hj => hN _ (n_chs i hi j hj)) (fun i j hi hj q => (n_dif i hi j hj q).imp (hN _) (hN _)) hA
  refine ⟨extF b t1 t2 t3 adK, fun t => match t with | 0 => c0 | 1 => c1 | 2 => c2 | 3 => c3 | 4 => c4 | _ => c5, D, rfl, ⟨⟨hD, fun k q hk => ?_⟩, va_AO.of o4, va_AO.of o5⟩, fun w hw hn => ?_, ⟨fun j hj => ?_, ?_⟩, fun j h1 h2 => ?_, fun x hx => ?_, ⟨adV, ?_⟩, ?_, ?_, Nat.le_refl _⟩
  · match k, hk with
    | 0, hk => cases hk; exact ⟨a0, b0⟩
    | 1, hk => cases hk; exact ⟨a1, b1⟩
    | 2, hk => cases hk; exact ⟨a2, b2⟩
    | 3, hk => cases hk; exact ⟨a3, b3⟩
    | 4, hk => cases hk; exact ⟨a4, b4⟩
    | 5, hk => cases hk; exact ⟨a5, b5⟩
    | k + 6, hk => simp [tysL] at hk
  · have h1 := hts w hw
    unfold isNst at hn
    split at hn
    · exact va_Nw.of rfl h1
    · exact va_Nw.of rfl h1
    · exact va_Nw.of rfl h1
    · cases hn
  · match j, hj with
    | 0, _ => exact ⟨hX, hbl⟩
    | 1, _ => exact ⟨x1, l1⟩
    | 2, _ => exact ⟨x2, l2⟩
    | 3, _ => exact ⟨x3, l3⟩
    | j + 4, h => omega
  · obtain ⟨a, cc, cell, kA, q1, q2, q3, q4, q5, q6, -⟩ := Cond.exactly_spec (hN _ n_one.1)
    cases e1.symm.trans q1
    have hc : cc = c0 := Option.some.inj (q2.symm.trans b0)
    exact ⟨cell, q3, q5, q6.trans hc⟩
  · have hini : (Cond.initialized "OnlyBatteries").before #[Value.ref b] s = true := hG _ (hasG_in (p := 65) (by decide +kernel))
    match j, h1, h2 with
    | 1, _, _ => exact va_Zof (hts _ (hasW_in (p := 227) (by decide +kernel))) hini e1 hA
    | 2, _, _ => exact va_Zof (hts _ (hasW_in (p := 624) (by decide +kernel))) hini e2 hA
    | 3, _, _ => exact va_Zof (hts _ (hasW_in (p := 626) (by decide +kernel))) hini e3 hA
    | 0, h, _ => omega
    | j + 4, _, h => omega
  · have key : ∀ i : Nat, i < 7 → vk_R "OnlyBatteries$Text" (([70, 76, 78, 80, 82, 84, 86] : List Nat).getD i 0) (strN.getD i "") (extF b t1 t2 t3 adK (10 + i)) s := by
      intro i hi
      rw [extF_ad]
      refine vk_R.of (A := #[Value.ref b]) (hts _ ?_) (hev i hi)
      · skip
        match i, hi with
        | 0, _ => exact hasW_in (p := 465) (by decide +kernel)
        | 1, _ => exact hasW_in (p := 518) (by decide +kernel)
        | 2, _ => exact hasW_in (p := 519) (by decide +kernel)
        | 3, _ => exact hasW_in (p := 520) (by decide +kernel)
        | 4, _ => exact hasW_in (p := 521) (by decide +kernel)
        | 5, _ => exact hasW_in (p := 522) (by decide +kernel)
        | 6, _ => exact hasW_in (p := 523) (by decide +kernel)
        | i + 7, h => omega
    simp only [lsT, List.mem_cons, List.not_mem_nil, or_false] at hx
    rcases hx with rfl | rfl | rfl | rfl | rfl | rfl | rfl
    · exact key 0 (by decide)
    · exact key 1 (by decide)
    · exact key 2 (by decide)
    · exact key 3 (by decide)
    · exact key 4 (by decide)
    · exact key 5 (by decide)
    · exact key 6 (by decide)
  · have e : (fun i => extF b t1 t2 t3 adK (10 + i)) = adK := funext fun i => extF_ad i
    rw [e]
    exact hK
  · exact va_Zof (hts _ (hasW_in (p := 479) (by decide +kernel))) (hG _ w_inis.1) (va_eqi (hN _ n_one.2.1)) hA
  · rcases va_Zqof (A := Ab s.heap.size) (hts _ (hasW_in (p := 495) (by decide +kernel))) (hG _ w_inis.2.2) (hN _ n_one.2.2) hA with h | ⟨t, h⟩
    · exact ⟨.null, h, Or.inl rfl⟩
    · exact ⟨.ref t, h, Or.inr ⟨t, rfl⟩⟩
