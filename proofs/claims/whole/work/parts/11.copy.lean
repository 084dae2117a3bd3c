theorem inn_of {z : Int32} (hz : 0 ≤ z.toInt) : z.toInt = (z.toNatClampNeg : Int) := by
  show z.toInt = ((z.toInt.toNat : Nat) : Int)
  omega
theorem fits_i (v : Int32) : fits .int (.int v) = true := rfl
theorem fits_l (v : Int64) : fits .long (.long v) = true := rfl
section COPY
variable {p : Program} {l : Launch} {e : Env} {R : Room} {s : State} {m : MethodId} {args : Array Value} {below : List Frame} {meth : Method} {c : Code} {Q : State → Prop} {base : Nat} {ext : Nat → Nat} {DA : Nat → ClassId} {D : va_G} {E : EX} {n0 s0 M pc nx : Nat} {ls r : List Value} {h : AH}
/-- what the checks say of a call that the engine knows by itself -/
theorem intr_get {n : Nat} (hc : chkB M pc (.invokedynamic n) nx = true) : ∃ (ins : Instr) (w j q : Nat), nx % 10000 = pc % 10000 + 3 ∧ decode (bM M) (pc % 10000) = .ok (ins, 3) ∧ 1 ≤ frM M ∧ 20 ≤ loM M ∧ w = owM M ∧ (match n % 10 with
      | 0 => decide (ins = .invokestatic j) && hasG q (.methodLink (ownS w) j arraycopyName) && Nat.ble 26 (loM M)
      | 1 => decide (ins = .invokevirtual j) && hasG q (.methodLink (ownS w) j ⟨"[I", "clone", "()Ljava/lang/Object;"⟩) && Nat.ble 22 (loM M)
      | 2 => decide (ins = .invokevirtual j) && hasG q (.methodLink (ownS w) j yJ0_length_8abf5) && Nat.ble 5 (frM M) && Nat.ble 120 (loM M)
      | 3 => decide (ins = .invokevirtual j) && hasG q (.methodLink (ownS w) j yJ0_charAt_5068e) && Nat.ble 5 (frM M) && Nat.ble 120 (loM M)
      | 4 => decide (ins = .invokespecial j) && hasG q (.methodLink (ownS w) j objectInit)
      | 5 => decide (ins = .invokestatic j) && hasG q (.methodLink (ownS w) j Lib.Math.min.name) && Nat.ble 30 (loM M)
      | 6 => decide (ins = .invokestatic j) && hasG q (.methodLink (ownS w) j Lib.Math.max.name) && Nat.ble 30 (loM M)
      | _ => false) = true := by
  obtain ⟨hlt, ins, len, hd, hr⟩ := chk_get (show chkR M pc (.invokedynamic n) nx = true from hc)
  simp only [relB, Bool.and_eq_true] at hr
  obtain ⟨⟨⟨⟨hn, h3⟩, hf⟩, hl⟩, hr⟩ := hr
  have hnx := (Nat.mod_eq_of_lt hlt).trans (Nat.eq_of_beq_eq_true hn)
  rw [Nat.eq_of_beq_eq_true h3] at hd
  have hf := Nat.le_of_ble_eq_true hf
  have hl := Nat.le_of_ble_eq_true hl
  split at hr
  · next w j q he =>
    simp only [Bool.and_eq_true] at hr
    exact ⟨ins, w, j, q, hnx, hd, hf, by omega, Nat.eq_of_beq_eq_true hr.1, hr.2⟩
  · cases hr
set_option maxHeartbeats 4000000 in
theorem ss_copyI (C : Cx p s m args meth c M) (w : Wd base ext DA D E s) (hRf : frM M ≤ R.frames) (hRl : loM M ≤ R.locals) {k0 a b na nb : Nat} {ra rb : List Nat} {sp dp n : Int32} (hk0 : k0 % 10 = 0) (hx : h.1[a]? = some (.inr (0, na, ra))) (hy : h.1[b]? = some (.inr (0, nb, rb)))
    (g1 : 0 ≤ sp.toInt) (g2 : 0 ≤ dp.toInt) (g3 : 0 ≤ n.toInt) (g4 : sp.toNatClampNeg + n.toNatClampNeg ≤ na) (g5 : dp.toNatClampNeg + n.toNatClampNeg ≤ nb) (g6 : cs r ≤ 8) (hc : chkB M pc (.invokedynamic k0) nx = true)
    (k : WW p l e R s m args below meth c Q base ext DA D n0 s0 M nx ls r (h.1, u1 h.2.1 b (va_cpy (h.2.1 a) (h.2.1 b) sp.toNatClampNeg dp.toNatClampNeg n.toNatClampNeg), h.2.2)) : WW p l e R s m args below meth c Q base ext DA D n0 s0 M pc ls (.int n :: .int dp :: .ref b :: .int sp :: .ref a :: r) h := by
  obtain ⟨ins, w1, j, q, hnx, hd, hf, hl, hw1, hr⟩ := intr_get hc
  rw [hk0] at hr
  simp only [Bool.and_eq_true, decide_eq_true_eq] at hr
  obtain ⟨⟨rfl, hg⟩, hl2⟩ := hr
  have hl2 := Nat.le_of_ble_eq_true hl2
  rw [hw1] at hg
  intro H locs arr hH hS hL
  have k1 := fun H1 locs1 q1 q2 => k H1 locs1 arr q1 q2 hL
  simp only [hnx] at k1
  have ha : a < 1000000 := Nat.lt_of_lt_of_le (kd_lt hx) hH.1.2
  have hb : b < 1000000 := Nat.lt_of_lt_of_le (kd_lt hy) hH.1.2
  have e0 : ((Value.int n :: Value.int dp :: Value.ref b :: Value.int sp :: Value.ref a :: r).map (cv base ext)) = .int n :: .int dp :: .ref (base + b) :: .int sp :: .ref (base + a) :: r.map (cv base ext) := by
    simp only [List.map_cons, cv_ref ha, cv_ref hb]; rfl
  rw [e0]
  have hts := C.2.2.2.2.2.2.2
  have hc0 : H[base + a]? = some (arrV (DA 0) na (fun z => .int (h.2.1 a z))) := hH.2 a _ (cz_arr hx)
  have hc1 : H[base + b]? = some (arrV (DA 0) nb (fun z => .int (h.2.1 b z))) := hH.2 b _ (cz_arr hy)
  obtain ⟨-, k9, hk9, cm9, hkk9⟩ := (w.1.1.2 0 _ (tys_get DA (by decide))).1 na (fun z => .int (h.2.1 a z))
  intro T hT X
  obtain ⟨vm', X', step⟩ := X.arraycopy C.1 C.2.2.2.2.1 (hts _ (hasG_in hg)) (hts _ w_acp2) (hts _ w_acp1) (hts _ w_acp3) (src := base + a) (dst := base + b) (cs := arrV (DA 0) na (fun z => .int (h.2.1 a z))) (cd := arrV (DA 0) nb (fun z => .int (h.2.1 b z))) (srcPos := sp) (destPos := dp) (n := n) (by rw [hT]; exact hc0) (by rw [hT]; exact hc1)
    (fun _ q => by cases q) (fun _ q => by cases q) (fun q => by cases q) (fun q => by cases q) hk9 hk9 hkk9 hkk9 (by rfl) (neg_of g1) (neg_of g2) (neg_of g3)
    (by rw [inn_of g1, inn_of g3, arrV_size]; omega) (by rw [inn_of g2, inn_of g3, arrV_size]; omega)
    (fun vm1 _ i hi => by
      have e1 : (arrV (DA 0) na (fun z => .int (h.2.1 a z))).slots.getD (sp.toNatClampNeg + i) .null = .int (h.2.1 a (sp.toNatClampNeg + i)) := by
        rw [Array.getD_eq_getD_getElem?, arrV_read _ _ (by omega)]
        rfl
      rw [e1]
      exact ⟨fits_i _, trivial⟩)
    (g := F0 m (pc % 10000) arr (.int n :: .int dp :: .ref (base + b) :: .int sp :: .ref (base + a) :: r.map (cv base ext))) rfl (by rw [C.2.2.1]; exact hL.1) (rest := r.map (cv base ext)) rfl (by rw [C.2.1]; exact hd) (by omega) (by show 2 * 0 + _ + 18 ≤ _; rw [cs_map]; omega)
  have e1 : copied (arrV (DA 0) na (fun z => .int (h.2.1 a z))) (arrV (DA 0) nb (fun z => .int (h.2.1 b z))) sp dp n = arrV (DA 0) nb (fun z => .int (va_cpy (h.2.1 a) (h.2.1 b) sp.toNatClampNeg dp.toNatClampNeg n.toNatClampNeg z)) := va_copied (fun z => .int z) _ _ (h.2.1 a) (h.2.1 b) g4
  rw [e1] at X' step
  have hlb : base + b < H.size := (Array.getElem?_eq_some_iff.mp hc1).1
  generalize hV : arrV (DA 0) nb (fun z => .int (va_cpy (h.2.1 a) (h.2.1 b) sp.toNatClampNeg dp.toNatClampNeg n.toNatClampNeg z)) = V at X' step
  have oq : ∀ q : Nat, q ≠ base + b → (H.setIfInBounds (base + b) V)[q]? = H[q]? := fun q hq => by simp [Array.getElem?_setIfInBounds, Ne.symm hq]
  obtain ⟨t, a1, b1⟩ := k1 (H.setIfInBounds (base + b) V) (locs ++ _) (hH.upd (a := b) rfl (fun i hi => ce_u1I hi) (by simp) (fun _ => by
      rw [ce_arr (h := (h.1, u1 h.2.1 b (va_cpy (h.2.1 a) (h.2.1 b) sp.toNatClampNeg dp.toNatClampNeg n.toNatClampNeg), h.2.2)) (a := b) hy]
      show (H.setIfInBounds (base + b) V)[base + b]? = some (vp_cell _ _)
      simp only [cax]
      rw [vp_cell_i, Array.getElem?_setIfInBounds_self_of_lt hlb, ← hV]
      simp only [u1, if_true]) oq) ⟨by simp; exact hS.1, fun q q1 q2 => by
      rw [oq q (fun z => q2 (by rw [z]; exact Nat.le_add_right _ _))]
      exact hS.2.1 q q1 q2, fun q hq => by
      rcases List.mem_append.mp hq with z | z
      · exact hS.2.2 q z
      · obtain ⟨y, -, hz⟩ := List.mem_map.mp z
        rw [← hz]
        exact Nat.le_add_right _ _⟩ ((T.setVm vm').setCell (base + b) V) (by rw [← hT]; rfl) X'
  exact ⟨t, step t a1, b1⟩
set_option maxHeartbeats 4000000 in
theorem ss_copyL (C : Cx p s m args meth c M) (w : Wd base ext DA D E s) (hRf : frM M ≤ R.frames) (hRl : loM M ≤ R.locals) {k0 a b na nb : Nat} {ra rb : List Nat} {sp dp n : Int32} (hk0 : k0 % 10 = 0) (hx : h.1[a]? = some (.inr (1, na, ra))) (hy : h.1[b]? = some (.inr (1, nb, rb)))
    (g1 : 0 ≤ sp.toInt) (g2 : 0 ≤ dp.toInt) (g3 : 0 ≤ n.toInt) (g4 : sp.toNatClampNeg + n.toNatClampNeg ≤ na) (g5 : dp.toNatClampNeg + n.toNatClampNeg ≤ nb) (g6 : cs r ≤ 8) (hc : chkB M pc (.invokedynamic k0) nx = true)
    (k : WW p l e R s m args below meth c Q base ext DA D n0 s0 M nx ls r (h.1, h.2.1, u1 h.2.2 b (va_cpy (h.2.2 a) (h.2.2 b) sp.toNatClampNeg dp.toNatClampNeg n.toNatClampNeg))) : WW p l e R s m args below meth c Q base ext DA D n0 s0 M pc ls (.int n :: .int dp :: .ref b :: .int sp :: .ref a :: r) h := by
  obtain ⟨ins, w1, j, q, hnx, hd, hf, hl, hw1, hr⟩ := intr_get hc
  rw [hk0] at hr
  simp only [Bool.and_eq_true, decide_eq_true_eq] at hr
  obtain ⟨⟨rfl, hg⟩, hl2⟩ := hr
  have hl2 := Nat.le_of_ble_eq_true hl2
  rw [hw1] at hg
  intro H locs arr hH hS hL
  have k1 := fun H1 locs1 q1 q2 => k H1 locs1 arr q1 q2 hL
  simp only [hnx] at k1
  have ha : a < 1000000 := Nat.lt_of_lt_of_le (kd_lt hx) hH.1.2
  have hb : b < 1000000 := Nat.lt_of_lt_of_le (kd_lt hy) hH.1.2
  have e0 : ((Value.int n :: Value.int dp :: Value.ref b :: Value.int sp :: Value.ref a :: r).map (cv base ext)) = .int n :: .int dp :: .ref (base + b) :: .int sp :: .ref (base + a) :: r.map (cv base ext) := by
    simp only [List.map_cons, cv_ref ha, cv_ref hb]; rfl
  rw [e0]
  have hts := C.2.2.2.2.2.2.2
  have hc0 : H[base + a]? = some (arrV (DA 1) na (fun z => .long (h.2.2 a z))) := hH.2 a _ (cz_arr hx)
  have hc1 : H[base + b]? = some (arrV (DA 1) nb (fun z => .long (h.2.2 b z))) := hH.2 b _ (cz_arr hy)
  obtain ⟨-, k9, hk9, cm9, hkk9⟩ := (w.1.1.2 1 _ (tys_get DA (by decide))).1 na (fun z => .long (h.2.2 a z))
  intro T hT X
  obtain ⟨vm', X', step⟩ := X.arraycopy C.1 C.2.2.2.2.1 (hts _ (hasG_in hg)) (hts _ w_acp2) (hts _ w_acp1) (hts _ w_acp3) (src := base + a) (dst := base + b) (cs := arrV (DA 1) na (fun z => .long (h.2.2 a z))) (cd := arrV (DA 1) nb (fun z => .long (h.2.2 b z))) (srcPos := sp) (destPos := dp) (n := n) (by rw [hT]; exact hc0) (by rw [hT]; exact hc1)
    (fun _ q => by cases q) (fun _ q => by cases q) (fun q => by cases q) (fun q => by cases q) hk9 hk9 hkk9 hkk9 (by rfl) (neg_of g1) (neg_of g2) (neg_of g3)
    (by rw [inn_of g1, inn_of g3, arrV_size]; omega) (by rw [inn_of g2, inn_of g3, arrV_size]; omega)
    (fun vm1 _ i hi => by
      have e1 : (arrV (DA 1) na (fun z => .long (h.2.2 a z))).slots.getD (sp.toNatClampNeg + i) .null = .long (h.2.2 a (sp.toNatClampNeg + i)) := by
        rw [Array.getD_eq_getD_getElem?, arrV_read _ _ (by omega)]
        rfl
      rw [e1]
      exact ⟨fits_l _, trivial⟩)
    (g := F0 m (pc % 10000) arr (.int n :: .int dp :: .ref (base + b) :: .int sp :: .ref (base + a) :: r.map (cv base ext))) rfl (by rw [C.2.2.1]; exact hL.1) (rest := r.map (cv base ext)) rfl (by rw [C.2.1]; exact hd) (by omega) (by show 2 * 0 + _ + 18 ≤ _; rw [cs_map]; omega)
  have e1 : copied (arrV (DA 1) na (fun z => .long (h.2.2 a z))) (arrV (DA 1) nb (fun z => .long (h.2.2 b z))) sp dp n = arrV (DA 1) nb (fun z => .long (va_cpy (h.2.2 a) (h.2.2 b) sp.toNatClampNeg dp.toNatClampNeg n.toNatClampNeg z)) := va_copied (fun z => .long z) _ _ (h.2.2 a) (h.2.2 b) g4
  rw [e1] at X' step
  have hlb : base + b < H.size := (Array.getElem?_eq_some_iff.mp hc1).1
  generalize hV : arrV (DA 1) nb (fun z => .long (va_cpy (h.2.2 a) (h.2.2 b) sp.toNatClampNeg dp.toNatClampNeg n.toNatClampNeg z)) = V at X' step
  have oq : ∀ q : Nat, q ≠ base + b → (H.setIfInBounds (base + b) V)[q]? = H[q]? := fun q hq => by simp [Array.getElem?_setIfInBounds, Ne.symm hq]
  obtain ⟨t, a1, b1⟩ := k1 (H.setIfInBounds (base + b) V) (locs ++ _) (hH.upd (a := b) rfl (fun i hi => ce_u1L hi) (by simp) (fun _ => by
      rw [ce_arr (h := (h.1, h.2.1, u1 h.2.2 b (va_cpy (h.2.2 a) (h.2.2 b) sp.toNatClampNeg dp.toNatClampNeg n.toNatClampNeg))) (a := b) hy]
      show (H.setIfInBounds (base + b) V)[base + b]? = some (vp_cell _ _)
      simp only [cax]
      rw [vp_cell_l, Array.getElem?_setIfInBounds_self_of_lt hlb, ← hV]
      simp only [u1, if_true]) oq) ⟨by simp; exact hS.1, fun q q1 q2 => by
      rw [oq q (fun z => q2 (by rw [z]; exact Nat.le_add_right _ _))]
      exact hS.2.1 q q1 q2, fun q hq => by
      rcases List.mem_append.mp hq with z | z
      · exact hS.2.2 q z
      · obtain ⟨y, -, hz⟩ := List.mem_map.mp z
        rw [← hz]
        exact Nat.le_add_right _ _⟩ ((T.setVm vm').setCell (base + b) V) (by rw [← hT]; rfl) X'
  exact ⟨t, step t a1, b1⟩
theorem ss_objinit (C : Cx p s m args meth c M) (hRf : frM M ≤ R.frames) (hRl : loM M ≤ R.locals) {k0 a : Nat} (hk0 : k0 % 10 = 4) (g6 : cs r ≤ 8) (hc : chkB M pc (.invokedynamic k0) nx = true) (k : WW p l e R s m args below meth c Q base ext DA D n0 s0 M nx ls r h) : WW p l e R s m args below meth c Q base ext DA D n0 s0 M pc ls (.ref a :: r) h := by
  obtain ⟨ins, w1, j, q, hnx, hd, hf, hl, hw1, hr⟩ := intr_get hc
  rw [hk0] at hr
  simp only [Bool.and_eq_true, decide_eq_true_eq] at hr
  obtain ⟨rfl, hg⟩ := hr
  rw [hw1] at hg
  intro H locs arr hH hS hL
  have k1 := k H locs arr hH hS hL
  simp only [hnx] at k1
  have hts := C.2.2.2.2.2.2.2
  exact W.objInit C.1 C.2.1 C.2.2.2.2.1 (hts _ (hasG_in hg)) (hts _ w_oinit1) (hts _ w_oinit2) rfl (by rw [C.2.2.1]; exact hL.1) rfl hd (by omega) (by show 2 * 0 + _ + 12 ≤ _; rw [cs_map]; omega) k1
theorem ss_min (C : Cx p s m args meth c M) (hRf : frM M ≤ R.frames) (hRl : loM M ≤ R.locals) (hRc : h.1.length - n0 ≤ R.cells) (hRs : sl h.1 - s0 ≤ R.slots) {k0 : Nat} {x y : Int32} (hk0 : k0 % 10 = 5) (g6 : cs r ≤ 8) (hc : chkB M pc (.invokedynamic k0) nx = true) (k : WW p l e R s m args below meth c Q base ext DA D n0 s0 M nx ls (.int (if y < x then y else x) :: r) h) : WW p l e R s m args below meth c Q base ext DA D n0 s0 M pc ls (.int y :: .int x :: r) h := by
  obtain ⟨ins, w1, j, q, hnx, hd, hf, hl, hw1, hr⟩ := intr_get hc
  rw [hk0] at hr
  simp only [Bool.and_eq_true, decide_eq_true_eq] at hr
  obtain ⟨⟨rfl, hg⟩, hl2⟩ := hr
  have hl2 := Nat.le_of_ble_eq_true hl2
  rw [hw1] at hg
  intro H locs arr hH hS hL
  have k1 := k H locs arr hH hS hL
  simp only [hnx] at k1
  have hts := C.2.2.2.2.2.2.2
  exact va_mmin C.1 C.2.1 (C.2.2.1.trans hL.1.symm) C.2.2.2.2.1 (hts _ (hasG_in hg)) (hts _ w_mi1) (hts _ w_ma0) (hts _ w_mi2) (by omega) (by rw [cs_map]; omega) hRc hRs hd k1
theorem ss_max (C : Cx p s m args meth c M) (hRf : frM M ≤ R.frames) (hRl : loM M ≤ R.locals) (hRc : h.1.length - n0 ≤ R.cells) (hRs : sl h.1 - s0 ≤ R.slots) {k0 : Nat} {x y : Int32} (hk0 : k0 % 10 = 6) (g6 : cs r ≤ 8) (hc : chkB M pc (.invokedynamic k0) nx = true) (k : WW p l e R s m args below meth c Q base ext DA D n0 s0 M nx ls (.int (if x < y then y else x) :: r) h) : WW p l e R s m args below meth c Q base ext DA D n0 s0 M pc ls (.int y :: .int x :: r) h := by
  obtain ⟨ins, w1, j, q, hnx, hd, hf, hl, hw1, hr⟩ := intr_get hc
  rw [hk0] at hr
  simp only [Bool.and_eq_true, decide_eq_true_eq] at hr
  obtain ⟨⟨rfl, hg⟩, hl2⟩ := hr
  have hl2 := Nat.le_of_ble_eq_true hl2
  rw [hw1] at hg
  intro H locs arr hH hS hL
  have k1 := k H locs arr hH hS hL
  simp only [hnx] at k1
  have hts := C.2.2.2.2.2.2.2
  exact va_mmax C.1 C.2.1 (C.2.2.1.trans hL.1.symm) C.2.2.2.2.1 (hts _ (hasG_in hg)) (hts _ w_mx1) (hts _ w_ma0) (hts _ w_mx2) (by omega) (by rw [cs_map]; omega) hRc hRs hd k1
end COPY
