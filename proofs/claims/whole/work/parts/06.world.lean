/-! THE WORLD: what of a JVM heap a heap of the engine is. Cell i stands at base + i; what was there before at ext. -/
def ca (base : Nat) (ext : Nat → Nat) (a : Nat) : Nat := if a < 1000000 then base + a else ext (a - 1000000)
def cv (base : Nat) (ext : Nat → Nat) (v : Value) : Value := match v with
  | .ref a => .ref (ca base ext a)
  | v => v
def rva (base : Nat) (ext : Nat → Nat) (c : Nat) : Option Nat := match c with
  | 0 => none
  | a + 1 => some (ca base ext a)
def fval (base : Nat) (ext : Nat → Nat) (h : AH) (i ci : Nat) (rs : List Nat) (k : Nat) : Value := match fk ci k with
  | 0 => .int (h.2.1 i k)
  | 1 => .long (h.2.2 i k)
  | _ => cv base ext (rv (rs.getD k 0))
def cfl (base : Nat) (ext : Nat → Nat) (h : AH) (i ci : Nat) (rs : List Nat) : List Value := (List.range (nF ci)).map fun k => fval base ext h i ci rs k
theorem fval_0 {base : Nat} {ext : Nat → Nat} {h : AH} {i ci k : Nat} {rs : List Nat} (e : fk ci k = 0) : fval base ext h i ci rs k = .int (h.2.1 i k) := by simp [fval, e]
theorem fval_1 {base : Nat} {ext : Nat → Nat} {h : AH} {i ci k : Nat} {rs : List Nat} (e : fk ci k = 1) : fval base ext h i ci rs k = .long (h.2.2 i k) := by simp [fval, e]
theorem fval_2 {base : Nat} {ext : Nat → Nat} {h : AH} {i ci k : Nat} {rs : List Nat} (e : fk ci k = 2) : fval base ext h i ci rs k = cv base ext (rv (rs.getD k 0)) := by simp [fval, e]
def cax (base : Nat) (ext : Nat → Nat) (h : AH) (i t n : Nat) (rs : List Nat) : vp_A := match t with
  | 0 => (n, .inl (h.2.1 i))
  | 1 => (n, .inr (.inl (h.2.2 i)))
  | 2 => (n, .inl (h.2.1 i))
  | 3 => (n, .inl (h.2.1 i))
  | _ => (n, .inr (.inr (.inr (.inr (fun j => rva base ext (rs.getD j 0))))))
def ce (base : Nat) (ext : Nat → Nat) (DA : Nat → ClassId) (h : AH) (i : Nat) : va_E := match h.1[i]? with
  | some (.inl (ci, rs)) => .inr (ci, cfl base ext h i ci rs)
  | some (.inr (t, n, rs)) => .inl (DA t, cax base ext h i t n rs)
  | none => .inr (0, [])
def cz (base : Nat) (ext : Nat → Nat) (DA : Nat → ClassId) (h : AH) : va_W := (List.range h.1.length).map fun i => (base + i, ce base ext DA h i)
def tysL (DA : Nat → ClassId) : List (ClassId × FieldType) := (List.range 6).map fun t => (DA t, tyA t)
def Ab (base : Nat) : Nat → Prop := fun q => base ≤ q
def Hold (base : Nat) (ext : Nat → Nat) (DA : Nat → ClassId) (D : va_G) (h : AH) (H : Heap) : Prop := (H.size = base + h.1.length ∧ h.1.length ≤ 1000000) ∧ va_P D clsL (cz base ext DA h) H
section WORLD
variable {base : Nat} {ext : Nat → Nat} {DA : Nat → ClassId} {D : va_G} {h h1 : AH} {H H1 : Heap}
theorem cz_len : (cz base ext DA h).length = h.1.length := by simp [cz]
theorem cz_get {i : Nat} (hi : i < h.1.length) : (cz base ext DA h)[i]? = some (base + i, ce base ext DA h i) := by
  simp [cz, hi]
theorem cz_inv {k : Nat} {q : Nat × va_E} (hk : (cz base ext DA h)[k]? = some q) : k < h.1.length ∧ q = (base + k, ce base ext DA h k) := by
  have hl : k < h.1.length := by
    have := (List.getElem?_eq_some_iff.mp hk).1
    rwa [cz_len] at this
  rw [cz_get hl] at hk
  exact ⟨hl, (Option.some.inj hk).symm⟩
theorem cz_D : va_D (Ab base) (cz base ext DA h) := by
  refine ⟨fun i j p q hi hj e => ?_, fun k q hk => ?_⟩
  · obtain ⟨-, rfl⟩ := cz_inv hi
    obtain ⟨-, rfl⟩ := cz_inv hj
    simpa using e
  · obtain ⟨-, rfl⟩ := cz_inv hk
    exact Nat.le_add_right _ _
theorem kd_lt {a : Nat} {x : Kd} (hx : h.1[a]? = some x) : a < h.1.length := (List.getElem?_eq_some_iff.mp hx).1
theorem ce_obj {a ci : Nat} {rs : List Nat} (hx : h.1[a]? = some (.inl (ci, rs))) : ce base ext DA h a = .inr (ci, cfl base ext h a ci rs) := by
  simp [ce, hx]
theorem ce_arr {a t n : Nat} {rs : List Nat} (hx : h.1[a]? = some (.inr (t, n, rs))) : ce base ext DA h a = .inl (DA t, cax base ext h a t n rs) := by
  simp [ce, hx]
theorem cz_obj {a ci : Nat} {rs : List Nat} (hx : h.1[a]? = some (.inl (ci, rs))) : (cz base ext DA h)[a]? = some (base + a, .inr (ci, cfl base ext h a ci rs)) := by
  rw [cz_get (kd_lt hx), ce_obj hx]
theorem cz_arr {a t n : Nat} {rs : List Nat} (hx : h.1[a]? = some (.inr (t, n, rs))) : (cz base ext DA h)[a]? = some (base + a, .inl (DA t, cax base ext h a t n rs)) := by
  rw [cz_get (kd_lt hx), ce_arr hx]
theorem cfl_get {a ci k : Nat} {rs : List Nat} (hk : k < nF ci) : (cfl base ext h a ci rs)[k]? = some (fval base ext h a ci rs k) := by
  simp [cfl, hk]
theorem cfl_len {a ci : Nat} {rs : List Nat} : (cfl base ext h a ci rs).length = nF ci := by simp [cfl]
theorem Hold.upd {a : Nat} (hH : Hold base ext DA D h H) (hlen : h1.1.length = h.1.length) (hne : ∀ i, i ≠ a → ce base ext DA h1 i = ce base ext DA h i) (hz : H1.size = H.size)
    (hat : a < h.1.length → va_at D clsL (base + a, ce base ext DA h1 a) H1) (oq : ∀ q : Nat, q ≠ base + a → H1[q]? = H[q]?) : Hold base ext DA D h1 H1 := by
  refine ⟨⟨by rw [hz, hH.1.1, hlen], by rw [hlen]; exact hH.1.2⟩, fun k q hk => ?_⟩
  obtain ⟨hl, rfl⟩ := cz_inv hk
  rw [hlen] at hl
  by_cases hka : k = a
  · subst hka
    exact hat hl
  · rw [hne k hka]
    exact (hH.2 k _ (cz_get hl)).kept (oq _ (by simp; omega))
theorem Hold.push {x : Kd} {cell : Cell} {I1 : Nat → Nat → Int32} {L1 : Nat → Nat → Int64} (hH : Hold base ext DA D h H) (hlt : h.1.length < 1000000) (hne : ∀ i, i < h.1.length → ce base ext DA (h.1 ++ [x], I1, L1) i = ce base ext DA h i)
    (hat : va_at D clsL (base + h.1.length, ce base ext DA (h.1 ++ [x], I1, L1) h.1.length) (H.push cell)) : Hold base ext DA D (h.1 ++ [x], I1, L1) (H.push cell) := by
  refine ⟨⟨by simp [hH.1.1]; omega, by simp; omega⟩, fun k q hk => ?_⟩
  obtain ⟨hl, rfl⟩ := cz_inv hk
  simp at hl
  by_cases hka : k = h.1.length
  · subst hka
    exact hat
  · have hk2 : k < h.1.length := by omega
    rw [hne k hk2]
    refine (hH.2 k _ (cz_get hk2)).kept ?_
    have : base + k < H.size := by rw [hH.1.1]; omega
    simp only [Array.getElem?_push]
    rw [if_neg (by omega)]
theorem va_S.pushed {A : Nat → Prop} {H0 : Heap} {locs : List Loc} {cell : Cell} (hS : va_S A H0 H locs) : va_S A H0 (H.push cell) locs := by
  refine ⟨by simp; exact Nat.le_succ_of_le hS.1, fun q h1 h2 => ?_, hS.2.2⟩
  rw [Array.getElem?_push, if_neg (Nat.ne_of_lt (Nat.lt_of_lt_of_le h1 hS.1))]
  exact hS.2.1 q h1 h2
theorem tys_get (DA : Nat → ClassId) {t : Nat} (ht : t < 6) : (tysL DA)[t]? = some (DA t, tyA t) := by
  simp [tysL, ht]
theorem ce_u2I {K : List Kd} {I : Nat → Nat → Int32} {L : Nat → Nat → Int64} {a k : Nat} {x : Int32} {i : Nat} (hi : i ≠ a) : ce base ext DA (K, u2 I a k x, L) i = ce base ext DA (K, I, L) i := by
  have e : u2 I a k x i = I i := by funext j; simp [u2, hi]
  unfold ce cfl fval cax
  simp only [e]
theorem ce_u2L {K : List Kd} {I : Nat → Nat → Int32} {L : Nat → Nat → Int64} {a k : Nat} {x : Int64} {i : Nat} (hi : i ≠ a) : ce base ext DA (K, I, u2 L a k x) i = ce base ext DA (K, I, L) i := by
  have e : u2 L a k x i = L i := by funext j; simp [u2, hi]
  unfold ce cfl fval cax
  simp only [e]
theorem ce_u1I {K : List Kd} {I : Nat → Nat → Int32} {L : Nat → Nat → Int64} {a : Nat} {f : Nat → Int32} {i : Nat} (hi : i ≠ a) : ce base ext DA (K, u1 I a f, L) i = ce base ext DA (K, I, L) i := by
  have e : u1 I a f i = I i := by simp [u1, hi]
  unfold ce cfl fval cax
  simp only [e]
theorem ce_u1L {K : List Kd} {I : Nat → Nat → Int32} {L : Nat → Nat → Int64} {a : Nat} {f : Nat → Int64} {i : Nat} (hi : i ≠ a) : ce base ext DA (K, I, u1 L a f) i = ce base ext DA (K, I, L) i := by
  have e : u1 L a f i = L i := by simp [u1, hi]
  unfold ce cfl fval cax
  simp only [e]
theorem ce_set {K : List Kd} {I : Nat → Nat → Int32} {L : Nat → Nat → Int64} {a : Nat} {x : Kd} {i : Nat} (hi : i ≠ a) : ce base ext DA (K.set a x, I, L) i = ce base ext DA (K, I, L) i := by
  have e : (K.set a x)[i]? = K[i]? := by rw [List.getElem?_set_ne (Ne.symm hi)]
  unfold ce cfl fval cax
  simp only [e]
theorem ce_new {K : List Kd} {I : Nat → Nat → Int32} {L : Nat → Nat → Int64} {x : Kd} {f : Nat → Int32} {g : Nat → Int64} {i : Nat} (hi : i < K.length) : ce base ext DA (K ++ [x], u1 I K.length f, u1 L K.length g) i = ce base ext DA (K, I, L) i := by
  have e1 : u1 I K.length f i = I i := by simp [u1, Nat.ne_of_lt hi]
  have e2 : u1 L K.length g i = L i := by simp [u1, Nat.ne_of_lt hi]
  have e3 : (K ++ [x])[i]? = K[i]? := by rw [List.getElem?_append_left hi]
  unfold ce cfl fval cax
  simp only [e1, e2, e3]
end WORLD
/-! the locals -/
def lvo (base : Nat) (ext : Nat → Nat) : Nat → List Value → List (Nat × Value)
  | _, [] => []
  | i, v :: vs => match v with
    | .retAddr _ => lvo base ext (i + 1) vs
    | v => (i, cv base ext v) :: lvo base ext (i + 1) vs
theorem lvo_mem {base : Nat} {ext : Nat → Nat} : ∀ (ls : List Value) (k : Nat) (q : Nat × Value), q ∈ lvo base ext k ls ↔ ∃ (j : Nat) (v : Value), ls[j]? = some v ∧ (∀ n, v ≠ .retAddr n) ∧ q = (k + j, cv base ext v) := by
  intro ls
  induction ls with
  | nil => intro k q; simp [lvo]
  | cons w ls ih =>
    intro k q
    have key : q ∈ lvo base ext k (w :: ls) ↔ ((∀ n, w ≠ .retAddr n) ∧ q = (k, cv base ext w)) ∨ q ∈ lvo base ext (k + 1) ls := by
      cases w <;> simp [lvo]
    rw [key, ih]
    constructor
    · rintro (⟨h1, rfl⟩ | ⟨j, v, h1, h2, rfl⟩)
      · exact ⟨0, w, rfl, h1, rfl⟩
      · exact ⟨j + 1, v, by simpa using h1, h2, by simp; omega⟩
    · rintro ⟨j, v, h1, h2, rfl⟩
      cases j with
      | zero =>
        simp at h1
        subst h1
        exact Or.inl ⟨h2, rfl⟩
      | succ j => exact Or.inr ⟨j, v, by simpa using h1, h2, by simp; omega⟩
theorem cv_cat (base : Nat) (ext : Nat → Nat) (v : Value) : (cv base ext v).category = v.category := by cases v <;> rfl
def LHd (base : Nat) (ext : Nat → Nat) (ls : List Value) (arr : Array Slot) (nL : Nat) : Prop := lv_has arr nL (lvo base ext 0 ls)
theorem LHd.at {base : Nat} {ext : Nat → Nat} {ls : List Value} {arr : Array Slot} {nL i : Nat} {v : Value} (h : LHd base ext ls arr nL) (hi : ls[i]? = some v) (hv : ∀ n, v ≠ .retAddr n) : arr[i]? = some (.val (cv base ext v)) :=
  h.2.2 (i, cv base ext v) ((lvo_mem ls 0 _).mpr ⟨i, v, hi, hv, by simp⟩)
theorem lv_mono {arr : Array Slot} {nL : Nat} {l l' : List (Nat × Value)} (h : lv_has arr nL l) (hs : ∀ q ∈ l', q ∈ l) : lv_has arr nL l' := ⟨h.1, h.2.1, fun q hq => h.2.2 q (hs q hq)⟩
theorem LHd.take {base : Nat} {ext : Nat → Nat} {ls : List Value} {arr : Array Slot} {nL : Nat} (k : Nat) (h : LHd base ext ls arr nL) : LHd base ext (ls.take k) arr nL := by
  refine lv_mono h (fun q hq => ?_)
  obtain ⟨j, v, h1, h2, rfl⟩ := (lvo_mem _ _ _).mp hq
  rw [List.getElem?_take] at h1
  split at h1
  · exact (lvo_mem _ _ _).mpr ⟨j, v, h1, h2, rfl⟩
  · cases h1
theorem kp_get {ls : List Value} {i j : Nat} {v : Value} (h : (kp ls i)[j]? = some v) (hv : ∀ n, v ≠ .retAddr n) : ls[j]? = some v ∧ (j + 1 = i → ¬ v.category = 2) := by
  cases i with
  | zero => exact ⟨h, fun e => by omega⟩
  | succ i =>
    simp only [kp] at h
    cases hw : ls[i]? with
    | none =>
      rw [hw] at h
      refine ⟨h, fun e => ?_⟩
      have : j = i := by omega
      subst this
      rw [hw] at h
      cases h
    | some w =>
      rw [hw] at h
      simp only at h
      split at h
      · by_cases hji : j = i
        · subst hji
          have hl : j < ls.length := (List.getElem?_eq_some_iff.mp hw).1
          rw [List.getElem?_set_self hl] at h
          exact absurd (Option.some.inj h).symm (hv 0)
        · rw [List.getElem?_set_ne (Ne.symm hji)] at h
          exact ⟨h, fun e => by omega⟩
      · next hc =>
        refine ⟨h, fun e => ?_⟩
        have : j = i := by omega
        subst this
        rw [hw] at h
        cases h
        exact hc
theorem rep_jk {n j : Nat} {v : Value} (h : (List.replicate n jk)[j]? = some v) : v = jk := by
  rw [List.getElem?_replicate] at h
  split at h
  · exact (Option.some.inj h).symm
  · cases h
theorem app_jk {l : List Value} {n j : Nat} {v : Value} (h : (l ++ List.replicate n jk)[j]? = some v) (hv : ∀ n, v ≠ .retAddr n) : l[j]? = some v := by
  by_cases hl : j < l.length
  · rwa [List.getElem?_append_left hl] at h
  · rw [List.getElem?_append_right (by omega)] at h
    exact absurd (rep_jk h) (hv 0)
theorem LHd.put1 {base : Nat} {ext : Nat → Nat} {ls : List Value} {arr' : Array Slot} {nL i : Nat} {v : Value}
    (h' : lv_has arr' nL ((i, cv base ext v) :: (lvo base ext 0 ls).filter (fun q => !(q.1 == i) && !(q.1 + 1 == i && q.2.category == 2)))) : LHd base ext (sto1 ls i v) arr' nL := by
  refine lv_mono h' (fun q hq => ?_)
  obtain ⟨j, w, h1, h2, rfl⟩ := (lvo_mem _ _ _).mp hq
  simp only [sto1] at h1
  by_cases hji : j = i
  · subst hji
    rw [List.getElem?_set] at h1
    simp at h1
    obtain ⟨-, rfl⟩ := h1
    simp
  · rw [List.getElem?_set_ne (Ne.symm hji)] at h1
    have h3 := app_jk h1 h2
    obtain ⟨h4, h5⟩ := kp_get h3 h2
    refine List.mem_cons_of_mem _ (List.mem_filter.mpr ⟨(lvo_mem _ _ _).mpr ⟨j, w, h4, h2, rfl⟩, ?_⟩)
    simp only [Nat.zero_add, cv_cat, Bool.and_eq_true, Bool.not_eq_true', beq_eq_false_iff_ne, Bool.and_eq_false_iff]
    refine ⟨hji, ?_⟩
    by_cases e : j + 1 = i
    · exact Or.inr (h5 e)
    · exact Or.inl e
theorem LHd.put2 {base : Nat} {ext : Nat → Nat} {ls : List Value} {arr' : Array Slot} {nL i : Nat} {v : Value}
    (h' : lv_has arr' nL ((i, cv base ext v) :: (lvo base ext 0 ls).filter (fun q => !(q.1 == i) && (!(q.1 == i + 1) && !(q.1 + 1 == i && q.2.category == 2))))) : LHd base ext (sto2 ls i v) arr' nL := by
  refine lv_mono h' (fun q hq => ?_)
  obtain ⟨j, w, h1, h2, rfl⟩ := (lvo_mem _ _ _).mp hq
  simp only [sto2] at h1
  by_cases hj1 : j = i + 1
  · subst hj1
    rw [List.getElem?_set] at h1
    simp at h1
    exact absurd h1.2.symm (h2 0)
  · rw [List.getElem?_set_ne (Ne.symm hj1)] at h1
    by_cases hji : j = i
    · subst hji
      rw [List.getElem?_set] at h1
      simp at h1
      obtain ⟨-, rfl⟩ := h1
      simp
    · rw [List.getElem?_set_ne (Ne.symm hji)] at h1
      have h3 := app_jk h1 h2
      obtain ⟨h4, h5⟩ := kp_get h3 h2
      refine List.mem_cons_of_mem _ (List.mem_filter.mpr ⟨(lvo_mem _ _ _).mpr ⟨j, w, h4, h2, rfl⟩, ?_⟩)
      simp only [Nat.zero_add, cv_cat, Bool.and_eq_true, Bool.not_eq_true', beq_eq_false_iff_ne, Bool.and_eq_false_iff]
      refine ⟨hji, hj1, ?_⟩
      by_cases e : j + 1 = i
      · exact Or.inr (h5 e)
      · exact Or.inl e
theorem ent_mem {base : Nat} {ext : Nat → Nat} : ∀ (av : List Value) (k : Nat), ∀ q ∈ lvo base ext k (ent av), q ∈ lv_args k (av.map (cv base ext)) := by
  intro av
  induction av with
  | nil => intro k q hq; simp [ent, lvo] at hq
  | cons v av ih =>
    intro k q hq
    by_cases hc : v.category = 2
    · simp only [ent, hc, if_true] at hq
      simp only [List.map_cons, lv_args, cv_cat, hc, if_true]
      obtain ⟨j, w, h1, h2, rfl⟩ := (lvo_mem _ _ _).mp hq
      cases j with
      | zero =>
        simp at h1
        subst h1
        simp
      | succ j =>
        cases j with
        | zero =>
          simp at h1
          exact absurd h1.symm (h2 0)
        | succ j =>
          refine List.mem_cons_of_mem _ (ih (k + 2) _ ((lvo_mem _ _ _).mpr ⟨j, w, by simpa using h1, h2, by simp; omega⟩))
    · simp only [ent, hc, if_false] at hq
      simp only [List.map_cons, lv_args, cv_cat, hc, if_false]
      obtain ⟨j, w, h1, h2, rfl⟩ := (lvo_mem _ _ _).mp hq
      cases j with
      | zero =>
        simp at h1
        subst h1
        simp
      | succ j =>
        refine List.mem_cons_of_mem _ (ih (k + 1) _ ((lvo_mem _ _ _).mpr ⟨j, w, by simpa using h1, h2, by simp; omega⟩))
theorem ent_len {base : Nat} {ext : Nat → Nat} : ∀ (av : List Value), (lg_sl (av.map (cv base ext))).length = (ent av).length := by
  intro av
  induction av with
  | nil => rfl
  | cons v av ih =>
    simp only [lg_sl] at ih
    by_cases hc : v.category = 2 <;> simp [ent, lg_sl, hc, cv_cat, ih] <;> omega
theorem LHd.entry {base : Nat} {ext : Nat → Nat} {av : List Value} {n : Nat} (hn : (ent av).length ≤ n) : LHd base ext (ent av) ((lg_sl (av.map (cv base ext)) ++ List.replicate (n - (lg_sl (av.map (cv base ext))).length) Slot.unset).toArray) n :=
  lv_mono (lv_entry _ (by rw [ent_len]; exact hn)) (fun q hq => ent_mem av 0 q hq)
