/-! Inv, PIECE BY PIECE: 0 text, 1 year, 2 book, 3 images, 4 tunes, 5 walks; 6 trace -/
def relP (p a k : Nat) : Bool := match p with
  | 0 => (decide (a = 1) && decide (k = 2)) || decide (a = 2) || (decide (a = 106) && decide (k = 6)) || decide (a = 110)
  | 1 => decide (a = 9) || decide (a = 11) || (decide (a = 106) && decide (k = 14)) || (decide (a = 111) && decide (k < 48)) || (decide (a = 112) && decide (k < 8))
  | 2 => decide (a = 13) || (decide (15 ≤ a) && decide (a ≤ 38)) || decide (a = 107)
  | 3 => decide (a = 53) || (decide (54 ≤ a) && decide (a ≤ 105)) || decide (a = 108) || decide (a = 109)
  | 4 => decide (a = 39) || decide (a = 114)
  | 5 => decide (a = 41) || (decide (a = 111) && decide (k < 48))
  | _ => false
def relQ (p a k : Nat) : Bool := match p with
  | 1 => decide (a = 9) || decide (a = 10) || decide (a = 12) || (decide (a = 106) && decide (k = 17)) || (decide (a = 113) && decide (k < 8))
  | 5 => decide (a = 40)
  | 6 => decide (a = 0) || (decide (a = 106) && decide (k = 1)) || decide (a = 10)
  | _ => false
def Ag (p : Nat) (I J : Nat → Nat → Int32) : Prop := ∀ a k, relP p a k = true → J a k = I a k
def Al (p : Nat) (L M : Nat → Nat → Int64) : Prop := ∀ a k, relQ p a k = true → M a k = L a k
theorem Ag.rf {p : Nat} {I : Nat → Nat → Int32} : Ag p I I := fun _ _ _ => rfl
theorem Al.rf {p : Nat} {L : Nat → Nat → Int64} : Al p L L := fun _ _ _ => rfl
theorem Ag.tr {p : Nat} {I J K : Nat → Nat → Int32} (h : Ag p I J) (g : Ag p J K) : Ag p I K := fun a k z => (g a k z).trans (h a k z)
theorem Al.tr {p : Nat} {I J K : Nat → Nat → Int64} (h : Al p I J) (g : Al p J K) : Al p I K := fun a k z => (g a k z).trans (h a k z)
theorem Ag.w {p : Nat} {I J : Nat → Nat → Int32} (h : Ag p I J) {a k : Nat} {v : Int32} (z : relP p a k = false) : Ag p I (u2 J a k v) := fun b j q => (if_neg (fun e => by rw [e.1, e.2, z] at q; cases q) : (if b = a ∧ j = k then v else J b j) = J b j).trans (h b j q)
theorem Al.w {p : Nat} {I J : Nat → Nat → Int64} (h : Al p I J) {a k : Nat} {v : Int64} (z : relQ p a k = false) : Al p I (u2 J a k v) := fun b j q => (if_neg (fun e => by rw [e.1, e.2, z] at q; cases q) : (if b = a ∧ j = k then v else J b j) = J b j).trans (h b j q)
theorem Ag.w1 {p : Nat} {I J : Nat → Nat → Int32} (h : Ag p I J) {a : Nat} {v : Nat → Int32} (z : ∀ k, relP p a k = false) : Ag p I (u1 J a v) := fun b j q => by
  have e : ¬ b = a := fun e => by rw [e, z j] at q; cases q
  show (if b = a then v else J b) j = I b j
  rw [if_neg e]
  exact h b j q
theorem Al.w1 {p : Nat} {I J : Nat → Nat → Int64} (h : Al p I J) {a : Nat} {v : Nat → Int64} (z : ∀ k, relQ p a k = false) : Al p I (u1 J a v) := fun b j q => by
  have e : ¬ b = a := fun e => by rw [e, z j] at q; cases q
  show (if b = a then v else J b) j = I b j
  rw [if_neg e]
  exact h b j q
theorem relP_nt {p : Nat} (hp : p ≠ 2) (t k : Nat) : relP p (thd 13 t) k = false ∧ relP p (thd 13 t + 1) k = false := by
  have := thd_lo t
  have key : ∀ a, 15 ≤ a → a ≤ 38 → relP p a k = false := by
    intro a h1 h2
    apply Bool.eq_false_iff.mpr
    intro q
    match p, hp, q with
    | 0, _, q => simp only [relP, Bool.or_eq_true, Bool.and_eq_true, decide_eq_true_eq] at q; omega
    | 1, _, q => simp only [relP, Bool.or_eq_true, Bool.and_eq_true, decide_eq_true_eq] at q; omega
    | 2, hp, _ => exact hp rfl
    | 3, _, q => simp only [relP, Bool.or_eq_true, Bool.and_eq_true, decide_eq_true_eq] at q; omega
    | 4, _, q => simp only [relP, Bool.or_eq_true, Bool.and_eq_true, decide_eq_true_eq] at q; omega
    | 5, _, q => simp only [relP, Bool.or_eq_true, Bool.and_eq_true, decide_eq_true_eq] at q; omega
    | p + 6, _, q => cases q
  exact ⟨key _ (by omega) (by omega), key _ (by omega) (by omega)⟩
theorem Ag.wt {p : Nat} {I J : Nat → Nat → Int32} (h : Ag p I J) (hp : p ≠ 2) {t k : Nat} {v : Int32} : Ag p I (u2 J (thd 13 t) k v) := h.w (relP_nt hp t k).1
theorem Ag.wc {p : Nat} {I J : Nat → Nat → Int32} (h : Ag p I J) (hp : p ≠ 2) {t k : Nat} {v : Int32} : Ag p I (u2 J (thd 13 t + 1) k v) := h.w (relP_nt hp t k).2
theorem relP_y {k : Nat} : (k < 48 → relP 1 111 k = true ∧ relP 5 111 k = true) ∧ (k < 8 → relP 1 112 k = true ∧ relQ 1 113 k = true) := by
  refine ⟨fun h => ⟨?_, ?_⟩, fun h => ⟨?_, ?_⟩⟩
  all_goals
    simp only [relP, relQ]
    rw [decide_eq_true h]
    simp
theorem relP_t (t k : Nat) : relP 2 (thd 13 t) k = true ∧ relP 2 (thd 13 t + 1) k = true := by
  have := thd_lo t
  constructor
  all_goals
    simp only [relP, Bool.or_eq_true, Bool.and_eq_true, decide_eq_true_eq]
    omega
theorem relP_b (b t k : Nat) : relP 3 (thd (bk b) t) k = true ∧ relP 3 (thd (bk b) t + 1) k = true ∧ relP 3 (bk b) k = true := by
  have := thb_lo b t
  refine ⟨?_, ?_, ?_⟩
  all_goals
    simp only [relP, Bool.or_eq_true, Bool.and_eq_true, decide_eq_true_eq]
    omega
theorem InvT.fr {I J : Nat → Nat → Int32} (i : InvT I) (h : Ag 0 I J) : InvT J := by
  obtain ⟨n, hn, t1, t2, t3⟩ := i
  refine ⟨n, hn, (h 1 2 rfl).trans t1, (h 106 6 rfl).trans t2, fun i hi => ?_⟩
  rw [h 2 i rfl, h 110 i rfl]
  exact t3 i hi
theorem InvY.fr {nc : Nat} {I J : Nat → Nat → Int32} {L M : Nat → Nat → Int64} (i : InvY nc I L) (h : Ag 1 I J) (g : Al 1 L M) : InvY nc J M := by
  obtain ⟨y0, y1, y2, y3, y4, y5, y6⟩ := i
  refine ⟨y0, (h 9 3 rfl).trans y1, (h 106 14 rfl).trans y2, fun k hk => ?_, fun k hk => ?_, ?_, fun c hc => ?_⟩
  · rw [h 11 k rfl, h 112 k (relP_y.2 (by omega)).1]
    exact y3 k hk
  · rw [g 113 k (relP_y.2 (by omega)).2, g 12 k rfl]
    exact y4 k hk
  · rw [g 106 17 rfl, g 9 4 rfl]
    exact y5
  · obtain ⟨w, hw, w1, w2⟩ := y6 c hc
    refine ⟨w, hw, (h 111 c (relP_y.1 hc).1).trans w1, fun e he => ?_⟩
    rw [g 10 e rfl]
    exact w2 e he
theorem InvB.fr {nc : Nat} {I J : Nat → Nat → Int32} (i : InvB nc I) (h : Ag 2 I J) : InvB nc J := BokR_eq i (h 13 1 rfl) (fun t f => h _ f (relP_t t f).1) (fun t f => h _ f (relP_t t f).2) (fun k => h 107 k rfl)
theorem InvI.fr {nc : Nat} {I J : Nat → Nat → Int32} (im : InvI nc I) (h : Ag 3 I J) : InvI nc J := fun i hi => by
  rcases im i hi with ⟨a1, a2⟩ | ⟨a1, a2, a3⟩
  · exact Or.inl ⟨(h 53 i rfl).trans a1, (h 109 i rfl).trans a2⟩
  · exact Or.inr ⟨(h 53 i rfl).trans a1, (h 109 i rfl).trans a2, BokR_eq a3 (h _ 1 (relP_b i 0 1).2.2) (fun t f => h _ f (relP_b i t f).1) (fun t f => h _ f (relP_b i t f).2.1) (fun k => h 108 _ rfl)⟩
theorem InvU.fr {I J : Nat → Nat → Int32} (i : InvU I) (h : Ag 4 I J) : InvU J := by
  obtain ⟨u, u1, u2⟩ := i
  refine ⟨u, fun i hi => ?_, u2⟩
  rw [h 39 i rfl, h 114 i rfl]
  exact u1 i hi
theorem InvW.fr {I J : Nat → Nat → Int32} {L M : Nat → Nat → Int64} (iw : InvW I L) (h : Ag 5 I J) (g : Al 5 L M) : InvW J M := fun f hf hk c hc => by
  rw [h 41 _ rfl, wayF_congr (g2 := grI J) (g := grI I) (fun d hd => ?_) hf hc]
  · rw [g 40 2 rfl] at hk
    exact iw f hf hk c hc
  · unfold grI
    rw [h 111 d (relP_y.1 hd).2]
theorem InvA.fr {L M : Nat → Nat → Int64} (i : InvA L) (g : Al 6 L M) : InvA M := by
  refine ⟨?_, fun e he c hc => ?_⟩
  · rw [g 0 10 rfl, g 106 1 rfl]
    exact i.1
  · rw [g 10 e rfl]
    exact i.2 e he c hc
theorem rng_eq {x : Int32} {n m : Nat} (h : n ≤ m) (hm : m < 2147483648) : (0 ≤ x ∧ x ≤ Int32.ofNat n - 1) = (0 ≤ x ∧ x < Int32.ofNat n ∧ x < Int32.ofNat m) ∨ n = m := by
  by_cases e : n = m
  · exact Or.inr e
  · refine Or.inl ?_
    have h1 : (0 : Int32) ≤ Int32.ofNat n := by
      rw [show (0 : Int32) = Int32.ofNat 0 from rfl, iN_le (by omega) (by omega)]
      omega
    have h2 : Int32.ofNat n < Int32.ofNat m := by
      rw [iN_lt (by omega) hm]
      omega
    generalize Int32.ofNat n = v at *
    generalize Int32.ofNat m = w at *
    refine propext ?_
    grind
theorem rng_e2 {x : Int32} {n m : Nat} (h : n ≤ m) (hm : m < 2147483648) : (0 ≤ x ∧ x ≤ Int32.ofNat n - 1) = (0 ≤ x ∧ x < Int32.ofNat n ∧ x < Int32.ofNat m) := by
  have h1 : (0 : Int32) ≤ Int32.ofNat n := by
    rw [show (0 : Int32) = Int32.ofNat 0 from rfl, iN_le (by omega) (by omega)]
    omega
  have h2 : Int32.ofNat n ≤ Int32.ofNat m := by
    rw [iN_le (by omega) hm]
    omega
  generalize Int32.ofNat n = v at *
  generalize Int32.ofNat m = w at *
  refine propext ?_
  grind
theorem rng8 {x : Int32} {n : Nat} (h : n ≤ 8) : (0 ≤ x ∧ x ≤ Int32.ofNat n - 1) = (0 ≤ x ∧ x < Int32.ofNat n ∧ x < 8) := rng_e2 h (by decide)
theorem rng12 {x : Int32} {n : Nat} (h : n ≤ 12) : (0 ≤ x ∧ x ≤ Int32.ofNat n - 1) = (0 ≤ x ∧ x < Int32.ofNat n ∧ x < 12) := rng_e2 h (by decide)
theorem EE2_0 {N : Nat} {xs : Nat → Int32} : (EE N xs 2).2 0 = 1 ∧ (EE N xs 2).2 1 = 0 ∧ (EE N xs 2).2 2 = 1 ∧ (EE N xs 2).2 3 = 1 ∧ (EE N xs 2).2 4 = 0 := ⟨rfl, rfl, rfl, rfl, rfl⟩
theorem EE3_0 {N : Nat} {xs : Nat → Int32} : (EE N xs 3).2 0 = 99 ∧ (EE N xs 3).2 1 = 20 ∧ (EE N xs 3).2 2 = 9 ∧ (EE N xs 3).2 3 = 60 ∧ (EE N xs 3).2 4 = 30 := ⟨rfl, rfl, rfl, rfl, rfl⟩
theorem EE2_n {N : Nat} {xs : Nat → Int32} : (EE N xs 2).1 = 5 ∧ (EE N xs 3).1 = 5 := ⟨rfl, rfl⟩
theorem fr_eq {a b c : Int64} : a &&& (b ^^^ (-1)) &&& (c ^^^ (-1)) = a &&& (c ^^^ (-1)) &&& (b ^^^ (-1)) := by
  apply tb_ext
  intro i hi
  simp only [tb_and]
  cases tb a i <;> cases tb (b ^^^ (-1)) i <;> cases tb (c ^^^ (-1)) i <;> rfl
