/-! WHAT Inv READS; a call that is read off -/
def relI (a k : Nat) : Bool := (decide (a = 1) && decide (k = 2)) || decide (a = 2) || decide (a = 9) || decide (a = 11) || decide (a = 13) || (decide (15 ≤ a) && decide (a ≤ 41)) || (decide (52 ≤ a) && decide (a ≤ 105)) || (decide (a = 106) && (decide (k = 6) || decide (k = 14))) || (decide (107 ≤ a) && decide (a ≤ 110)) || (decide (a = 111) && decide (k < 48)) || (decide (a = 112) && decide (k < 8)) || decide (a = 114)
def relL (a k : Nat) : Bool := decide (a = 0) || decide (a = 9) || decide (a = 10) || decide (a = 12) || decide (a = 40) || (decide (a = 106) && (decide (k = 1) || decide (k = 17))) || (decide (a = 113) && decide (k < 8))
def AgI (I J : Nat → Nat → Int32) : Prop := ∀ a k, relI a k = true → J a k = I a k
def AgL (L M : Nat → Nat → Int64) : Prop := ∀ a k, relL a k = true → M a k = L a k
theorem AgI.rf {I : Nat → Nat → Int32} : AgI I I := fun _ _ _ => rfl
theorem AgL.rf {L : Nat → Nat → Int64} : AgL L L := fun _ _ _ => rfl
theorem AgI.tr {I J K : Nat → Nat → Int32} (h : AgI I J) (g : AgI J K) : AgI I K := fun a k z => (g a k z).trans (h a k z)
theorem AgL.tr {I J K : Nat → Nat → Int64} (h : AgL I J) (g : AgL J K) : AgL I K := fun a k z => (g a k z).trans (h a k z)
theorem AgI.u2 {I J : Nat → Nat → Int32} (h : AgI I J) {a k : Nat} {v : Int32} (z : relI a k = false) : AgI I (u2 J a k v) := fun b j q => (if_neg (fun e => by rw [e.1, e.2, z] at q; cases q) : (if b = a ∧ j = k then v else J b j) = J b j).trans (h b j q)
theorem AgL.u2 {I J : Nat → Nat → Int64} (h : AgL I J) {a k : Nat} {v : Int64} (z : relL a k = false) : AgL I (u2 J a k v) := fun b j q => (if_neg (fun e => by rw [e.1, e.2, z] at q; cases q) : (if b = a ∧ j = k then v else J b j) = J b j).trans (h b j q)
theorem rel_thd (t f : Nat) : relI (thd 13 t) f = true ∧ relI (thd 13 t + 1) f = true := by
  have := thd_lo t
  constructor
  all_goals
    unfold relI
    simp only [Bool.or_eq_true, Bool.and_eq_true, decide_eq_true_eq]
    omega
theorem bk_or (b : Nat) : bk b = 54 ∨ bk b = 80 := by
  unfold bk
  by_cases z : b % 2 = 0
  · exact Or.inl (if_pos z)
  · exact Or.inr (if_neg z)
theorem thb_lo (b t : Nat) : bk b + 2 ≤ thd (bk b) t ∧ thd (bk b) t ≤ bk b + 24 ∧ 54 ≤ bk b ∧ bk b ≤ 80 := by
  have h := bk_or b
  unfold thd
  have := Nat.mod_lt t (show 12 > 0 by decide)
  omega
theorem rel_thb (b t f : Nat) : relI (thd (bk b) t) f = true ∧ relI (thd (bk b) t + 1) f = true ∧ relI (bk b) f = true := by
  have := thb_lo b t
  refine ⟨?_, ?_, ?_⟩
  all_goals
    unfold relI
    simp only [Bool.or_eq_true, Bool.and_eq_true, decide_eq_true_eq]
    omega
theorem rel112 {k : Nat} (h : k < 8) : relI 112 k = true := by
  unfold relI
  rw [decide_eq_true h]
  simp
theorem rel111 {k : Nat} (h : k < 48) : relI 111 k = true := by
  unfold relI
  rw [decide_eq_true h]
  simp
theorem rel113 {k : Nat} (h : k < 8) : relL 113 k = true := by
  unfold relL
  rw [decide_eq_true h]
  simp
theorem BokR_eq {nc : Nat} {d d2 : Int32} {T C T2 C2 : Nat → Nat → Int32} {S S2 : Nat → Int32} (h : BokR nc d T C S) (e1 : d2 = d) (e2 : ∀ t f, T2 t f = T t f) (e3 : ∀ t f, C2 t f = C t f) (e4 : ∀ k, S2 k = S k) : BokR nc d2 T2 C2 S2 := by
  have q2 : T2 = T := funext fun t => funext fun f => e2 t f
  have q3 : C2 = C := funext fun t => funext fun f => e3 t f
  have q4 : S2 = S := funext fun k => e4 k
  rw [e1, q2, q3, q4]
  exact h
theorem wayF_congr {g g2 : Nat → Nat} (h : ∀ c, c < 48 → g2 c = g c) {f c : Nat} (hf : f < 48) (hc : c < 48) : wayF g2 f c = wayF g f c := by
  have key : ∀ q c, c < 48 → (Rs g2 f q).1 c = (Rs g f q).1 c ∧ (Rs g2 f q).2.1 c = (Rs g f q).2.1 c ∧ (Rs g2 f q).2.2 c = (Rs g f q).2.2 c := by
    intro q
    induction q with
    | zero =>
      intro c hc
      refine ⟨?_, rfl, rfl⟩
      show (decide (c = f) && !decide (g2 f = 3)) = (decide (c = f) && !decide (g f = 3))
      rw [h f hf]
    | succ q ih =>
      intro c hc
      refine ⟨?_, (ih c hc).1, (ih c hc).2.1⟩
      have a1 : ∀ n, n ≤ 48 → anyN (fun d => nbr c d && ((decide (g2 c = 1) && (Rs g2 f q).1 d) || (decide (g2 c = 0) && (Rs g2 f q).2.1 d) || (decide (g2 c = 2) && (Rs g2 f q).2.2 d))) n = anyN (fun d => nbr c d && ((decide (g c = 1) && (Rs g f q).1 d) || (decide (g c = 0) && (Rs g f q).2.1 d) || (decide (g c = 2) && (Rs g f q).2.2 d))) n := by
        intro n
        induction n with
        | zero => intro _; rfl
        | succ n ihn =>
          intro hn
          unfold anyN
          rw [ihn (by omega), h c hc, (ih n (by omega)).1, (ih n (by omega)).2.1, (ih n (by omega)).2.2]
      show ((Rs g2 f q).1 c || _) = ((Rs g f q).1 c || _)
      rw [(ih c hc).1, a1 48 (Nat.le_refl _)]
  have e : (fun q => (Rs g2 f q).1 c) = fun q => (Rs g f q).1 c := funext fun q => (key q c hc).1
  unfold wayF
  rw [e]
theorem Inv_ag {I J : Nat → Nat → Int32} {L M : Nat → Nat → Int64} (h : AgI I J) (g : AgL L M) (inv : Inv I L) : Inv J M := by
  obtain ⟨⟨n, hn, t1, t2, t3⟩, ⟨nc, ⟨y0, y1, y2, y3, y4, y5, y6⟩, ib, im⟩, ⟨u, u1, u2⟩, iw, ia⟩ := inv
  refine ⟨⟨n, hn, (h 1 2 rfl).trans t1, (h 106 6 rfl).trans t2, fun i hi => ?_⟩, ⟨nc, ⟨y0, (h 9 3 rfl).trans y1, (h 106 14 rfl).trans y2, fun k hk => ?_, fun k hk => ?_, ?_, fun c hc => ?_⟩, ?_, fun i hi => ?_⟩, ⟨u, fun i hi => ?_, u2⟩, fun f hf hk c hc => ?_, ?_⟩
  · rw [h 2 i rfl, h 110 i rfl]
    exact t3 i hi
  · have r : relI 112 k = true := rel112 (by omega)
    rw [h 11 k rfl, h 112 k r]
    exact y3 k hk
  · have r : relL 113 k = true := rel113 (by omega)
    rw [g 113 k r, g 12 k rfl]
    exact y4 k hk
  · rw [g 106 17 rfl, g 9 4 rfl]
    exact y5
  · have r : relI 111 c = true := rel111 hc
    obtain ⟨w, hw, w1, w2⟩ := y6 c hc
    refine ⟨w, hw, (h 111 c r).trans w1, fun e he => ?_⟩
    rw [g 10 e rfl]
    exact w2 e he
  · exact BokR_eq ib (h 13 1 rfl) (fun t f => h _ f (rel_thd t f).1) (fun t f => h _ f (rel_thd t f).2) (fun k => h 107 k rfl)
  · rcases im i hi with ⟨a1, a2⟩ | ⟨a1, a2, a3⟩
    · exact Or.inl ⟨(h 53 i rfl).trans a1, (h 109 i rfl).trans a2⟩
    · exact Or.inr ⟨(h 53 i rfl).trans a1, (h 109 i rfl).trans a2, BokR_eq a3 (h _ 1 (rel_thb i 0 1).2.2) (fun t f => h _ f (rel_thb i t f).1) (fun t f => h _ f (rel_thb i t f).2.1) (fun k => h 108 _ rfl)⟩
  · rw [h 39 i rfl, h 114 i rfl]
    exact u1 i hi
  · rw [h 41 _ rfl, wayF_congr (g2 := grI J) (g := grI I) (fun d hd => ?_) hf hc]
    · rw [g 40 2 rfl] at hk
      exact iw f hf hk c hc
    · have r : relI 111 d = true := rel111 hd
      unfold grI
      rw [h 111 d r]
  · refine ⟨?_, fun e he c hc => ?_⟩
    · rw [g 0 10 rfl, g 106 1 rfl]
      exact ia.1
    · rw [g 10 e rfl]
      exact ia.2 e he c hc
theorem op_of {E : EX} {y1 y2 : Nat} {as : List Value} {I I1 I2 : Nat → Nat → Int32} {L L1 L2 : Nat → Nat → Int64} {v : Int32} (h1 : ∀ Q, Rn E y1 0 (ent (.ref 0 :: as)) [] (K0, I, L) Q = Q (some (.int v)) (K0, I1, L1)) (h2 : ∀ Q, Rn E y2 0 (ent (.ref 106 :: as)) [] (K0, I1, L1) Q = Q (some (.int v)) (K0, I2, L2)) (inv : Inv I2 L2) : Op E y1 y2 as I L := by
  unfold Op
  rw [h1]
  refine ⟨_, _, _, rfl, rfl, ?_⟩
  rw [h2]
  exact ⟨_, _, rfl, rfl, inv⟩
