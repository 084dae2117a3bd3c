theorem step1_mono {E : EX} {ai : Instr} {nx pc1 : Nat} {ls st ls1 st1 : List Value} {h h1 : AH} (hs : step1 E ai nx ls st h = some (pc1, ls1, st1, h1)) : h.1.length ≤ h1.1.length ∧ sl h.1 ≤ sl h1.1 := by
  unfold step1 at hs
  split at hs
  all_goals (repeat' split at hs)
  all_goals first
    | (cases hs; done)
    | (cases hs; exact ⟨Nat.le_refl _, Nat.le_refl _⟩)
    | (cases hs; refine ⟨by simp, ?_⟩; rw [sl_app]; exact Nat.le_add_right _ _)
    | (cases hs; refine ⟨by simp, ?_⟩; rw [sl_set (by assumption) (by rfl)]; exact Nat.le_refl _)
theorem run_mono {E : EX} : ∀ (F : Nat) {M pc : Nat} {ls st : List Value} {h h1 : AH} {r : Option Value}, run E F M pc ls st h = some (r, h1) → h.1.length ≤ h1.1.length ∧ sl h.1 ≤ sl h1.1 := by
  intro F
  induction F with
  | zero => intro M pc ls st h h1 r hr; simp [run] at hr
  | succ F ih =>
    intro M pc ls st h h1 r hr
    unfold run at hr
    split at hr
    · cases hr
    · split at hr
      · split at hr
        · split at hr
          · cases hr
          · next h2 =>
            have a := ih h2
            have b := ih hr
            exact ⟨Nat.le_trans a.1 b.1, Nat.le_trans a.2 b.2⟩
        · cases hr
      · split at hr
        · split at hr
          · cases hr
          · next h2 =>
            have a := ih h2
            have b := ih hr
            exact ⟨Nat.le_trans a.1 b.1, Nat.le_trans a.2 b.2⟩
        · cases hr
      · split at hr
        · split at hr
          · cases hr
          · next h2 =>
            have a := ih h2
            have b := ih hr
            exact ⟨Nat.le_trans a.1 b.1, Nat.le_trans a.2 b.2⟩
        · cases hr
      all_goals first
        | (repeat' split at hr
           all_goals first
             | (cases hr; done)
             | (cases hr; exact ⟨Nat.le_refl _, Nat.le_refl _⟩))
        | skip
      · split at hr
        · cases hr
        · next h2 =>
          have a := step1_mono h2
          have b := ih hr
          exact ⟨Nat.le_trans a.1 b.1, Nat.le_trans a.2 b.2⟩
def StrRow (l : Launch) (E : EX) (kk : Nat) (inn : Nat → Int32 → List Value) (out : Nat → Int32 → Int32) (ok : Nat → Int32 → Prop) : Prop :=
  ∀ (p : Program) (e : Env) (R : Room) (s : State) (m : MethodId) (args : Array Value) (below : List Frame) (meth : Method) (c : Code) (Q : State → Prop) (base : Nat) (ext : Nat → Nat) (DA : Nat → ClassId) (D : va_G) (n0 s0 M pc nx k0 a : Nat) (j : Int32) (ls r : List Value) (h : AH),
    Cx p s m args meth c M → Wd base ext DA D E s → frM M ≤ R.frames → loM M ≤ R.locals → h.1.length - n0 ≤ R.cells → sl h.1 - s0 ≤ R.slots → k0 % 10 = kk → 1000010 ≤ a → a < 1000017 → cs r ≤ 8 → ok a j → chkB M pc (.invokedynamic k0) nx = true →
    WW p l e R s m args below meth c Q base ext DA D n0 s0 M nx ls (.int (out a j) :: r) h → WW p l e R s m args below meth c Q base ext DA D n0 s0 M pc ls (inn a j ++ r) h
def StrLenOk (l : Launch) (E : EX) : Prop := StrRow l E 2 (fun a _ => [.ref a]) (fun a _ => Int32.ofNat (strLen (a - 1000010))) (fun _ _ => True)
def StrChOk (l : Launch) (E : EX) : Prop := StrRow l E 3 (fun a j => [.int j, .ref a]) (fun a j => (strCh (a - 1000010)).getD j.toNatClampNeg 0) (fun a j => vinB j (strLen (a - 1000010)) = true)
section SOUND
variable {p : Program} {l : Launch} {e : Env} {R : Room} {s : State} {m : MethodId} {args : Array Value} {below : List Frame} {meth : Method} {c : Code} {Q : State → Prop} {base : Nat} {ext : Nat → Nat} {DA : Nat → ClassId} {D : va_G} {E : EX} {n0 s0 M pc nx pc1 : Nat} {ls st ls1 st1 : List Value} {h h1 : AH}
set_option maxHeartbeats 4000000 in
theorem step_sound (hSL : StrLenOk l E) (hSC : StrChOk l E) (C : Cx p s m args meth c M) (w : Wd base ext DA D E s) (hRf : frM M ≤ R.frames) (hRl : loM M ≤ R.locals) (hn0 : n0 ≤ h.1.length) (hs0 : s0 ≤ sl h.1) {ai : Instr} (hcode : ncode M pc = some (ai, nx)) (hs : step1 E ai nx ls st h = some (pc1, ls1, st1, h1)) (hRc : h1.1.length - n0 ≤ R.cells) (hRs : sl h1.1 - s0 ≤ R.slots)
    (k : WW p l e R s m args below meth c Q base ext DA D n0 s0 M pc1 ls1 st1 h1) : WW p l e R s m args below meth c Q base ext DA D n0 s0 M pc ls st h := by
  have hc := code_ok hcode
  have hX := chkX_ok hcode
  unfold step1 at hs
  split at hs
  · cases hs
    exact ss_iconst C hc k
  · cases hs
    exact ss_lconst C hc k
  · cases hs
    exact ss_aconst_null C hc k
  · split at hs
    · next he =>
      cases hs
      exact ss_ldcw C he hc k
    · cases hs
  · split at hs
    · next he =>
      cases hs
      exact ss_ldc2w C he hc k
    · cases hs
  · cases hs
    exact ss_ldcS C w hc k
  · cases hs
    exact ss_gets C w hc k
  · split at hs
    · next he =>
      cases hs
      exact ss_iload C he hc k
    · cases hs
  · split at hs
    · next he =>
      cases hs
      exact ss_lload C he hc k
    · cases hs
  · split at hs
    · next he =>
      cases hs
      exact ss_aload C he hc k
    · next he =>
      cases hs
      exact ss_aloadN C he hc k
    · cases hs
  · split at hs
    · cases hs
      exact ss_istore C hc k
    · cases hs
  · split at hs
    · cases hs
      exact ss_lstore C hc k
    · cases hs
  · split at hs
    · cases hs
      exact ss_astore C hc k
    · cases hs
      exact ss_astoreN C hc k
    · cases hs
  · split at hs
    · next he =>
      cases hs
      exact ss_iinc C he hc k
    · cases hs
  · split at hs
    · cases hs
      exact ss_iadd C hc k
    · cases hs
  · split at hs
    · cases hs
      exact ss_isub C hc k
    · cases hs
  · split at hs
    · cases hs
      exact ss_imul C hc k
    · cases hs
  · split at hs
    · split at hs
      · cases hs
      · next hne =>
        cases hs
        exact ss_idiv C hc hne k
    · cases hs
  · split at hs
    · split at hs
      · cases hs
      · next hne =>
        cases hs
        exact ss_irem C hc hne k
    · cases hs
  · split at hs
    · cases hs
      exact ss_iand C hc k
    · cases hs
  · split at hs
    · cases hs
      exact ss_ior C hc k
    · cases hs
  · split at hs
    · cases hs
      exact ss_ishl C hc k
    · cases hs
  · split at hs
    · cases hs
      exact ss_ishr C hc k
    · cases hs
  · split at hs
    · cases hs
      exact ss_iushr C hc k
    · cases hs
  · split at hs
    · cases hs
      exact ss_ladd C hc k
    · cases hs
  · split at hs
    · cases hs
      exact ss_lsub C hc k
    · cases hs
  · split at hs
    · cases hs
      exact ss_lmul C hc k
    · cases hs
  · split at hs
    · split at hs
      · cases hs
      · next hne =>
        cases hs
        exact ss_ldiv C hc hne k
    · cases hs
  · split at hs
    · split at hs
      · cases hs
      · next hne =>
        cases hs
        exact ss_lrem C hc hne k
    · cases hs
  · split at hs
    · cases hs
      exact ss_land C hc k
    · cases hs
  · split at hs
    · cases hs
      exact ss_lor C hc k
    · cases hs
  · split at hs
    · cases hs
      exact ss_lxor C hc k
    · cases hs
  · split at hs
    · cases hs
      exact ss_lneg C hc k
    · cases hs
  · split at hs
    · cases hs
      exact ss_lshl C hc k
    · cases hs
  · split at hs
    · cases hs
      exact ss_lshr C hc k
    · cases hs
  · split at hs
    · cases hs
      exact ss_lushr C hc k
    · cases hs
  · split at hs
    · cases hs
      exact ss_lcmp C hc k
    · cases hs
  · split at hs
    · cases hs
      exact ss_i2l C hc k
    · cases hs
  · split at hs
    · cases hs
      exact ss_l2i C hc k
    · cases hs
  · split at hs
    · cases hs
      exact ss_i2b C hc k
    · cases hs
  · split at hs
    · split at hs
      · next hy =>
        cases hs
        exact ss_dup C hc hy k
      · cases hs
    · cases hs
  · split at hs
    · split at hs
      · next hy =>
        cases hs
        exact ss_pop C hc hy k
      · cases hs
    · cases hs
  · split at hs
    · split at hs
      · next hy =>
        cases hs
        exact ss_dup2 C hc hy k
      · cases hs
    · cases hs
  · split at hs
    · cases hs
      exact ss_ifc C hc k
    · cases hs
  · split at hs
    · cases hs
      exact ss_icmp C hc k
    · cases hs
  · split at hs
    · cases hs
      exact ss_ifnullN C hc k
    · cases hs
      exact ss_ifnull C hc k
    · cases hs
  · split at hs
    · cases hs
      exact ss_ifnonnullN C hc k
    · cases hs
      exact ss_ifnonnull C hc k
    · cases hs
  · cases hs
    exact ss_goto C hc k
  · split at hs
    · split at hs
      · next he =>
        cases hs
        exact ss_tswitch C he hc k
      · cases hs
    · cases hs
  · split at hs
    · cases hs
      exact ss_lswitch C hc k
    · cases hs
  · split at hs
    · split at hs
      · next hx =>
        split at hs
        · next hci =>
          split at hs
          · next hf =>
            cases hs
            exact ss_getfield C w (v := .int _) hx hci (by rw [fval_0 hf]; rfl) hc k
          · next hf =>
            cases hs
            exact ss_getfield C w (v := .long _) hx hci (by rw [fval_1 hf]; rfl) hc k
          · next hf =>
            cases hs
            exact ss_getfield C w hx hci (by rw [fval_2 hf]) hc k
          · cases hs
        · cases hs
      · cases hs
    · cases hs
  · split at hs
    · split at hs
      · next hx =>
        split at hs
        · next hy =>
          cases hs
          exact ss_putI C w hx hy.1 hy.2 hc k
        · cases hs
      · cases hs
    · split at hs
      · next hx =>
        split at hs
        · next hy =>
          cases hs
          exact ss_putL C w hx hy.1 hy.2 hc k
        · cases hs
      · cases hs
    · split at hs
      · next hx =>
        split at hs
        · next hy =>
          cases hs
          obtain ⟨hy1, hy2, hy3⟩ := hy
          simp only [chkX] at hX
          rw [← hy1, if_pos hy2] at hX
          simp only [Bool.and_eq_true, decide_eq_true_eq] at hX
          obtain ⟨⟨g1, g2⟩, g3⟩ := hX
          refine ss_putR C w hx hy1 hy2 hy3 hc (C.2.2.2.2.2.2.1.elim (fun z => z.trans g1) (fun z => absurd (z ▸ g1) (by decide))) g2 ?_ k
          split at g3
          · next x hxx => exact ⟨x, hxx, by simpa using g3⟩
          · cases g3
        · cases hs
      · cases hs
    · cases hs
  · split at hs
    · split at hs
      · split at hs
        · next hx =>
          split at hs
          · next hy =>
            cases hs
            exact ss_iaload C w hx hy hc k
          · cases hs
        · cases hs
      · next ha =>
        split at hs
        · next hy =>
          cases hs
          exact ss_ialoadX C w ha hy.2 hy.1 hc k
        · cases hs
    · cases hs
  · split at hs
    · split at hs
      · next hx =>
        split at hs
        · next hy =>
          cases hs
          exact ss_laload C w hx hy hc k
        · cases hs
      · cases hs
    · cases hs
  · split at hs
    · split at hs
      · next hx =>
        split at hs
        · next hy =>
          cases hs
          exact ss_baload2 C w hx hy hc k
        · cases hs
      · next hx =>
        split at hs
        · next hy =>
          cases hs
          exact ss_baload3 C w hx hy hc k
        · cases hs
      · cases hs
    · cases hs
  · split at hs
    · split at hs
      · next hx =>
        split at hs
        · next hy =>
          cases hs
          exact ss_aaload C w hx hy.1 hy.2 hc k
        · cases hs
      · cases hs
    · cases hs
  · split at hs
    · split at hs
      · next hx =>
        split at hs
        · next hy =>
          cases hs
          exact ss_iastore C w hx hy hc k
        · cases hs
      · cases hs
    · cases hs
  · split at hs
    · split at hs
      · next hx =>
        split at hs
        · next hy =>
          cases hs
          exact ss_lastore C w hx hy hc k
        · cases hs
      · cases hs
    · cases hs
  · split at hs
    · split at hs
      · next hx =>
        split at hs
        · next hy =>
          cases hs
          exact ss_bastore2 C w hx hy hc k
        · cases hs
      · next hx =>
        split at hs
        · next hy =>
          cases hs
          exact ss_bastore3 C w hx hy hc k
        · cases hs
      · cases hs
    · cases hs
  · split at hs
    · split at hs
      · next hx hx2 =>
        split at hs
        · next hy =>
          cases hs
          exact ss_aastore C w hx hx2 hy.1 hy.2.1 hy.2.2 hc k
        · cases hs
      · cases hs
    · cases hs
  · split at hs
    · split at hs
      · split at hs
        · next hx =>
          split at hs
          · next ht =>
            cases hs
            exact ss_alen C w hx ht hc k
          · cases hs
        · cases hs
      · next ha =>
        split at hs
        · next hy =>
          cases hs
          exact ss_alenX C w ha hy hc k
        · cases hs
    · cases hs
  · split at hs
    · next hy =>
      cases hs
      exact ss_new C w hy hn0 hs0 (by simpa using hRc) (by rw [sl_app] at hRs; exact hRs) hc k
    · cases hs
  · split at hs
    · split at hs
      · next hy =>
        cases hs
        exact ss_newarray C w hy.1 hy.2.1 hy.2.2 hn0 hs0 (by simpa using hRc) (by rw [sl_app] at hRs; exact hRs) hc k
      · cases hs
    · cases hs
  · split at hs
    · split at hs
      · next hy =>
        cases hs
        exact ss_anewarray C w hy.1 hy.2.1 hy.2.2 hn0 hs0 (by simpa using hRc) (by rw [sl_app] at hRs; exact hRs) hc k
      · cases hs
    · cases hs
  · split at hs
    · split at hs
      · next hx =>
        cases hs
        exact ss_checkcast C w hx hX hc k
      · cases hs
    · cases hs
  · split at hs
    · next hk0 =>
      split at hs
      · split at hs
        · next hx hx2 =>
          split at hs
          · next hy =>
            obtain ⟨y1, y2, y3, y4, y5, y6, y7⟩ := hy
            subst y1
            split at hs
            · cases hs
              exact ss_copyI C w hRf hRl hk0 hx hx2 y2 y3 y4 y5 y6 y7 hc k
            · cases hs
              exact ss_copyL C w hRf hRl hk0 hx hx2 y2 y3 y4 y5 y6 y7 hc k
            · cases hs
          · cases hs
        · cases hs
      · cases hs
    · next hk0 =>
      split at hs
      · split at hs
        · next hy =>
          cases hs
          obtain ⟨rfl, y2, y3⟩ := hy
          exact ss_clone C w hRf hRl hk0 y2 y3 hn0 hs0 (by simpa using hRc) (by rw [sl_app] at hRs; exact hRs) hc k
        · cases hs
      · cases hs
    · next hk0 =>
      split at hs
      · split at hs
        · next hy =>
          cases hs
          exact hSL p e R s m args below meth c Q base ext DA D n0 s0 M pc _ _ _ 0 _ _ _ C w hRf hRl hRc hRs hk0 hy.1 hy.2.1 hy.2.2 trivial hc k
        · cases hs
      · cases hs
    · next hk0 =>
      split at hs
      · split at hs
        · next hy =>
          cases hs
          exact hSC p e R s m args below meth c Q base ext DA D n0 s0 M pc _ _ _ _ _ _ _ C w hRf hRl hRc hRs hk0 hy.1 hy.2.1 hy.2.2.1 hy.2.2.2 hc k
        · cases hs
      · cases hs
    · next hk0 =>
      split at hs
      · split at hs
        · next hy =>
          cases hs
          exact ss_objinit C hRf hRl hk0 hy.2 hc k
        · cases hs
      · cases hs
    · next hk0 =>
      split at hs
      · split at hs
        · next hy =>
          cases hs
          exact ss_min C hRf hRl hRc hRs hk0 hy hc k
        · cases hs
      · cases hs
    · next hk0 =>
      split at hs
      · split at hs
        · next hy =>
          cases hs
          exact ss_max C hRf hRl hRc hRs hk0 hy hc k
        · cases hs
      · cases hs
    · cases hs
  · cases hs
    exact ss_ret hc k
  · cases hs
end SOUND
