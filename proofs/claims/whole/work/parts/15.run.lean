/-! THE ENGINE IS SOUND: what it runs, the machine does -/
set_option maxHeartbeats 1000000 in
theorem run_sound {l : Launch} {E : EX} (hSL : StrLenOk l E) (hSC : StrChOk l E) : ∀ F : Nat, Snd l E F := by
  intro F
  induction F with
  | zero => intro M pc ls st h h1 r hr; simp [run] at hr
  | succ F ih =>
    intro M pc ls st h h1 r hr p e R s m args below meth c Q base ext DA D n0 s0 C w hRf hRl hn0 hs0 hRc hRs hret
    unfold run at hr
    split at hr
    · cases hr
    · next ai nx hcode =>
      have hc := code_ok hcode
      split at hr
      · split at hr
        · next hok =>
          split at hr
          · cases hr
          · next r2 h2 hr2 =>
            have a := run_mono F hr2
            have b := run_mono F hr
            refine call_sound ih C w hRf hRl hn0 hs0 (Or.inl ⟨rfl, rfl⟩) hc hok hr2 (by omega) (by omega) ?_
            exact ih _ _ _ _ _ _ _ hr p e R s m args below meth c Q base ext DA D n0 s0 C w hRf hRl (by omega) (by omega) hRc hRs hret
        · cases hr
      · split at hr
        · next hok =>
          split at hr
          · cases hr
          · next r2 h2 hr2 =>
            have a := run_mono F hr2
            have b := run_mono F hr
            refine call_sound ih C w hRf hRl hn0 hs0 (Or.inr (Or.inl ⟨rfl, rfl⟩)) hc hok hr2 (by omega) (by omega) ?_
            exact ih _ _ _ _ _ _ _ hr p e R s m args below meth c Q base ext DA D n0 s0 C w hRf hRl (by omega) (by omega) hRc hRs hret
        · cases hr
      · split at hr
        · next hok =>
          split at hr
          · cases hr
          · next r2 h2 hr2 =>
            have a := run_mono F hr2
            have b := run_mono F hr
            refine call_sound ih C w hRf hRl hn0 hs0 (Or.inr (Or.inr ⟨rfl, rfl⟩)) hc hok hr2 (by omega) (by omega) ?_
            exact ih _ _ _ _ _ _ _ hr p e R s m args below meth c Q base ext DA D n0 s0 C w hRf hRl (by omega) (by omega) hRc hRs hret
        · cases hr
      · split at hr
        · next v =>
          split at hr
          · next hv =>
            cases hr
            obtain ⟨-, hd⟩ := chk_s (fun _ _ _ _ => rfl) (show chkR M pc .ireturn nx = true from hc)
            intro H locs arr hH hS hL
            have hk : (rkM M = 1) ∨ (rkM M = 2 ∧ (v = 0 ∨ v = 1)) := by
              simp only [retV, Bool.or_eq_true, Bool.and_eq_true, decide_eq_true_eq] at hv
              rcases hv with q | ⟨q, z⟩
              · exact Or.inl (Nat.eq_of_beq_eq_true q)
              · exact Or.inr ⟨Nat.eq_of_beq_eq_true q, z⟩
            refine hret H locs arr (pc % 10000) hH hS ?_ ?_
            · rcases hk with q | ⟨q, z⟩
              · exact Or.inr (Or.inl ⟨q, v, rfl⟩)
              · exact Or.inr (Or.inr (Or.inl ⟨q, v, rfl, z⟩))
            · have : retI M = .ireturn := by
                rcases hk with q | ⟨q, z⟩ <;> simp [retI, q]
              rw [this]
              exact hd
          · cases hr
        · cases hr
      · split at hr
        · split at hr
          · next hv =>
            cases hr
            obtain ⟨-, hd⟩ := chk_s (fun _ _ _ _ => rfl) (show chkR M pc .lreturn nx = true from hc)
            intro H locs arr hH hS hL
            refine hret H locs arr (pc % 10000) hH hS (Or.inr (Or.inr (Or.inr (Or.inl ⟨hv, _, rfl⟩)))) ?_
            have : retI M = .lreturn := by simp [retI, hv]
            rw [this]
            exact hd
          · cases hr
        · cases hr
      · split at hr
        · split at hr
          · next hv =>
            cases hr
            obtain ⟨-, hd⟩ := chk_s (fun _ _ _ _ => rfl) (show chkR M pc .areturn nx = true from hc)
            intro H locs arr hH hS hL
            refine hret H locs arr (pc % 10000) hH hS (Or.inr (Or.inr (Or.inr (Or.inr ⟨hv, Or.inl ⟨_, rfl⟩⟩)))) ?_
            have : retI M = .areturn := by simp [retI, hv]
            rw [this]
            exact hd
          · cases hr
        · split at hr
          · next hv =>
            cases hr
            obtain ⟨-, hd⟩ := chk_s (fun _ _ _ _ => rfl) (show chkR M pc .areturn nx = true from hc)
            intro H locs arr hH hS hL
            refine hret H locs arr (pc % 10000) hH hS (Or.inr (Or.inr (Or.inr (Or.inr ⟨hv, Or.inr rfl⟩)))) ?_
            have : retI M = .areturn := by simp [retI, hv]
            rw [this]
            exact hd
          · cases hr
        · cases hr
      · split at hr
        · split at hr
          · next hv =>
            cases hr
            obtain ⟨-, hd⟩ := chk_s (fun _ _ _ _ => rfl) (show chkR M pc .return_ nx = true from hc)
            intro H locs arr hH hS hL
            refine hret H locs arr (pc % 10000) hH hS (Or.inl ⟨hv, rfl⟩) ?_
            have : retI M = .return_ := by simp [retI, hv]
            rw [this]
            exact hd
          · cases hr
        · cases hr
      · split at hr
        · cases hr
        · next pc1 ls1 st1 h2 hs =>
          have a := step1_mono hs
          have b := run_mono F hr
          refine step_sound hSL hSC C w hRf hRl hn0 hs0 hcode hs (by omega) (by omega) ?_
          exact ih _ _ _ _ _ _ _ hr p e R s m args below meth c Q base ext DA D n0 s0 C w hRf hRl (by omega) (by omega) hRc hRs hret
