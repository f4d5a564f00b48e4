/-! the module: program, command, control, its registers -/
theorem jump_in (w : Int32) : fn_M_in (w >>> ((12 : Int32) &&& (31 : Int32))) (6 : Int32) (9 : Int32) = fn_P_isJump w := rfl
theorem jump_ex (w : Int32) : ∃ v, fn_P_isJump w = some v := by
  unfold fn_P_isJump
  split
  · exact ⟨_, rfl⟩
  · split <;> exact ⟨_, rfl⟩
theorem prog_loop {pgm : Nat → Int32} (hg : ∀ k, lo 65536 (pgm k)) (err : Int32) (he : lo 4 err) : ∀ (r k f : Nat) (reg mem : Nat → Int32), k + r = 4 → r < f → (∀ k, lo 65536 (reg k)) → (∀ k, lo 65536 (mem k)) →
    ∃ e' reg' mem', fn_B_doProgram_L2 f pgm err reg mem (nI k) = some (e', reg', mem') ∧ fn_M_runProgram_L2 f reg mem err pgm (nI k) = some (reg', mem', e') ∧ lo 4 e' ∧ (∀ k, lo 65536 (reg' k)) ∧ (∀ k, lo 65536 (mem' k)) := by
  intro r
  induction r with
  | zero =>
    intro k f reg mem hk hf hr hm
    obtain ⟨f, rfl⟩ : ∃ g, f = g + 1 := ⟨f - 1, by omega⟩
    have h4 : (4 : Int32) ≤ nI k := nI_le (a := 4) (by omega) (by omega)
    refine ⟨err, reg, mem, ?_, ?_, he, hr, hm⟩
    · rw [fn_B_doProgram_S2]
      unfold fn_B_doProgram_B2
      rw [if_pos h4]
    · rw [fn_M_runProgram_S2]
      unfold fn_M_runProgram_B2
      rw [if_pos h4]
  | succ r ih =>
    intro k f reg mem hk hf hr hm
    obtain ⟨f, rfl⟩ : ∃ g, f = g + 1 := ⟨f - 1, by omega⟩
    have h4 : ¬ (4 : Int32) ≤ nI k := nI_ge (b := 4) (by omega) (by omega)
    have hi : vp_in (nI k) 4 := vp_in_nI (by omega) (by decide)
    rw [fn_B_doProgram_S2, fn_M_runProgram_S2]
    unfold fn_B_doProgram_B2 fn_M_runProgram_B2
    rw [if_neg h4, if_neg h4, ck_eq hi, ck_eq hi, ck_eq hi, jump_in]
    have hw := hg (Int32.toNatClampNeg (nI k))
    generalize pgm (Int32.toNatClampNeg (nI k)) = w at hw ⊢
    by_cases h10 : w >>> ((12 : Int32) &&& (31 : Int32)) = (10 : Int32)
    · rw [if_pos h10, if_pos h10]
      exact ⟨err, reg, mem, rfl, rfl, he, hr, hm⟩
    rw [if_neg h10, if_neg h10]
    obtain ⟨v, hv⟩ := jump_ex w
    by_cases hz : v = (0 : Int32)
    · obtain ⟨r1, m1, hp, hr1, hm1⟩ := pf_perform_ok hr hm w
      simp only [hv, bs, if_pos hz, pf_perform hr w, hp, nI_1]
      exact ih (k + 1) f r1 m1 (by omega) (by omega) hr1 hm1
    · simp only [hv, bs, if_neg hz]
      exact ⟨3, reg, mem, rfl, rfl, ⟨3, by decide, rfl⟩, hr, hm⟩
theorem sim_command {pgm reg mem : Nat → Int32} {dat err pc cau : Int32} (b : Bool) (v : Int32) (hg : ∀ k, lo 65536 (pgm k)) (hd : lo 65536 dat) (he : lo 4 err) (hS : okS reg mem pc cau) :
    ∃ d' e' reg' mem' pc', fn_B_command pgm dat err reg mem pc (bI b) v = some (d', e', reg', mem', pc') ∧ fn_M_command reg mem pc (bI (!b)) dat err pgm v = some (reg', mem', pc', d', e') ∧ lo 65536 d' ∧ lo 4 e' ∧ okS reg' mem' pc' cau := by
  unfold fn_B_command fn_M_command
  obtain ⟨hr, hm, hp, hc⟩ := hS
  by_cases e0 : err = (0 : Int32)
  · rw [if_pos e0, if_pos e0]
    cases b with
    | true =>
      exact ⟨dat, 1, reg, mem, pc, rfl, rfl, hd, ⟨1, by decide, rfl⟩, hr, hm, hp, hc⟩
    | false =>
      have hi : vp_in (v &&& (7 : Int32)) 8 := lo_in (lo_7 _) (by decide)
      simp only [if_pos eq_f, Bool.not_false, if_neg ne_1, ck_eq hi, rl64 hd (by decide)]
      by_cases c0 : (v >>> ((8 : Int32) &&& (31 : Int32))) &&& (7 : Int32) = (0 : Int32)
      · rw [if_pos c0, if_pos c0]
        exact ⟨_, _, _, _, _, rfl, rfl, hr _, he, hr, hm, hp, hc⟩
      rw [if_neg c0, if_neg c0]
      by_cases c1 : (v >>> ((8 : Int32) &&& (31 : Int32))) &&& (7 : Int32) = (1 : Int32)
      · rw [if_pos c1, if_pos c1]
        exact ⟨_, _, _, _, _, rfl, rfl, hd, he, lo_upd hr _ hd, hm, hp, hc⟩
      rw [if_neg c1, if_neg c1]
      by_cases c2 : (v >>> ((8 : Int32) &&& (31 : Int32))) &&& (7 : Int32) = (2 : Int32)
      · rw [if_pos c2, if_pos c2]
        exact ⟨_, _, _, _, _, rfl, rfl, lo_mono hp (by decide), he, hr, hm, hp, hc⟩
      rw [if_neg c2, if_neg c2]
      by_cases c3 : (v >>> ((8 : Int32) &&& (31 : Int32))) &&& (7 : Int32) = (3 : Int32)
      · rw [if_pos c3, if_pos c3]
        exact ⟨_, _, _, _, _, rfl, rfl, hd, he, hr, hm, lo_63 _, hc⟩
      rw [if_neg c3, if_neg c3]
      by_cases c4 : (v >>> ((8 : Int32) &&& (31 : Int32))) &&& (7 : Int32) = (4 : Int32)
      · rw [if_pos c4, if_pos c4]
        obtain ⟨e', r1, m1, g1, g2, g3, g4, g5⟩ := prog_loop hg err he 4 0 64 reg mem (by omega) (by omega) hr hm
        have g1 : fn_B_doProgram pgm err reg mem = some (e', r1, m1) := g1
        have g2 : fn_M_runProgram reg mem err pgm = some (r1, m1, e') := g2
        rw [g1, g2]
        exact ⟨_, _, _, _, _, rfl, rfl, hd, g3, g4, g5, hp, hc⟩
      · rw [if_neg c4, if_neg c4]
        exact ⟨dat, 2, reg, mem, pc, rfl, rfl, hd, ⟨2, by decide, rfl⟩, hr, hm, hp, hc⟩
  · rw [if_neg e0, if_neg e0]
    exact ⟨_, _, _, _, _, rfl, rfl, hd, he, hr, hm, hp, hc⟩
theorem lo5 (k : Nat) (h : k < 5) : lo 5 (nI k) := ⟨k, h, rfl⟩
theorem lo2_0 : lo 2 (0 : Int32) := ⟨0, by decide, rfl⟩
theorem lo2_1 : lo 2 (1 : Int32) := ⟨1, by decide, rfl⟩
theorem ctl_j {reg mem xpt tk ta : Nat → Int32} {pc cau fre : Int32} (b : Bool) (sp0 st v w1 : Int32) (hw : w1 = 0 ∨ w1 = 1) (hS : okS reg mem pc cau) (ht : trp xpt tk ta) (hF : lo 2 fre) :
    ∃ b' reg' mem' pc' cau' st' fre', fn_B_control_J12 sp0 reg mem xpt pc (bI b) cau st fre v w1 = some (w1, reg', mem', pc', bI b', cau', st', fre') ∧
      fn_M_control_J12 reg mem pc (bI (!b)) cau sp0 fre st tk ta v w1 = some (reg', mem', pc', bI (!b'), cau', w1, fre', st') ∧ okS reg' mem' pc' cau' ∧ lo 2 fre' := by
  unfold fn_B_control_J12 fn_M_control_J12 fn_B_control_J42
  rw [ckb_eq hw, ckb_eq hw]
  obtain ⟨hr, hm, hp, hc⟩ := hS
  cases b with
  | true =>
    simp only [Bool.not_true, if_pos eq_f, if_neg ne_1]
    by_cases h1 : v &&& (1 : Int32) = (0 : Int32)
    · simp only [if_pos h1]
      by_cases h2 : v &&& (2 : Int32) = (0 : Int32)
      · simp only [if_pos h2]
        exact ⟨true, reg, mem, pc, cau, st, fre, rfl, rfl, ⟨hr, hm, hp, hc⟩, hF⟩
      · simp only [if_neg h2]
        exact ⟨true, reg, mem, pc, cau, st, fre, rfl, rfl, ⟨hr, hm, hp, hc⟩, hF⟩
    · simp only [if_neg h1]
      exact ⟨false, reg, mem, pc, 3, st, fre, rfl, rfl, ⟨hr, hm, hp, lo5 3 (by decide)⟩, hF⟩
  | false =>
    simp only [Bool.not_false, if_pos eq_f, if_neg ne_1, ite_self]
    by_cases h2 : v &&& (2 : Int32) = (0 : Int32)
    · simp only [if_pos h2]
      exact ⟨false, reg, mem, pc, cau, st, fre, rfl, rfl, ⟨hr, hm, hp, hc⟩, hF⟩
    simp only [if_neg h2, fn_P_resume, bs]
    by_cases h3 : w1 = (0 : Int32)
    · simp only [if_pos h3]
      exact ⟨true, reg, mem, pc, cau, st, 1, rfl, rfl, ⟨hr, hm, hp, hc⟩, lo2_1⟩
    · obtain ⟨b, reg', mem', pc', cau', st', g1, g2, g3⟩ := sim_step (1 : Int32) st hr hm hp hc ht
      simp only [if_neg h3, g1, g2, bs]
      cases b with
      | true =>
        simp only [if_neg ne_1, fn_P_halt, fn_M_halt, bs]
        exact ⟨false, reg', mem', pc', 4, st', 0, rfl, rfl, ⟨g3.1, g3.2.1, g3.2.2.1, lo5 4 (by decide)⟩, lo2_0⟩
      | false =>
        simp only [if_pos eq_f]
        exact ⟨false, reg', mem', pc', cau', st', 0, rfl, rfl, g3, lo2_0⟩
theorem sim_control {reg mem xpt tk ta : Nat → Int32} {pc cau fre : Int32} (b : Bool) (sp0 st v : Int32) (hS : okS reg mem pc cau) (ht : trp xpt tk ta) (hF : lo 2 fre) :
    ∃ b' sp' reg' mem' pc' cau' st' fre', fn_B_control sp0 reg mem xpt pc (bI b) cau st fre v = some (sp', reg', mem', pc', bI b', cau', st', fre') ∧
      fn_M_control reg mem pc (bI (!b)) cau sp0 fre st tk ta v = some (reg', mem', pc', bI (!b'), cau', sp', fre', st') ∧ okS reg' mem' pc' cau' ∧ lo 2 fre' ∧ lo 2 sp' := by
  unfold fn_B_control fn_M_control
  by_cases h4 : v &&& (4 : Int32) = (0 : Int32)
  · rw [if_pos h4, if_pos h4]
    obtain ⟨b', r, m, p, c, s, f, g1, g2, g3, g4⟩ := ctl_j b sp0 st v 0 (Or.inl rfl) hS ht hF
    exact ⟨b', _, r, m, p, c, s, f, g1, g2, g3, g4, lo2_0⟩
  · rw [if_neg h4, if_neg h4]
    obtain ⟨b', r, m, p, c, s, f, g1, g2, g3, g4⟩ := ctl_j b sp0 st v 1 (Or.inr rfl) hS ht hF
    exact ⟨b', _, r, m, p, c, s, f, g1, g2, g3, g4, lo2_1⟩
