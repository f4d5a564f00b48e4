/-! run: both loops -/
theorem lo2_b (b : Bool) : lo 2 (bI b) := by cases b; exact ⟨0, by decide, rfl⟩; exact ⟨1, by decide, rfl⟩
theorem eq_f : bI false = (0 : Int32) := rfl
theorem ne_1 : ¬ bI true = (0 : Int32) := by decide
/-- a halted processor: the reference's loop only counts -/
theorem run_halted (tk ta reg mem : Nat → Int32) (pc cau fre st d : Int32) (n : Nat) (hn : n ≤ 50) : ∀ (r k f : Nat), k + r = n → r < f → fn_M_run_L16 f reg mem pc 1 cau fre st tk ta (nI n) d (nI k) = some (d, reg, mem, pc, 1, cau, fre, st) := by
  intro r
  induction r with
  | zero =>
    intro k f hk hf
    obtain ⟨f, rfl⟩ : ∃ g, f = g + 1 := ⟨f - 1, by omega⟩
    rw [fn_M_run_S16]
    unfold fn_M_run_B16
    rw [if_pos (nI_le (by omega) (by omega))]
  | succ r ih =>
    intro k f hk hf
    obtain ⟨f, rfl⟩ : ∃ g, f = g + 1 := ⟨f - 1, by omega⟩
    rw [fn_M_run_S16]
    unfold fn_M_run_B16
    rw [if_neg (nI_ge (by omega) (by omega)), if_neg z_10, nI_1]
    exact ih (k + 1) f (by omega) (by omega)
theorem run_loop {xpt tk ta : Nat → Int32} (ht : trp xpt tk ta) (n : Nat) (hn : n ≤ 50) : ∀ (r k f : Nat) (reg mem : Nat → Int32) (pc cau fre st : Int32), k + r = n → r < f → okS reg mem pc cau → lo 2 fre →
    ∃ d b reg' mem' pc' cau' st' fre', fn_K_run_L15 f reg mem xpt pc 1 cau st fre (nI n) (nI k) = some (d, reg', mem', pc', bI b, cau', st', fre') ∧
      fn_M_run_L16 f reg mem pc 0 cau fre st tk ta (nI n) (nI k) (nI k) = some (d, reg', mem', pc', bI (!b), cau', fre', st') ∧ okS reg' mem' pc' cau' ∧ lo 2 fre' := by
  intro r
  induction r with
  | zero =>
    intro k f reg mem pc cau fre st hk hf hS hF
    obtain ⟨f, rfl⟩ : ∃ g, f = g + 1 := ⟨f - 1, by omega⟩
    refine ⟨nI k, true, reg, mem, pc, cau, st, fre, ?_, ?_, hS, hF⟩
    · rw [fn_K_run_S15]
      unfold fn_K_run_B15
      rw [if_pos (nI_le (by omega) (by omega))]; rfl
    · rw [fn_M_run_S16]
      unfold fn_M_run_B16
      rw [if_pos (nI_le (by omega) (by omega))]; rfl
  | succ r ih =>
    intro k f reg mem pc cau fre st hk hf hS hF
    obtain ⟨f, rfl⟩ : ∃ g, f = g + 1 := ⟨f - 1, by omega⟩
    obtain ⟨b, reg', mem', pc', cau', st', g1, g2, g3⟩ := sim_step fre st hS.1 hS.2.1 hS.2.2.1 hS.2.2.2 ht
    rw [fn_K_run_S15, fn_M_run_S16]
    unfold fn_K_run_B15 fn_M_run_B16
    rw [if_neg (nI_ge (by omega) (by omega)), if_neg (nI_ge (by omega) (by omega)), if_neg z_10, if_pos rfl, g1, g2]
    cases b with
    | true =>
      obtain ⟨d, b2, r2, m2, p2, c2, s2, f2, q1, q2, q3, q4⟩ := ih (k + 1) f reg' mem' pc' cau' 0 st' (by omega) (by omega) g3 ⟨0, by decide, rfl⟩
      refine ⟨d, b2, r2, m2, p2, c2, s2, f2, ?_, ?_, q3, q4⟩
      · simp only [bs, if_neg ne_1]
        show fn_K_run_L15 f reg' mem' xpt pc' 1 cau' st' 0 (nI n) (nI k + (1 : Int32)) = _
        rw [nI_1]
        exact q1
      · simp only [bs, if_neg ne_1]
        show fn_M_run_L16 f reg' mem' pc' 0 cau' 0 st' tk ta (nI n) (nI k + (1 : Int32)) (nI k + (1 : Int32)) = _
        rw [nI_1]
        exact q2
    | false =>
      refine ⟨nI k, false, reg', mem', pc', cau', st', 0, ?_, ?_, g3, ⟨0, by decide, rfl⟩⟩
      · simp only [bs, if_pos eq_f]
      · simp only [bs, if_pos eq_f]
        show fn_M_run_L16 f reg' mem' pc' 1 cau' 0 st' tk ta (nI n) (nI k) (nI k + (1 : Int32)) = _
        rw [nI_1]
        exact run_halted tk ta reg' mem' pc' cau' 0 st' (nI k) n hn r (k + 1) f (by omega) (by omega)
theorem sim_run {reg mem xpt tk ta : Nat → Int32} {pc cau fre : Int32} (b : Bool) (st j : Int32) (hS : okS reg mem pc cau) (hF : lo 2 fre) (ht : trp xpt tk ta) :
    ∃ d b' reg' mem' pc' cau' st' fre', fn_K_run reg mem xpt pc (bI b) cau st fre j = some (d, reg', mem', pc', bI b', cau', st', fre') ∧
      fn_M_run reg mem pc (bI (!b)) cau fre st tk ta j = some (d, reg', mem', pc', bI (!b'), cau', fre', st') ∧ okS reg' mem' pc' cau' ∧ lo 2 fre' := by
  unfold fn_K_run fn_M_run fn_M_in
  by_cases h1 : j < (1 : Int32)
  · refine ⟨(-1 : Int32), b, reg, mem, pc, cau, st, fre, ?_, ?_, hS, hF⟩
    · rw [if_pos h1]
    · rw [if_pos h1]; rfl
  by_cases h2 : j ≤ (50 : Int32)
  · have h3 : ¬ (50 : Int32) < j := Int32.not_lt.mpr h2
    rw [if_neg h1, if_pos h2, if_neg h1, if_neg h3]
    obtain ⟨n, hn, rfl⟩ : ∃ n : Nat, n ≤ 50 ∧ j = nI n := nI_of2 (M := 50) (by decide) (fun h => h1 (Int32.lt_trans h (by decide))) h2
    have e1 : (1 : Int32) = nI 1 := rfl
    have hn1 : 1 ≤ n := by
      rw [e1, nI_ltI (by omega) (by omega)] at h1
      omega
    cases b with
    | true =>
      obtain ⟨d, b2, r2, m2, p2, c2, s2, f2, q1, q2, q3, q4⟩ := run_loop ht n hn n 0 64 reg mem pc cau fre st (by omega) (by omega) hS hF
      exact ⟨d, b2, r2, m2, p2, c2, s2, f2, q1, q2, q3, q4⟩
    | false =>
      refine ⟨0, false, reg, mem, pc, cau, st, fre, ?_, ?_, hS, hF⟩
      · show fn_K_run_B15 (fn_K_run_L15 63) reg mem xpt pc 0 cau st fre (nI n) (nI 0) = _
        unfold fn_K_run_B15
        rw [if_neg (nI_ge (by omega) (by omega)), if_pos rfl]; rfl
      · exact run_halted tk ta reg mem pc cau fre st 0 n hn n 0 64 (by omega) (by omega)
  · have h3 : (50 : Int32) < j := Int32.not_le.mp h2
    refine ⟨(-1 : Int32), b, reg, mem, pc, cau, st, fre, ?_, ?_, hS, hF⟩
    · rw [if_neg h1, if_neg h2]
    · rw [if_neg h1, if_pos h3]; rfl
