/-! update: what a data row does -/
def timI (t : Nat) (nh ng bg : Int32) : Prop := t < 2 ^ 30 ∧ (¬ nh = (0 : Int32) → ∃ u : Nat, u ≤ t ∧ ng = nI u ∧ bg = nI (u + 1))
theorem soon_iff {t u : Nat} (ht : t < 2 ^ 30) (hu : u ≤ t) : ((4 : Int32) ≤ (nI t - nI u) - (1 : Int32)) ↔ ((5 : Int32) ≤ nI (t + 1) - nI (u + 1)) := by
  rw [pk_sub hu, pk_sub (by omega : u + 1 ≤ t + 1), show t + 1 - (u + 1) = t - u from by omega]
  generalize hd : t - u = d
  cases d with
  | zero => decide
  | succ d =>
    rw [nI_pred]
    have e4 : ((4 : Int32) ≤ nI d) ↔ 4 ≤ d := nI_leI (a := 4) (by decide) (by omega)
    have e5 : ((5 : Int32) ≤ nI (d + 1)) ↔ 5 ≤ d + 1 := nI_leI (a := 5) (by decide) (by omega)
    rw [e4, e5]
    omega
set_option maxHeartbeats 4000000 in
theorem sim_update {pgm reg mem xpt tk ta : Nat → Int32} {stp dat err adr pc cau fre nb nv nn nh ng bg : Int32} {i r t : Nat} {g : Nat → Int32} (b : Bool) (st : Int32) (hi : i < 16) (hrow : rwd (wid i) r g) (hnb : lo 2 nb) (hnv : lo 65536 nv) (hnn : lo 16 nn) (hnh : lo 2 nh) (hT : timI t nh ng bg) (h : okB pgm stp dat err adr reg mem xpt tk ta pc cau fre) :
    ∃ nb' nv' nn' nh' ng' bg' b' pgm' stp' dat' err' adr' reg' mem' xpt' tk' ta' pc' cau' st' fre',
      fn_N_updateData (nI i) (nI r) nb nv nn nh (nI t) ng pgm stp dat err adr reg mem xpt pc (bI b) cau st fre = some (nb', nv', nn', nh', ng', pgm', stp', dat', err', adr', reg', mem', xpt', pc', bI b', cau', st', fre') ∧
      fn_M_update reg mem pc (bI (!b)) cau stp fre st dat err adr pgm tk ta (nI i) g (nI (t + 1)) bg nh nb nv nn = some (reg', mem', pc', bI (!b'), cau', stp', fre', st', dat', err', adr', pgm', tk', ta', bg', nh', nb', nv', nn') ∧
      lo 2 nb' ∧ lo 65536 nv' ∧ lo 16 nn' ∧ lo 2 nh' ∧ timI t nh' ng' bg' ∧ okB pgm' stp' dat' err' adr' reg' mem' xpt' tk' ta' pc' cau' fre' := by
  have ne : ∀ c : Nat, c < 16 → i ≠ c → ¬ nI i = nI c := fun c hc h => by
    rw [nI_eq (by omega) (by omega)]; exact h
  -- behind the first line: BUSY may have ended
  have main : ∀ nb, lo 2 nb → (i = 3 → rwd 22 r g) → ∃ nb' nv' nn' nh' ng' bg' b' pgm' stp' dat' err' adr' reg' mem' xpt' tk' ta' pc' cau' st' fre',
      fn_N_updateData_J23 (nI i) (nI r) nb nv nn nh (nI t) ng pgm stp dat err adr reg mem xpt pc (bI b) cau st fre = some (nb', nv', nn', nh', ng', pgm', stp', dat', err', adr', reg', mem', xpt', pc', bI b', cau', st', fre') ∧
      fn_M_update_J23 reg mem pc (bI (!b)) cau stp fre st dat err adr pgm tk ta (nI i) g (nI (t + 1)) bg nh nb nv nn = some (reg', mem', pc', bI (!b'), cau', stp', fre', st', dat', err', adr', pgm', tk', ta', bg', nh', nb', nv', nn') ∧
      lo 2 nb' ∧ lo 65536 nv' ∧ lo 16 nn' ∧ lo 2 nh' ∧ timI t nh' ng' bg' ∧ okB pgm' stp' dat' err' adr' reg' mem' xpt' tk' ta' pc' cau' fre' := by
    intro nb hnb h3
    unfold fn_N_updateData_J23 fn_M_update_J23
    by_cases hi3 : i = 3
    case neg =>
      have y3 : ¬ nI i = (3 : Int32) := ne 3 (by decide) hi3
      rw [if_neg y3, if_neg y3]
      exact ⟨nb, nv, nn, nh, ng, bg, b, pgm, stp, dat, err, adr, reg, mem, xpt, tk, ta, pc, cau, st, fre, rfl, rfl, hnb, hnv, hnn, hnh, hT, h⟩
    subst hi3
    obtain ⟨hr, hg⟩ := h3 rfl
    have y3 : nI 3 = (3 : Int32) := rfl
    rw [if_pos y3, if_pos y3]
    by_cases hb0 : nb = (0 : Int32)
    case neg =>
      rw [if_neg hb0, if_neg hb0]
      exact ⟨nb, nv, nn, nh, ng, bg, b, pgm, stp, dat, err, adr, reg, mem, xpt, tk, ta, pc, cau, st, fre, rfl, rfl, hnb, hnv, hnn, hnh, hT, h⟩
    rw [if_pos hb0, if_pos hb0]
    -- the operation itself
    have oper : ∃ nb' nv' nn' nh' ng' bg' b' pgm' stp' dat' err' adr' reg' mem' xpt' tk' ta' pc' cau' st' fre',
      (if (nI r &&& (3 : Int32)) = (1 : Int32) then
            (fn_N_noteBegin (nI r) nn nh (nI t) ng).bind fun v65 =>
              (fn_B_fetch pgm stp dat err adr mem xpt pc (bI b) cau v65.1).bind fun v77 =>
                some (nb, v77.1, v65.1, v65.2.1, v65.2.2, pgm, stp, dat, err, v77.2, reg, mem, xpt, pc, (bI b), cau, st, fre)
          else
            if (nI r &&& (3 : Int32)) = (2 : Int32) then
              (fn_N_noteBegin (nI r) nn nh (nI t) ng).bind fun v92 =>
                (fn_B_put pgm stp dat err adr reg mem xpt pc (bI b) cau st fre v92.1 ((nI r >>> ((2 : Int32) &&& (31 : Int32))) &&& (65535 : Int32))).bind fun v112 =>
                  some (nb, nv, v92.1, v92.2.1, v92.2.2, v112.1, v112.2.1, v112.2.2.1, v112.2.2.2.1, v112.2.2.2.2.1, v112.2.2.2.2.2.1, v112.2.2.2.2.2.2.1, v112.2.2.2.2.2.2.2.1, v112.2.2.2.2.2.2.2.2.1, v112.2.2.2.2.2.2.2.2.2.1, v112.2.2.2.2.2.2.2.2.2.2.1, v112.2.2.2.2.2.2.2.2.2.2.2.1, v112.2.2.2.2.2.2.2.2.2.2.2.2)
            else
              some (nb, nv, nn, nh, ng, pgm, stp, dat, err, adr, reg, mem, xpt, pc, (bI b), cau, st, fre)) = some (nb', nv', nn', nh', ng', pgm', stp', dat', err', adr', reg', mem', xpt', pc', bI b', cau', st', fre') ∧
      fn_M_update_J65 reg mem pc (bI (!b)) cau stp fre st dat err adr pgm tk ta (nI 3) g (nI (t + 1)) bg nh nb nv nn = some (reg', mem', pc', bI (!b'), cau', stp', fre', st', dat', err', adr', pgm', tk', ta', bg', nh', nb', nv', nn') ∧
      lo 2 nb' ∧ lo 65536 nv' ∧ lo 16 nn' ∧ lo 2 nh' ∧ timI t nh' ng' bg' ∧ okB pgm' stp' dat' err' adr' reg' mem' xpt' tk' ta' pc' cau' fre' := by
      unfold fn_M_update_J65
      have q2 : fn_M_bits g (0 : Int32) (2 : Int32) = some (nI (r % 2 ^ 2)) := bits_ok (a := 0) (n := 2) (by decide) (by decide) (fun j hj => by rw [Nat.zero_add]; exact hg j (by omega))
      have q4 : fn_M_bits g (18 : Int32) (4 : Int32) = some (nI (r / 2 ^ 18 % 2 ^ 4)) := bits_ok (a := 18) (n := 4) (by decide) (by decide) (fun j hj => by rw [hg (18 + j) (by omega), div_pow])
      have q16 : fn_M_bits g (2 : Int32) (16 : Int32) = some (nI (r / 2 ^ 2 % 2 ^ 16)) := bits_ok (a := 2) (n := 16) (by decide) (by decide) (fun j hj => by rw [hg (2 + j) (by omega), div_pow])
      have w2 : nI r &&& (3 : Int32) = nI (r % 2 ^ 2) := pk_andN (by omega) 2 (by decide)
      have w4 : (nI r >>> ((18 : Int32) &&& (31 : Int32))) &&& (15 : Int32) = nI (r / 2 ^ 18 % 2 ^ 4) := by
        rw [pk_shrN (by omega) _ 18 (by decide), pk_andN (by omega) 4 (by decide)]
      have w16 : (nI r >>> ((2 : Int32) &&& (31 : Int32))) &&& (65535 : Int32) = nI (r / 2 ^ 2 % 2 ^ 16) &&& (65535 : Int32) := by
        rw [pk_shrN (by omega) _ 2 (by decide), pk_andN (by omega) 16 (by decide), pk_andN (by omega) 16 (by decide), Nat.mod_mod]
      have hk4 : r / 2 ^ 18 % 2 ^ 4 < 16 := by omega
      rw [q2, w2]
      have hT' : timI t (1 : Int32) (nI t) (nI (t + 1)) := ⟨hT.1, fun _ => ⟨t, Nat.le_refl _, rfl, rfl⟩⟩
      have nb2 : fn_N_noteBegin (nI r) nn nh (nI t) ng = some (nI (r / 2 ^ 18 % 2 ^ 4), (1 : Int32), nI t) := by
        unfold fn_N_noteBegin
        rw [w4]
      rw [nb2]
      have ho : r % 2 ^ 2 = 0 ∨ r % 2 ^ 2 = 1 ∨ r % 2 ^ 2 = 2 ∨ r % 2 ^ 2 = 3 := by omega
      have hg' := h.1
      rcases ho with e | e | e | e
      · rw [e]
        exact ⟨nb, nv, nn, nh, ng, bg, b, pgm, stp, dat, err, adr, reg, mem, xpt, tk, ta, pc, cau, st, fre, rfl, rfl, hnb, hnv, hnn, hnh, hT, h⟩
      · rw [e]
        obtain ⟨a, x, g1, g2, g3, g4⟩ := sim_fetch (stp := stp) b _ hk4 h.1 h.2.2.1 h.2.2.2.1 h.2.2.2.2.1 h.2.2.2.2.2.1.2.1 h.2.2.2.2.2.1.2.2.1 h.2.2.2.2.2.1.2.2.2 h.2.2.2.2.2.2.1
        refine ⟨nb, a, nI (r / 2 ^ 18 % 2 ^ 4), 1, nI t, nI (t + 1), b, pgm, stp, dat, err, x, reg, mem, xpt, tk, ta, pc, cau, st, fre, ?_, ?_, hnb, g3, lo_nI hk4, lo2_1, hT', ⟨h.1, h.2.1, h.2.2.1, h.2.2.2.1, g4, h.2.2.2.2.2⟩⟩
        · show (fn_B_fetch pgm stp dat err adr mem xpt pc (bI b) cau (nI (r / 2 ^ 18 % 2 ^ 4))).bind _ = _
          rw [g1]; rfl
        · simp only [bs, if_neg (show ¬ nI 1 = (0 : Int32) from by decide), if_neg (show ¬ nI 1 = (3 : Int32) from by decide), q4, if_pos (show nI 1 = (1 : Int32) from rfl), g2]
      · rw [e]
        obtain ⟨b', pgm', stp', dat', err', adr', reg', mem', xpt', tk', ta', pc', cau', st', fre', g1, g2, g3⟩ := sim_put b st (nI (r / 2 ^ 2 % 2 ^ 16)) _ hk4 h
        rw [w16]
        refine ⟨nb, nv, nI (r / 2 ^ 18 % 2 ^ 4), 1, nI t, nI (t + 1), b', pgm', stp', dat', err', adr', reg', mem', xpt', tk', ta', pc', cau', st', fre', ?_, ?_, hnb, hnv, lo_nI hk4, lo2_1, hT', g3⟩
        · show (fn_B_put pgm stp dat err adr reg mem xpt pc (bI b) cau st fre (nI (r / 2 ^ 18 % 2 ^ 4)) (nI (r / 2 ^ 2 % 2 ^ 16) &&& (65535 : Int32))).bind _ = _
          rw [g1]; rfl
        · simp only [bs, if_neg (show ¬ nI 2 = (0 : Int32) from by decide), if_neg (show ¬ nI 2 = (3 : Int32) from by decide), q4, if_neg (show ¬ nI 2 = (1 : Int32) from by decide), q16, g2]
      · rw [e]
        exact ⟨nb, nv, nn, nh, ng, bg, b, pgm, stp, dat, err, adr, reg, mem, xpt, tk, ta, pc, cau, st, fre, rfl, rfl, hnb, hnv, hnn, hnh, hT, h⟩
    unfold fn_N_comesTooSoon
    by_cases hh : nh = (0 : Int32)
    · rw [if_pos hh, if_pos hh]
      exact oper
    · rw [if_neg hh, if_neg hh]
      obtain ⟨u, hu, rfl, rfl⟩ := hT.2 hh
      by_cases hs : (4 : Int32) ≤ (nI t - nI u) - (1 : Int32)
      · rw [if_pos hs, if_pos ((soon_iff hT.1 hu).mp hs)]
        exact oper
      · rw [if_neg hs, if_neg (fun q => hs ((soon_iff hT.1 hu).mpr q))]
        exact ⟨1, nv, nn, nh, nI u, nI (u + 1), b, pgm, stp, dat, err, adr, reg, mem, xpt, tk, ta, pc, cau, st, fre, rfl, rfl, lo2_1, hnv, hnn, hnh, hT, h⟩
  have h22 : i = 3 → rwd 22 r g := fun e => by subst e; exact hrow
  unfold fn_N_updateData fn_M_update
  by_cases hi2 : i = 2
  · subst hi2
    have y2 : nI 2 = (2 : Int32) := rfl
    obtain ⟨hr, hg⟩ : rwd 4 r g := hrow
    have e0 : g (Int32.toNatClampNeg (0 : Int32)) = nI r &&& (1 : Int32) := by
      rw [tn_0, hg 0 (by decide), pk_andN (by omega) 1 (by decide), Nat.pow_zero, Nat.div_one]
    rw [if_pos y2, if_pos y2, ck_eq (by unfold vp_in; decide), e0]
    by_cases h1 : nI r &&& (1 : Int32) = (1 : Int32)
    · rw [if_pos h1, if_pos h1]
      exact main 0 lo2_0 h22
    · rw [if_neg h1, if_neg h1]
      exact main nb hnb h22
  · have y2 : ¬ nI i = (2 : Int32) := ne 2 (by decide) hi2
    rw [if_neg y2, if_neg y2]
    exact main nb hnb h22
