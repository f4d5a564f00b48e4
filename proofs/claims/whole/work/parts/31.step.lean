/-! the processor: perform and work, the traps, a step -/
theorem pf_perform {reg mem : Nat → Int32} (hr : ∀ k, lo 65536 (reg k)) (w : Int32) : fn_M_work reg mem w = fn_P_perform reg mem w := by
  unfold fn_M_work fn_P_perform
  have hA : vp_in ((w >>> ((9 : Int32) &&& (31 : Int32))) &&& (7 : Int32)) 8 := lo_in (lo_7 _) (by decide)
  have hB : vp_in ((w >>> ((6 : Int32) &&& (31 : Int32))) &&& (7 : Int32)) 8 := lo_in (lo_7 _) (by decide)
  rw [pf_place (hr _) w, pf_add (hr _) (hr _), pf_sub (hr _) (hr _)]
  simp only [ck_eq hA, ck_eq hB]
/-- what perform leaves: some registers and words, all below 65536 -/
theorem pf_perform_ok {reg mem : Nat → Int32} (hr : ∀ k, lo 65536 (reg k)) (hm : ∀ k, lo 65536 (mem k)) (w : Int32) : ∃ reg' mem', fn_P_perform reg mem w = some (reg', mem') ∧ (∀ k, lo 65536 (reg' k)) ∧ (∀ k, lo 65536 (mem' k)) := by
  unfold fn_P_perform
  have hA : vp_in ((w >>> ((9 : Int32) &&& (31 : Int32))) &&& (7 : Int32)) 8 := lo_in (lo_7 _) (by decide)
  have hB : vp_in ((w >>> ((6 : Int32) &&& (31 : Int32))) &&& (7 : Int32)) 8 := lo_in (lo_7 _) (by decide)
  rw [ck_eq hB]
  split
  · rw [ck_eq hA]
    exact ⟨_, _, rfl, lo_upd hr _ (lo_mono (lo_63 _) (by decide)), hm⟩
  split
  · rw [ck_eq hA, ck_eq hB, ck_eq hA]
    exact ⟨_, _, rfl, lo_upd hr _ (lo_65535 _), hm⟩
  split
  · rw [ck_eq hA, ck_eq hB, ck_eq hA]
    exact ⟨_, _, rfl, lo_upd hr _ (lo_65535 _), hm⟩
  split
  · rw [ck_eq (lo_in (lo_63 _) (by decide)), ck_eq hA]
    exact ⟨_, _, rfl, lo_upd hr _ (hm _), hm⟩
  split
  · rw [ck_eq hA, ck_eq (lo_in (lo_63 _) (by decide))]
    exact ⟨_, _, rfl, hr, lo_upd hm _ (hr _)⟩
  · exact ⟨_, _, rfl, hr, hm⟩
/-- the traps of both sides -/
def trp (xpt tk ta : Nat → Int32) : Prop := ∀ i, ∃ a k : Nat, a < 64 ∧ k < 3 ∧ ta i = nI a ∧ tk i = nI k ∧ xpt i = nI (a + 64 * k)
theorem trp_1 {xpt tk ta : Nat → Int32} (h : trp xpt tk ta) {p : Int32} (hp : lo 64 p) (i : Nat) : (xpt i = (64 : Int32) + p) ↔ (tk i = (1 : Int32) ∧ ta i = p) := by
  obtain ⟨a, k, ha, hk, e1, e2, e3⟩ := h i
  obtain ⟨q, hq, rfl⟩ := hp
  rw [e1, e2, e3]
  have e4 : (64 : Int32) + nI q = nI (64 + q) := nI_add 64 q
  have e5 : (nI k = (1 : Int32)) ↔ k = 1 := nI_eq (b := 1) (by omega) (by decide)
  rw [e4, e5, nI_eq (by omega) (by omega), nI_eq (by omega) (by omega)]
  omega
theorem trp_2 {xpt tk ta : Nat → Int32} (h : trp xpt tk ta) {p : Int32} (hp : lo 64 p) (i : Nat) : (xpt i = (128 : Int32) + p) ↔ (tk i = (2 : Int32) ∧ ta i = p) := by
  obtain ⟨a, k, ha, hk, e1, e2, e3⟩ := h i
  obtain ⟨q, hq, rfl⟩ := hp
  rw [e1, e2, e3]
  have e4 : (128 : Int32) + nI q = nI (128 + q) := nI_add 128 q
  have e5 : (nI k = (2 : Int32)) ↔ k = 2 := nI_eq (b := 2) (by omega) (by decide)
  rw [e4, e5, nI_eq (by omega) (by omega), nI_eq (by omega) (by omega)]
  omega
theorem tn_0 : Int32.toNatClampNeg (0 : Int32) = 0 := by decide
theorem tn_1 : Int32.toNatClampNeg (1 : Int32) = 1 := by decide
theorem tn_01 : Int32.toNatClampNeg ((0 : Int32) + (1 : Int32)) = 1 := by decide
theorem vi_0 : vp_in (0 : Int32) 2 := by unfold vp_in; decide
theorem vi_1 : vp_in (1 : Int32) 2 := by unfold vp_in; decide
theorem vi_01 : vp_in ((0 : Int32) + (1 : Int32)) 2 := by unfold vp_in; decide
theorem l2_0 : ¬ (2 : Int32) ≤ (0 : Int32) := by decide
theorem l2_01 : ¬ (2 : Int32) ≤ (0 : Int32) + (1 : Int32) := by decide
theorem l2_1 : ¬ (2 : Int32) ≤ (1 : Int32) := by decide
theorem l2_011 : (2 : Int32) ≤ (0 : Int32) + (1 : Int32) + (1 : Int32) := by decide
theorem z_10 : ¬ (1 : Int32) = (0 : Int32) := by decide
theorem tL_64 : fn_P_isTrapped_L35 64 = fn_P_isTrapped_B35 (fn_P_isTrapped_L35 63) := rfl
theorem tL_63 : fn_P_isTrapped_L35 63 = fn_P_isTrapped_B35 (fn_P_isTrapped_L35 62) := rfl
theorem tL_62 : fn_P_isTrapped_L35 62 = fn_P_isTrapped_B35 (fn_P_isTrapped_L35 61) := rfl
theorem pf_tloop (reg xpt : Nat → Int32) (pc fre z2 z3 : Int32) : fn_P_isTrapped_L35 64 reg xpt pc fre z2 z3 (0 : Int32) = some (if (fre = (0 : Int32) ∧ (xpt 0 = (64 : Int32) + pc ∨ xpt 1 = (64 : Int32) + pc)) ∨ (¬ z3 = (0 : Int32) ∧ (xpt 0 = (128 : Int32) + z2 ∨ xpt 1 = (128 : Int32) + z2)) then (1 : Int32) else (0 : Int32)) := by
  rw [tL_64]
  unfold fn_P_isTrapped_B35 fn_P_isTrapped_J67
  rw [tL_63]
  unfold fn_P_isTrapped_B35 fn_P_isTrapped_J67
  rw [tL_62]
  unfold fn_P_isTrapped_B35
  simp only [if_neg l2_0, if_neg l2_01, if_pos l2_011, ck_eq vi_0, ck_eq vi_01, ck_eq vi_1, tn_0, tn_01, tn_1]
  generalize xpt 0 = a
  generalize xpt 1 = b
  generalize (64 : Int32) + pc = c
  generalize (128 : Int32) + z2 = d
  by_cases h1 : fre = (0 : Int32) <;> by_cases h2 : z3 = (0 : Int32) <;> by_cases h3 : a = c <;> by_cases h4 : b = c <;> by_cases h5 : a = d <;> by_cases h6 : b = d <;> simp_all
theorem pf_isTrapped (reg xpt : Nat → Int32) (pc fre w : Int32) : fn_P_isTrapped reg xpt pc fre w = some (if (fre = (0 : Int32) ∧ (xpt 0 = (64 : Int32) + pc ∨ xpt 1 = (64 : Int32) + pc)) ∨ ((w >>> ((12 : Int32) &&& (31 : Int32))) = (5 : Int32) ∧ (xpt 0 = (128 : Int32) + (((reg (Int32.toNatClampNeg ((w >>> ((6 : Int32) &&& (31 : Int32))) &&& (7 : Int32)))) + w) &&& (63 : Int32)) ∨ xpt 1 = (128 : Int32) + (((reg (Int32.toNatClampNeg ((w >>> ((6 : Int32) &&& (31 : Int32))) &&& (7 : Int32)))) + w) &&& (63 : Int32)))) then (1 : Int32) else (0 : Int32)) := by
  unfold fn_P_isTrapped
  have hB : vp_in ((w >>> ((6 : Int32) &&& (31 : Int32))) &&& (7 : Int32)) 8 := lo_in (lo_7 _) (by decide)
  rw [ck_eq hB, pf_tloop, pf_tloop]
  by_cases h5 : (w >>> ((12 : Int32) &&& (31 : Int32))) = (5 : Int32)
  · rw [if_pos h5]
    simp only [h5, z_10, not_false_eq_true, true_and]
  · rw [if_neg h5]
    simp only [h5, not_true_eq_false, false_and]
theorem mL_64 : fn_M_isTrap_L5 64 = fn_M_isTrap_B5 (fn_M_isTrap_L5 63) := rfl
theorem mL_63 : fn_M_isTrap_L5 63 = fn_M_isTrap_B5 (fn_M_isTrap_L5 62) := rfl
theorem mL_62 : fn_M_isTrap_L5 62 = fn_M_isTrap_B5 (fn_M_isTrap_L5 61) := rfl
theorem pf_isTrap (tk ta : Nat → Int32) (k a : Int32) : fn_M_isTrap tk ta k a = some (if (tk 0 = k ∧ ta 0 = a) ∨ (tk 1 = k ∧ ta 1 = a) then (1 : Int32) else (0 : Int32)) := by
  unfold fn_M_isTrap
  rw [mL_64]
  unfold fn_M_isTrap_B5
  rw [mL_63]
  unfold fn_M_isTrap_B5
  rw [mL_62]
  unfold fn_M_isTrap_B5
  simp only [if_neg l2_0, if_neg l2_01, if_pos l2_011, ck_eq vi_0, ck_eq vi_01, ck_eq vi_1, tn_0, tn_01, tn_1, z_10, if_false, if_true]
  by_cases h1 : tk 0 = k <;> by_cases h2 : ta 0 = a <;> by_cases h3 : tk 1 = k <;> by_cases h4 : ta 1 = a <;> simp [h1, h2, h3, h4, ckb]
