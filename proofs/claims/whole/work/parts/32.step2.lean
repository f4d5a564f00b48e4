/-! a step: advance and step go together -/
theorem bs {α β : Type} (a : α) (f : α → Option β) : (some a).bind f = f a := rfl
def bI (b : Bool) : Int32 := match b with | true => 1 | false => 0
def okS (reg mem : Nat → Int32) (pc cau : Int32) : Prop := (∀ k, lo 65536 (reg k)) ∧ (∀ k, lo 65536 (mem k)) ∧ lo 64 pc ∧ lo 5 cau
theorem op_ne {op : Int32} {q : Nat} (h : op = nI q) (hq : q < 16) (k : Nat) (hk : k < 16) (hn : q ≠ k) : ¬ op = nI k := by
  rw [h, nI_eq (by omega) (by omega)]
  exact hn
theorem pf_no {reg mem : Nat → Int32} {w : Int32} (h1 : ¬ (w >>> ((12 : Int32) &&& (31 : Int32))) = (1 : Int32)) (h2 : ¬ (w >>> ((12 : Int32) &&& (31 : Int32))) = (2 : Int32)) (h3 : ¬ (w >>> ((12 : Int32) &&& (31 : Int32))) = (3 : Int32)) (h4 : ¬ (w >>> ((12 : Int32) &&& (31 : Int32))) = (4 : Int32)) (h5 : ¬ (w >>> ((12 : Int32) &&& (31 : Int32))) = (5 : Int32)) : fn_P_perform reg mem w = some (reg, mem) := by
  unfold fn_P_perform
  have hB : vp_in ((w >>> ((6 : Int32) &&& (31 : Int32))) &&& (7 : Int32)) 8 := lo_in (lo_7 _) (by decide)
  rw [ck_eq hB, if_neg h1, if_neg h2, if_neg h3, if_neg h4, if_neg h5]
set_option maxHeartbeats 4000000 in
theorem sim_go {reg mem : Nat → Int32} (xpt tk ta : Nat → Int32) {pc cau w : Int32} (st : Int32) (hr : ∀ k, lo 65536 (reg k)) (hm : ∀ k, lo 65536 (mem k)) (hp : lo 64 pc) (hc : lo 5 cau) (hw : lo 65536 w) :
    ∃ b reg' mem' pc' cau' st', fn_P_advance_J32 reg mem xpt pc 1 cau st 0 w = some (bI b, reg', mem', pc', bI b, cau', st', 0) ∧
      fn_M_step_J89 reg mem pc 0 cau 0 st tk ta w (w >>> ((12 : Int32) &&& (31 : Int32))) (reg (Int32.toNatClampNeg ((w >>> ((6 : Int32) &&& (31 : Int32))) &&& (7 : Int32)))) (w &&& (63 : Int32)) = some (bI b, reg', mem', pc', bI (!b), cau', 0, st') ∧ okS reg' mem' pc' cau' := by
  obtain ⟨q, hq, hop⟩ : ∃ q : Nat, q < 16 ∧ w >>> ((12 : Int32) &&& (31 : Int32)) = nI q := by
    obtain ⟨W, hW, rfl⟩ := hw
    exact ⟨W / 4096, by omega, pk_shrN (by omega) _ 12 (by decide)⟩
  have hA : vp_in ((w >>> ((9 : Int32) &&& (31 : Int32))) &&& (7 : Int32)) 8 := lo_in (lo_7 _) (by decide)
  have hB : vp_in ((w >>> ((6 : Int32) &&& (31 : Int32))) &&& (7 : Int32)) 8 := lo_in (lo_7 _) (by decide)
  have hpm := fun reg mem (hr : ∀ k, lo 65536 (reg k)) => pf_perform (reg := reg) (mem := mem) hr w
  obtain ⟨pr, pm, hpp, hpr, hpmm⟩ := pf_perform_ok hr hm w
  have hno := fun reg mem => pf_no (reg := reg) (mem := mem) (w := w)
  have hb1 : lo 64 ((pc + (1 : Int32)) &&& (63 : Int32)) := lo_63 _
  have hn63 : lo 64 (w &&& (63 : Int32)) := lo_63 _
  have hrb := hr (Int32.toNatClampNeg ((w >>> ((6 : Int32) &&& (31 : Int32))) &&& (7 : Int32)))
  have hne := op_ne hop hq
  unfold fn_P_advance_J32 fn_M_step_J89 fn_P_isJump fn_P_jump fn_M_step_J166 fn_M_step_J194
  have z0 : (0 : Int32) = 0 := rfl
  simp only [rl64_1 hp, ck_eq hA, ck_eq hB]
  by_cases e10 : q = 10
  · subst e10
    have h10 : w >>> ((12 : Int32) &&& (31 : Int32)) = (10 : Int32) := hop
    refine ⟨false, reg, mem, pc, 1, st, ?_, ?_, hr, hm, hp, lo_nI (k := 1) (by decide)⟩
    · simp only [if_pos h10, fn_P_halt, bs, bI]
    · simp only [if_pos h10, fn_M_halt, bs, bI, Bool.not_false]
  have n10 : ¬ w >>> ((12 : Int32) &&& (31 : Int32)) = (10 : Int32) := hne 10 (by decide) e10
  by_cases e6 : q = 6
  · subst e6
    have n1 : ¬ w >>> ((12 : Int32) &&& (31 : Int32)) = (1 : Int32) := hne 1 (by decide) (by decide)
    have n2 : ¬ w >>> ((12 : Int32) &&& (31 : Int32)) = (2 : Int32) := hne 2 (by decide) (by decide)
    have n3 : ¬ w >>> ((12 : Int32) &&& (31 : Int32)) = (3 : Int32) := hne 3 (by decide) (by decide)
    have n4 : ¬ w >>> ((12 : Int32) &&& (31 : Int32)) = (4 : Int32) := hne 4 (by decide) (by decide)
    have n5 : ¬ w >>> ((12 : Int32) &&& (31 : Int32)) = (5 : Int32) := hne 5 (by decide) (by decide)
    have n7 : ¬ w >>> ((12 : Int32) &&& (31 : Int32)) = (7 : Int32) := hne 7 (by decide) (by decide)
    have n8 : ¬ w >>> ((12 : Int32) &&& (31 : Int32)) = (8 : Int32) := hne 8 (by decide) (by decide)
    have n9 : ¬ w >>> ((12 : Int32) &&& (31 : Int32)) = (9 : Int32) := hne 9 (by decide) (by decide)
    have h6 : w >>> ((12 : Int32) &&& (31 : Int32)) = (6 : Int32) := hop
    have a1 : ¬ w >>> ((12 : Int32) &&& (31 : Int32)) < (6 : Int32) := by rw [h6]; decide
    have a2 : ¬ (9 : Int32) < w >>> ((12 : Int32) &&& (31 : Int32)) := by rw [h6]; decide
    refine ⟨true, reg, mem, w &&& (63 : Int32), cau, st + 1, ?_, ?_, hr, hm, hn63, hc⟩
    · simp only [if_neg n10, if_neg a1, if_neg a2, if_pos h6, if_neg n7, if_neg n8, if_neg n9, if_neg z_10, if_pos z0, if_true, bs, bI, Bool.not_true]
    · simp only [if_neg n10, if_neg a1, if_neg a2, if_pos h6, if_neg n7, if_neg n8, if_neg n9, if_neg z_10, if_pos z0, if_true, bs, bI, Bool.not_true, hpm reg mem hr, hno reg mem n1 n2 n3 n4 n5]
  have n6 : ¬ w >>> ((12 : Int32) &&& (31 : Int32)) = (6 : Int32) := hne 6 (by decide) e6
  by_cases e7 : q = 7
  · subst e7
    have n1 : ¬ w >>> ((12 : Int32) &&& (31 : Int32)) = (1 : Int32) := hne 1 (by decide) (by decide)
    have n2 : ¬ w >>> ((12 : Int32) &&& (31 : Int32)) = (2 : Int32) := hne 2 (by decide) (by decide)
    have n3 : ¬ w >>> ((12 : Int32) &&& (31 : Int32)) = (3 : Int32) := hne 3 (by decide) (by decide)
    have n4 : ¬ w >>> ((12 : Int32) &&& (31 : Int32)) = (4 : Int32) := hne 4 (by decide) (by decide)
    have n5 : ¬ w >>> ((12 : Int32) &&& (31 : Int32)) = (5 : Int32) := hne 5 (by decide) (by decide)
    have n6 : ¬ w >>> ((12 : Int32) &&& (31 : Int32)) = (6 : Int32) := hne 6 (by decide) (by decide)
    have n8 : ¬ w >>> ((12 : Int32) &&& (31 : Int32)) = (8 : Int32) := hne 8 (by decide) (by decide)
    have n9 : ¬ w >>> ((12 : Int32) &&& (31 : Int32)) = (9 : Int32) := hne 9 (by decide) (by decide)
    have h7 : w >>> ((12 : Int32) &&& (31 : Int32)) = (7 : Int32) := hop
    have a1 : ¬ w >>> ((12 : Int32) &&& (31 : Int32)) < (6 : Int32) := by rw [h7]; decide
    have a2 : ¬ (9 : Int32) < w >>> ((12 : Int32) &&& (31 : Int32)) := by rw [h7]; decide
    by_cases z : reg (Int32.toNatClampNeg ((w >>> ((9 : Int32) &&& (31 : Int32))) &&& (7 : Int32))) = (0 : Int32)
    · refine ⟨true, reg, mem, w &&& (63 : Int32), cau, st + 1, ?_, ?_, hr, hm, hn63, hc⟩
      · simp only [if_neg n10, if_neg a1, if_neg a2, if_pos h7, if_neg n6, if_neg n8, if_neg n9, if_neg z_10, if_pos z0, if_true, bs, bI, Bool.not_true, if_pos z]
      · simp only [if_neg n10, if_neg a1, if_neg a2, if_pos h7, if_neg n6, if_neg n8, if_neg n9, if_neg z_10, if_pos z0, if_true, bs, bI, Bool.not_true, if_pos z, hpm reg mem hr, hno reg mem n1 n2 n3 n4 n5]
    · refine ⟨true, reg, mem, (pc + (1 : Int32)) &&& (63 : Int32), cau, st + 1, ?_, ?_, hr, hm, hb1, hc⟩
      · simp only [if_neg n10, if_neg a1, if_neg a2, if_pos h7, if_neg n6, if_neg n8, if_neg n9, if_neg z_10, if_pos z0, if_true, bs, bI, Bool.not_true, if_neg z]
      · simp only [if_neg n10, if_neg a1, if_neg a2, if_pos h7, if_neg n6, if_neg n8, if_neg n9, if_neg z_10, if_pos z0, if_true, bs, bI, Bool.not_true, if_neg z, hpm reg mem hr, hno reg mem n1 n2 n3 n4 n5]
  have n7 : ¬ w >>> ((12 : Int32) &&& (31 : Int32)) = (7 : Int32) := hne 7 (by decide) e7
  by_cases e8 : q = 8
  · subst e8
    have n1 : ¬ w >>> ((12 : Int32) &&& (31 : Int32)) = (1 : Int32) := hne 1 (by decide) (by decide)
    have n2 : ¬ w >>> ((12 : Int32) &&& (31 : Int32)) = (2 : Int32) := hne 2 (by decide) (by decide)
    have n3 : ¬ w >>> ((12 : Int32) &&& (31 : Int32)) = (3 : Int32) := hne 3 (by decide) (by decide)
    have n4 : ¬ w >>> ((12 : Int32) &&& (31 : Int32)) = (4 : Int32) := hne 4 (by decide) (by decide)
    have n5 : ¬ w >>> ((12 : Int32) &&& (31 : Int32)) = (5 : Int32) := hne 5 (by decide) (by decide)
    have n6 : ¬ w >>> ((12 : Int32) &&& (31 : Int32)) = (6 : Int32) := hne 6 (by decide) (by decide)
    have n7 : ¬ w >>> ((12 : Int32) &&& (31 : Int32)) = (7 : Int32) := hne 7 (by decide) (by decide)
    have n9 : ¬ w >>> ((12 : Int32) &&& (31 : Int32)) = (9 : Int32) := hne 9 (by decide) (by decide)
    have h8 : w >>> ((12 : Int32) &&& (31 : Int32)) = (8 : Int32) := hop
    have a1 : ¬ w >>> ((12 : Int32) &&& (31 : Int32)) < (6 : Int32) := by rw [h8]; decide
    have a2 : ¬ (9 : Int32) < w >>> ((12 : Int32) &&& (31 : Int32)) := by rw [h8]; decide
    by_cases z : reg (Int32.toNatClampNeg ((w >>> ((6 : Int32) &&& (31 : Int32))) &&& (7 : Int32))) ≤ reg (Int32.toNatClampNeg ((w >>> ((9 : Int32) &&& (31 : Int32))) &&& (7 : Int32)))
    · refine ⟨true, reg, mem, (pc + (1 : Int32)) &&& (63 : Int32), cau, st + 1, ?_, ?_, hr, hm, hb1, hc⟩
      · simp only [if_neg n10, if_neg a1, if_neg a2, if_pos h8, if_neg n6, if_neg n7, if_neg n9, if_neg z_10, if_pos z0, if_true, bs, bI, Bool.not_true, if_pos z]
      · simp only [if_neg n10, if_neg a1, if_neg a2, if_pos h8, if_neg n6, if_neg n7, if_neg n9, if_neg z_10, if_pos z0, if_true, bs, bI, Bool.not_true, if_pos z, hpm reg mem hr, hno reg mem n1 n2 n3 n4 n5]
    · refine ⟨true, reg, mem, w &&& (63 : Int32), cau, st + 1, ?_, ?_, hr, hm, hn63, hc⟩
      · simp only [if_neg n10, if_neg a1, if_neg a2, if_pos h8, if_neg n6, if_neg n7, if_neg n9, if_neg z_10, if_pos z0, if_true, bs, bI, Bool.not_true, if_neg z]
      · simp only [if_neg n10, if_neg a1, if_neg a2, if_pos h8, if_neg n6, if_neg n7, if_neg n9, if_neg z_10, if_pos z0, if_true, bs, bI, Bool.not_true, if_neg z, hpm reg mem hr, hno reg mem n1 n2 n3 n4 n5]
  have n8 : ¬ w >>> ((12 : Int32) &&& (31 : Int32)) = (8 : Int32) := hne 8 (by decide) e8
  by_cases e9 : q = 9
  · subst e9
    have n1 : ¬ w >>> ((12 : Int32) &&& (31 : Int32)) = (1 : Int32) := hne 1 (by decide) (by decide)
    have n2 : ¬ w >>> ((12 : Int32) &&& (31 : Int32)) = (2 : Int32) := hne 2 (by decide) (by decide)
    have n3 : ¬ w >>> ((12 : Int32) &&& (31 : Int32)) = (3 : Int32) := hne 3 (by decide) (by decide)
    have n4 : ¬ w >>> ((12 : Int32) &&& (31 : Int32)) = (4 : Int32) := hne 4 (by decide) (by decide)
    have n5 : ¬ w >>> ((12 : Int32) &&& (31 : Int32)) = (5 : Int32) := hne 5 (by decide) (by decide)
    have n6 : ¬ w >>> ((12 : Int32) &&& (31 : Int32)) = (6 : Int32) := hne 6 (by decide) (by decide)
    have n7 : ¬ w >>> ((12 : Int32) &&& (31 : Int32)) = (7 : Int32) := hne 7 (by decide) (by decide)
    have n8 : ¬ w >>> ((12 : Int32) &&& (31 : Int32)) = (8 : Int32) := hne 8 (by decide) (by decide)
    have h9 : w >>> ((12 : Int32) &&& (31 : Int32)) = (9 : Int32) := hop
    have a1 : ¬ w >>> ((12 : Int32) &&& (31 : Int32)) < (6 : Int32) := by rw [h9]; decide
    have a2 : ¬ (9 : Int32) < w >>> ((12 : Int32) &&& (31 : Int32)) := by rw [h9]; decide
    have hr2 := lo_upd hr (Int32.toNatClampNeg ((w >>> ((9 : Int32) &&& (31 : Int32))) &&& (7 : Int32))) (lo_mono hb1 (by decide : 64 ≤ 65536))
    refine ⟨true, upd reg (Int32.toNatClampNeg ((w >>> ((9 : Int32) &&& (31 : Int32))) &&& (7 : Int32))) ((pc + (1 : Int32)) &&& (63 : Int32)), mem, reg (Int32.toNatClampNeg ((w >>> ((6 : Int32) &&& (31 : Int32))) &&& (7 : Int32))) &&& (63 : Int32), cau, st + 1, ?_, ?_, hr2, hm, lo_63 _, hc⟩
    · simp only [if_neg n10, if_neg a1, if_neg a2, if_pos h9, if_neg n6, if_neg n7, if_neg n8, if_neg z_10, if_pos z0, if_true, bs, bI, Bool.not_true]
    · simp only [if_neg n10, if_neg a1, if_neg a2, if_pos h9, if_neg n6, if_neg n7, if_neg n8, if_neg z_10, if_pos z0, if_true, bs, bI, Bool.not_true, hpm _ mem hr2, hno _ mem n1 n2 n3 n4 n5, rl64 hrb (by decide)]
  have n9 : ¬ w >>> ((12 : Int32) &&& (31 : Int32)) = (9 : Int32) := hne 9 (by decide) e9
  refine ⟨true, pr, pm, (pc + (1 : Int32)) &&& (63 : Int32), cau, st + 1, ?_, ?_, hpr, hpmm, hb1, hc⟩
  · by_cases a1 : w >>> ((12 : Int32) &&& (31 : Int32)) < (6 : Int32)
    · simp only [if_neg n10, if_pos a1, bs, if_pos z0, if_true, hpp, bI]
    · have a2 : (9 : Int32) < w >>> ((12 : Int32) &&& (31 : Int32)) := by
        rw [hop] at a1 ⊢
        have b1 : ¬ nI q < nI 6 := a1
        rw [nI_ltI (by omega) (by omega)] at b1
        exact (nI_ltI (a := 9) (by omega) (by omega)).mpr (by omega)
      simp only [if_neg n10, if_neg a1, if_pos a2, bs, if_pos z0, if_true, hpp, bI]
  · simp only [if_neg n10, if_neg n6, if_neg n7, if_neg n8, if_neg n9, if_pos z0, if_true, hpm reg mem hr, hpp, bs, bI, Bool.not_true]
/-- a step of a running processor: both sides do the same, or both halt -/
theorem sim_step {reg mem : Nat → Int32} {xpt tk ta : Nat → Int32} {pc cau : Int32} (fre st : Int32) (hr : ∀ k, lo 65536 (reg k)) (hm : ∀ k, lo 65536 (mem k)) (hp : lo 64 pc) (hc : lo 5 cau) (ht : trp xpt tk ta) :
    ∃ b reg' mem' pc' cau' st', fn_P_advance reg mem xpt pc 1 cau st fre = some (bI b, reg', mem', pc', bI b, cau', st', 0) ∧
      fn_M_step reg mem pc 0 cau fre st tk ta = some (bI b, reg', mem', pc', bI (!b), cau', 0, st') ∧ okS reg' mem' pc' cau' := by
  unfold fn_P_advance fn_M_step fn_M_step_J62
  rw [ck_eq (lo_in hp (by decide)), ck_eq (lo_in hp (by decide)), ck_eq (lo_in (lo_7 _) (by decide)), pf_isTrapped, pf_isTrap, pf_isTrap]
  have hw := hm (Int32.toNatClampNeg pc)
  generalize mem (Int32.toNatClampNeg pc) = w at hw ⊢
  have hrb := hr (Int32.toNatClampNeg ((w >>> ((6 : Int32) &&& (31 : Int32))) &&& (7 : Int32)))
  have hpl := lo_63 (reg (Int32.toNatClampNeg ((w >>> ((6 : Int32) &&& (31 : Int32))) &&& (7 : Int32))) + (w &&& (63 : Int32)))
  rw [pf_place2 hrb hw, pf_place hrb w]
  simp only [trp_1 ht hp, trp_2 ht hpl]
  obtain ⟨b, reg', mem', pc', cau', st', g1, g2, g3⟩ := sim_go xpt tk ta st hr hm hp hc hw
  by_cases h1 : fre = (0 : Int32) ∧ ((tk 0 = (1 : Int32) ∧ ta 0 = pc) ∨ (tk 1 = (1 : Int32) ∧ ta 1 = pc))
  · refine ⟨false, reg, mem, pc, 2, st, ?_, ?_, hr, hm, hp, lo_nI (k := 2) (by decide)⟩
    · rw [if_pos (Or.inl h1)]
      rfl
    · rw [if_pos h1.1, if_pos h1.2]
      rfl
  by_cases h2 : (w >>> ((12 : Int32) &&& (31 : Int32))) = (5 : Int32) ∧ ((tk 0 = (2 : Int32) ∧ ta 0 = (reg (Int32.toNatClampNeg ((w >>> ((6 : Int32) &&& (31 : Int32))) &&& (7 : Int32))) + (w &&& (63 : Int32))) &&& (63 : Int32)) ∨ (tk 1 = (2 : Int32) ∧ ta 1 = (reg (Int32.toNatClampNeg ((w >>> ((6 : Int32) &&& (31 : Int32))) &&& (7 : Int32))) + (w &&& (63 : Int32))) &&& (63 : Int32)))
  · refine ⟨false, reg, mem, pc, 2, st, ?_, ?_, hr, hm, hp, lo_nI (k := 2) (by decide)⟩
    · rw [if_pos (Or.inr h2)]
      rfl
    · by_cases hf : fre = (0 : Int32)
      · have h3 : ¬ ((tk 0 = (1 : Int32) ∧ ta 0 = pc) ∨ (tk 1 = (1 : Int32) ∧ ta 1 = pc)) := fun h => h1 ⟨hf, h⟩
        rw [if_pos hf, if_neg h3, if_pos h2.1, if_pos h2.2]
        rfl
      · rw [if_neg hf, if_pos h2.1, if_pos h2.2]
        rfl
  refine ⟨b, reg', mem', pc', cau', st', ?_, ?_, g3⟩
  · rw [if_neg (fun h => h.elim h1 h2)]
    exact g1
  · by_cases hf : fre = (0 : Int32)
    · have h3 : ¬ ((tk 0 = (1 : Int32) ∧ ta 0 = pc) ∨ (tk 1 = (1 : Int32) ∧ ta 1 = pc)) := fun h => h1 ⟨hf, h⟩
      rw [if_pos hf, if_neg h3]
      by_cases h5 : (w >>> ((12 : Int32) &&& (31 : Int32))) = (5 : Int32)
      · rw [if_pos h5, if_neg (fun h => h2 ⟨h5, h⟩)]
        exact g2
      · rw [if_neg h5]
        exact g2
    · rw [if_neg hf]
      by_cases h5 : (w >>> ((12 : Int32) &&& (31 : Int32))) = (5 : Int32)
      · rw [if_pos h5, if_neg (fun h => h2 ⟨h5, h⟩)]
        exact g2
      · rw [if_neg h5]
        exact g2
