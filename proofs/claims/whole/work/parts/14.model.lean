set_option maxHeartbeats 4000000 in
set_option maxRecDepth 100000 in
theorem ct_M_in (l : Launch) (dC : Nat → ClassId) (dI : Nat → Nat → Nat) (sz : Nat) (j0 j1 j2 : Int32) (o : Int32) (h : fn_M_in j0 j1 j2 = some o) : Met l yX4_in wsX4_in ({ frames := 0, cells := 0, slots := 0, locals := 0 }) (va_Pc [.int j0, .int j1, .int j2] (fun U => U.heap.size = sz ∧ va_P (dC, dI) vwCl [] U.heap ∧ va_K (dC, dI) vwCl [] U ∧ va_D (fun _ => True) [])) (va_Qi (fun (r : Int32) (_ : Unit) => some r = some o) (fun (u : Unit) (t : State) => va_P (dC, dI) vwCl [] t.heap ∧ va_D (va_A [] sz) []) (va_A [] sz)) 0 0 (va_A [] sz) := by
  refine Met.ofW (cc := cX4_in) (maxL := 3) (ret := (some .boolean)) (by decide) rfl ?_
  intro p e s m args below meth c s₁ B hml hv
  obtain ⟨rfl, hsz, hP, hK, hD0⟩ := hv
  have hx := B.exec
  have hb := B.bytes
  have hr := B.returns
  have hts := atoms_spec (ws := wsX4_in) B.pre
  have hown : s.vm.findClass RX4 = some m.cls := findClass_of_methodNamed B.named
  have hlocks := B.notSynchronized
  subst hsz
  have hD := hD0.self (sz := s.heap.size)
  generalize hAe : va_A [] s.heap.size = A at hD ⊢
  have hA : ∀ q : Nat, s.heap.size ≤ q → A q := fun q h => by rw [← hAe]; exact Or.inr h
  have hS : va_S A s.heap s.heap [] := va_S.rf
  have hP : va_P (dC, dI) vwCl [] s.heap := hP
  have hl := lv_entry ([.int j0, .int j1, .int j2]) (n := 3) (Nat.le_of_ble_eq_true rfl)
  rw [lg_entry_eq]
  generalize (lg_sl ([.int j0, .int j1, .int j2]) ++ List.replicate (3 - (lg_sl ([.int j0, .int j1, .int j2])).length) Slot.unset).toArray = ls at hl ⊢
  have hl : lv_has ls 3 [(0, .int j0), (1, .int j1), (2, .int j2)] := hl
  unfold fn_M_in at h
  refine lv_iload_n hx hb dX4_in_0 rfl (lv_at hl 0 rfl) ?_
  refine lv_iload_n hx hb dX4_in_1 rfl (lv_at hl 1 rfl) ?_
  refine lv_icmp_lt (tgt := 14) hx hb dX4_in_2 (by decide) (fun hc => ?_) (fun hc => ?_)
  · have h := if_y h hc
    refine lv_iconst (v := (0 : Int32)) hx hb dX4_in_14 (by decide) ?_
    exact W.zret hx hb hr (kb_n (Or.inl rfl)) (fun t ht hW => ⟨⟨(0 : Int32), (), rfl, h, by rw [ht]; exact hP, hD⟩, hS.F ht⟩) hS.2.2 dX4_in_15
  · have h := if_n h hc
    refine lv_iload_n hx hb dX4_in_5 rfl (lv_at hl 0 rfl) ?_
    refine lv_iload_n hx hb dX4_in_6 rfl (lv_at hl 2 rfl) ?_
    refine lv_icmp_gt (tgt := 14) hx hb dX4_in_7 (by decide) (fun hc => ?_) (fun hc => ?_)
    · have h := if_y h hc
      refine lv_iconst (v := (0 : Int32)) hx hb dX4_in_14 (by decide) ?_
      exact W.zret hx hb hr (kb_n (Or.inl rfl)) (fun t ht hW => ⟨⟨(0 : Int32), (), rfl, h, by rw [ht]; exact hP, hD⟩, hS.F ht⟩) hS.2.2 dX4_in_15
    · have h := if_n h hc
      refine lv_iconst (v := (1 : Int32)) hx hb dX4_in_10 (by decide) ?_
      refine lv_goto (tgt := 15) hx hb dX4_in_11 (by decide) ?_
      exact W.zret hx hb hr (kb_n (Or.inr rfl)) (fun t ht hW => ⟨⟨(1 : Int32), (), rfl, h, by rw [ht]; exact hP, hD⟩, hS.F ht⟩) hS.2.2 dX4_in_15
set_option maxHeartbeats 4000000 in
set_option maxRecDepth 100000 in
theorem ct_M_halt (l : Launch) (dC : Nat → ClassId) (dI : Nat → Nat → Nat) (aM amr amm apg atk ata arw : Nat) (kmr kmm kpg ktk kta krw : ClassId) (sz : Nat) (ymr : (Nat → Int32)) (ymm : (Nat → Int32)) (ypc : Int32) (yha : Int32) (yca : Int32) (ysp : Int32) (yfr : Int32) (yst : Int32) (yda : Int32) (yer : Int32) (yad : Int32) (ypg : (Nat → Int32)) (ytk : (Nat → Int32)) (yta : (Nat → Int32)) (yse : Int32) (yin : Int32) (yrw : (Nat → Int32)) (ywd : Int32) (ytm : Int32) (ybg : Int32) (yan : Int32) (ybs : Int32) (yva : Int32) (ynu : Int32) (j1 : Int32) (o : Int32 × Int32) (h : fn_M_halt yha yca j1 = some o) : Met l yX4_halt wsX4_halt ({ frames := 0, cells := 0, slots := 0, locals := 0 }) (va_Pc [.ref aM, .int j1] (fun U => U.heap.size = sz ∧ va_P (dC, dI) vwCl [(aM, .inr (4, [.ref amr, .ref amm, .int ypc, .int yha, .int yca, .int ysp, .int yfr, .int yst, .int yda, .int yer, .int yad, .ref apg, .ref atk, .ref ata, .int yse, .int yin, .ref arw, .int ywd, .int ytm, .int ybg, .int yan, .int ybs, .int yva, .int ynu])), (amr, .inl (kmr, 8, .inl ymr)), (amm, .inl (kmm, 64, .inl ymm)), (apg, .inl (kpg, 4, .inl ypg)), (atk, .inl (ktk, 2, .inl ytk)), (ata, .inl (kta, 2, .inl yta)), (arw, .inl (krw, 22, .inl yrw))] U.heap ∧ va_K (dC, dI) vwCl [(kmr, .int), (kmm, .int), (kpg, .int), (ktk, .int), (kta, .int), (krw, .int)] U ∧ va_D (fun _ => True) [(aM, .inr (4, [.ref amr, .ref amm, .int ypc, .int yha, .int yca, .int ysp, .int yfr, .int yst, .int yda, .int yer, .int yad, .ref apg, .ref atk, .ref ata, .int yse, .int yin, .ref arw, .int ywd, .int ytm, .int ybg, .int yan, .int ybs, .int yva, .int ynu])), (amr, .inl (kmr, 8, .inl ymr)), (amm, .inl (kmm, 64, .inl ymm)), (apg, .inl (kpg, 4, .inl ypg)), (atk, .inl (ktk, 2, .inl ytk)), (ata, .inl (kta, 2, .inl yta)), (arw, .inl (krw, 22, .inl yrw))])) (va_Qv (fun (u : Int32 × Int32) => some u = some o) (fun (u : Int32 × Int32) (t : State) => va_P (dC, dI) vwCl [(aM, .inr (4, [.ref amr, .ref amm, .int ypc, .int u.1, .int u.2, .int ysp, .int yfr, .int yst, .int yda, .int yer, .int yad, .ref apg, .ref atk, .ref ata, .int yse, .int yin, .ref arw, .int ywd, .int ytm, .int ybg, .int yan, .int ybs, .int yva, .int ynu])), (amr, .inl (kmr, 8, .inl ymr)), (amm, .inl (kmm, 64, .inl ymm)), (apg, .inl (kpg, 4, .inl ypg)), (atk, .inl (ktk, 2, .inl ytk)), (ata, .inl (kta, 2, .inl yta)), (arw, .inl (krw, 22, .inl yrw))] t.heap ∧ va_D (va_A [(aM, .inr (4, [.ref amr, .ref amm, .int ypc, .int yha, .int yca, .int ysp, .int yfr, .int yst, .int yda, .int yer, .int yad, .ref apg, .ref atk, .ref ata, .int yse, .int yin, .ref arw, .int ywd, .int ytm, .int ybg, .int yan, .int ybs, .int yva, .int ynu])), (amr, .inl (kmr, 8, .inl ymr)), (amm, .inl (kmm, 64, .inl ymm)), (apg, .inl (kpg, 4, .inl ypg)), (atk, .inl (ktk, 2, .inl ytk)), (ata, .inl (kta, 2, .inl yta)), (arw, .inl (krw, 22, .inl yrw))] sz) [(aM, .inr (4, [.ref amr, .ref amm, .int ypc, .int u.1, .int u.2, .int ysp, .int yfr, .int yst, .int yda, .int yer, .int yad, .ref apg, .ref atk, .ref ata, .int yse, .int yin, .ref arw, .int ywd, .int ytm, .int ybg, .int yan, .int ybs, .int yva, .int ynu])), (amr, .inl (kmr, 8, .inl ymr)), (amm, .inl (kmm, 64, .inl ymm)), (apg, .inl (kpg, 4, .inl ypg)), (atk, .inl (ktk, 2, .inl ytk)), (ata, .inl (kta, 2, .inl yta)), (arw, .inl (krw, 22, .inl yrw))]) (va_A [(aM, .inr (4, [.ref amr, .ref amm, .int ypc, .int yha, .int yca, .int ysp, .int yfr, .int yst, .int yda, .int yer, .int yad, .ref apg, .ref atk, .ref ata, .int yse, .int yin, .ref arw, .int ywd, .int ytm, .int ybg, .int yan, .int ybs, .int yva, .int ynu])), (amr, .inl (kmr, 8, .inl ymr)), (amm, .inl (kmm, 64, .inl ymm)), (apg, .inl (kpg, 4, .inl ypg)), (atk, .inl (ktk, 2, .inl ytk)), (ata, .inl (kta, 2, .inl yta)), (arw, .inl (krw, 22, .inl yrw))] sz)) 0 0 (va_A [(aM, .inr (4, [.ref amr, .ref amm, .int ypc, .int yha, .int yca, .int ysp, .int yfr, .int yst, .int yda, .int yer, .int yad, .ref apg, .ref atk, .ref ata, .int yse, .int yin, .ref arw, .int ywd, .int ytm, .int ybg, .int yan, .int ybs, .int yva, .int ynu])), (amr, .inl (kmr, 8, .inl ymr)), (amm, .inl (kmm, 64, .inl ymm)), (apg, .inl (kpg, 4, .inl ypg)), (atk, .inl (ktk, 2, .inl ytk)), (ata, .inl (kta, 2, .inl yta)), (arw, .inl (krw, 22, .inl yrw))] sz) := by
  refine Met.ofW (cc := cX4_halt) (maxL := 2) (ret := none) (by decide) rfl ?_
  intro p e s m args below meth c s₁ B hml hv
  obtain ⟨rfl, hsz, hP, hK, hD0⟩ := hv
  have hx := B.exec
  have hb := B.bytes
  have hr := B.returns
  have hts := atoms_spec (ws := wsX4_halt) B.pre
  have hown : s.vm.findClass RX4 = some m.cls := findClass_of_methodNamed B.named
  have hlocks := B.notSynchronized
  subst hsz
  have hD := hD0.self (sz := s.heap.size)
  generalize hAe : va_A [(aM, .inr (4, [.ref amr, .ref amm, .int ypc, .int yha, .int yca, .int ysp, .int yfr, .int yst, .int yda, .int yer, .int yad, .ref apg, .ref atk, .ref ata, .int yse, .int yin, .ref arw, .int ywd, .int ytm, .int ybg, .int yan, .int ybs, .int yva, .int ynu])), (amr, .inl (kmr, 8, .inl ymr)), (amm, .inl (kmm, 64, .inl ymm)), (apg, .inl (kpg, 4, .inl ypg)), (atk, .inl (ktk, 2, .inl ytk)), (ata, .inl (kta, 2, .inl yta)), (arw, .inl (krw, 22, .inl yrw))] s.heap.size = A at hD ⊢
  have hA : ∀ q : Nat, s.heap.size ≤ q → A q := fun q h => by rw [← hAe]; exact Or.inr h
  have hS : va_S A s.heap s.heap [] := va_S.rf
  have hP : va_P (dC, dI) vwCl [(aM, .inr (4, [.ref amr, .ref amm, .int ypc, .int yha, .int yca, .int ysp, .int yfr, .int yst, .int yda, .int yer, .int yad, .ref apg, .ref atk, .ref ata, .int yse, .int yin, .ref arw, .int ywd, .int ytm, .int ybg, .int yan, .int ybs, .int yva, .int ynu])), (amr, .inl (kmr, 8, .inl ymr)), (amm, .inl (kmm, 64, .inl ymm)), (apg, .inl (kpg, 4, .inl ypg)), (atk, .inl (ktk, 2, .inl ytk)), (ata, .inl (kta, 2, .inl yta)), (arw, .inl (krw, 22, .inl yrw))] s.heap := hP
  have hf32 := hts (.fieldLink RX4 32 "ProbeBenchModel" "halted" "Z") (by decide +kernel)
  have hf36 := hts (.fieldLink RX4 36 "ProbeBenchModel" "cause" "I") (by decide +kernel)
  have hinX4 : ∀ w ∈ u_ws RX4 TX4 24, w ∈ wsX4_halt := by decide +kernel
  have hl := lv_entry ([.ref aM, .int j1]) (n := 2) (Nat.le_of_ble_eq_true rfl)
  rw [lg_entry_eq]
  generalize (lg_sl ([.ref aM, .int j1]) ++ List.replicate (2 - (lg_sl ([.ref aM, .int j1])).length) Slot.unset).toArray = ls at hl ⊢
  have hl : lv_has ls 2 [(0, .ref aM), (1, .int j1)] := hl
  unfold fn_M_halt at h
  refine lv_aload_n hx hb dX4_halt_0 rfl (lv_at hl 0 rfl) ?_
  refine lv_iconst (v := (1 : Int32)) hx hb dX4_halt_1 (by decide) ?_
  refine va_put (D := (dC, dI)) (ci := 4) (v := .int (1 : Int32)) (ty := .boolean) (C := RX4) (T := TX4) (N := 24) hx hb hts hinX4 tyX4 tyX4_ok nmX4 hown hK hP hD hS 0 rfl rfl 3 (by decide) hf32 (fun _ h9 => h9) rfl (by decide +kernel) (kb_n (Or.inr rfl)) (kb_f (Or.inr rfl)) (Nat.le_of_ble_eq_true rfl) dX4_halt_2 (fun H locs hP hD hS => ?_)
  have hP : va_P (dC, dI) vwCl [(aM, .inr (4, [.ref amr, .ref amm, .int ypc, .int (1 : Int32), .int yca, .int ysp, .int yfr, .int yst, .int yda, .int yer, .int yad, .ref apg, .ref atk, .ref ata, .int yse, .int yin, .ref arw, .int ywd, .int ytm, .int ybg, .int yan, .int ybs, .int yva, .int ynu])), (amr, .inl (kmr, 8, .inl ymr)), (amm, .inl (kmm, 64, .inl ymm)), (apg, .inl (kpg, 4, .inl ypg)), (atk, .inl (ktk, 2, .inl ytk)), (ata, .inl (kta, 2, .inl yta)), (arw, .inl (krw, 22, .inl yrw))] H := hP
  have hD : va_D A [(aM, .inr (4, [.ref amr, .ref amm, .int ypc, .int (1 : Int32), .int yca, .int ysp, .int yfr, .int yst, .int yda, .int yer, .int yad, .ref apg, .ref atk, .ref ata, .int yse, .int yin, .ref arw, .int ywd, .int ytm, .int ybg, .int yan, .int ybs, .int yva, .int ynu])), (amr, .inl (kmr, 8, .inl ymr)), (amm, .inl (kmm, 64, .inl ymm)), (apg, .inl (kpg, 4, .inl ypg)), (atk, .inl (ktk, 2, .inl ytk)), (ata, .inl (kta, 2, .inl yta)), (arw, .inl (krw, 22, .inl yrw))] := hD
  refine lv_aload_n hx hb dX4_halt_5 rfl (lv_at hl 0 rfl) ?_
  refine lv_iload_n hx hb dX4_halt_6 rfl (lv_at hl 1 rfl) ?_
  refine va_put (D := (dC, dI)) (ci := 4) (v := .int j1) (ty := .int) (C := RX4) (T := TX4) (N := 24) hx hb hts hinX4 tyX4 tyX4_ok nmX4 hown hK hP hD hS 0 rfl rfl 4 (by decide) hf36 (fun _ h9 => h9) rfl (by decide +kernel) rfl rfl (Nat.le_of_ble_eq_true rfl) dX4_halt_7 (fun H locs hP hD hS => ?_)
  have hP : va_P (dC, dI) vwCl [(aM, .inr (4, [.ref amr, .ref amm, .int ypc, .int (1 : Int32), .int j1, .int ysp, .int yfr, .int yst, .int yda, .int yer, .int yad, .ref apg, .ref atk, .ref ata, .int yse, .int yin, .ref arw, .int ywd, .int ytm, .int ybg, .int yan, .int ybs, .int yva, .int ynu])), (amr, .inl (kmr, 8, .inl ymr)), (amm, .inl (kmm, 64, .inl ymm)), (apg, .inl (kpg, 4, .inl ypg)), (atk, .inl (ktk, 2, .inl ytk)), (ata, .inl (kta, 2, .inl yta)), (arw, .inl (krw, 22, .inl yrw))] H := hP
  have hD : va_D A [(aM, .inr (4, [.ref amr, .ref amm, .int ypc, .int (1 : Int32), .int j1, .int ysp, .int yfr, .int yst, .int yda, .int yer, .int yad, .ref apg, .ref atk, .ref ata, .int yse, .int yin, .ref arw, .int ywd, .int ytm, .int ybg, .int yan, .int ybs, .int yva, .int ynu])), (amr, .inl (kmr, 8, .inl ymr)), (amm, .inl (kmm, 64, .inl ymm)), (apg, .inl (kpg, 4, .inl ypg)), (atk, .inl (ktk, 2, .inl ytk)), (ata, .inl (kta, 2, .inl yta)), (arw, .inl (krw, 22, .inl yrw))] := hD
  exact W.vret hx hb hr (fun t ht hW => ⟨⟨((1 : Int32), j1), rfl, h, by rw [ht]; exact hP, hD⟩, hS.F ht⟩) hS.2.2 dX4_halt_10
set_option maxHeartbeats 4000000 in
set_option maxRecDepth 100000 in
theorem ct_M_isTrap (l : Launch) (dC : Nat → ClassId) (dI : Nat → Nat → Nat) (aM amr amm apg atk ata arw : Nat) (kmr kmm kpg ktk kta krw : ClassId) (sz : Nat) (ymr : (Nat → Int32)) (ymm : (Nat → Int32)) (ypc : Int32) (yha : Int32) (yca : Int32) (ysp : Int32) (yfr : Int32) (yst : Int32) (yda : Int32) (yer : Int32) (yad : Int32) (ypg : (Nat → Int32)) (ytk : (Nat → Int32)) (yta : (Nat → Int32)) (yse : Int32) (yin : Int32) (yrw : (Nat → Int32)) (ywd : Int32) (ytm : Int32) (ybg : Int32) (yan : Int32) (ybs : Int32) (yva : Int32) (ynu : Int32) (j1 j2 : Int32) (o : Int32) (h : fn_M_isTrap ytk yta j1 j2 = some o) : Met l yX4_isTrap wsX4_isTrap ({ frames := 0, cells := 0, slots := 0, locals := 0 }) (va_Pc [.ref aM, .int j1, .int j2] (fun U => U.heap.size = sz ∧ va_P (dC, dI) vwCl [(aM, .inr (4, [.ref amr, .ref amm, .int ypc, .int yha, .int yca, .int ysp, .int yfr, .int yst, .int yda, .int yer, .int yad, .ref apg, .ref atk, .ref ata, .int yse, .int yin, .ref arw, .int ywd, .int ytm, .int ybg, .int yan, .int ybs, .int yva, .int ynu])), (amr, .inl (kmr, 8, .inl ymr)), (amm, .inl (kmm, 64, .inl ymm)), (apg, .inl (kpg, 4, .inl ypg)), (atk, .inl (ktk, 2, .inl ytk)), (ata, .inl (kta, 2, .inl yta)), (arw, .inl (krw, 22, .inl yrw))] U.heap ∧ va_K (dC, dI) vwCl [(kmr, .int), (kmm, .int), (kpg, .int), (ktk, .int), (kta, .int), (krw, .int)] U ∧ va_D (fun _ => True) [(aM, .inr (4, [.ref amr, .ref amm, .int ypc, .int yha, .int yca, .int ysp, .int yfr, .int yst, .int yda, .int yer, .int yad, .ref apg, .ref atk, .ref ata, .int yse, .int yin, .ref arw, .int ywd, .int ytm, .int ybg, .int yan, .int ybs, .int yva, .int ynu])), (amr, .inl (kmr, 8, .inl ymr)), (amm, .inl (kmm, 64, .inl ymm)), (apg, .inl (kpg, 4, .inl ypg)), (atk, .inl (ktk, 2, .inl ytk)), (ata, .inl (kta, 2, .inl yta)), (arw, .inl (krw, 22, .inl yrw))])) (va_Qi (fun (r : Int32) (_ : Unit) => some r = some o) (fun (u : Unit) (t : State) => va_P (dC, dI) vwCl [(aM, .inr (4, [.ref amr, .ref amm, .int ypc, .int yha, .int yca, .int ysp, .int yfr, .int yst, .int yda, .int yer, .int yad, .ref apg, .ref atk, .ref ata, .int yse, .int yin, .ref arw, .int ywd, .int ytm, .int ybg, .int yan, .int ybs, .int yva, .int ynu])), (amr, .inl (kmr, 8, .inl ymr)), (amm, .inl (kmm, 64, .inl ymm)), (apg, .inl (kpg, 4, .inl ypg)), (atk, .inl (ktk, 2, .inl ytk)), (ata, .inl (kta, 2, .inl yta)), (arw, .inl (krw, 22, .inl yrw))] t.heap ∧ va_D (va_A [(aM, .inr (4, [.ref amr, .ref amm, .int ypc, .int yha, .int yca, .int ysp, .int yfr, .int yst, .int yda, .int yer, .int yad, .ref apg, .ref atk, .ref ata, .int yse, .int yin, .ref arw, .int ywd, .int ytm, .int ybg, .int yan, .int ybs, .int yva, .int ynu])), (amr, .inl (kmr, 8, .inl ymr)), (amm, .inl (kmm, 64, .inl ymm)), (apg, .inl (kpg, 4, .inl ypg)), (atk, .inl (ktk, 2, .inl ytk)), (ata, .inl (kta, 2, .inl yta)), (arw, .inl (krw, 22, .inl yrw))] sz) [(aM, .inr (4, [.ref amr, .ref amm, .int ypc, .int yha, .int yca, .int ysp, .int yfr, .int yst, .int yda, .int yer, .int yad, .ref apg, .ref atk, .ref ata, .int yse, .int yin, .ref arw, .int ywd, .int ytm, .int ybg, .int yan, .int ybs, .int yva, .int ynu])), (amr, .inl (kmr, 8, .inl ymr)), (amm, .inl (kmm, 64, .inl ymm)), (apg, .inl (kpg, 4, .inl ypg)), (atk, .inl (ktk, 2, .inl ytk)), (ata, .inl (kta, 2, .inl yta)), (arw, .inl (krw, 22, .inl yrw))]) (va_A [(aM, .inr (4, [.ref amr, .ref amm, .int ypc, .int yha, .int yca, .int ysp, .int yfr, .int yst, .int yda, .int yer, .int yad, .ref apg, .ref atk, .ref ata, .int yse, .int yin, .ref arw, .int ywd, .int ytm, .int ybg, .int yan, .int ybs, .int yva, .int ynu])), (amr, .inl (kmr, 8, .inl ymr)), (amm, .inl (kmm, 64, .inl ymm)), (apg, .inl (kpg, 4, .inl ypg)), (atk, .inl (ktk, 2, .inl ytk)), (ata, .inl (kta, 2, .inl yta)), (arw, .inl (krw, 22, .inl yrw))] sz)) 0 0 (va_A [(aM, .inr (4, [.ref amr, .ref amm, .int ypc, .int yha, .int yca, .int ysp, .int yfr, .int yst, .int yda, .int yer, .int yad, .ref apg, .ref atk, .ref ata, .int yse, .int yin, .ref arw, .int ywd, .int ytm, .int ybg, .int yan, .int ybs, .int yva, .int ynu])), (amr, .inl (kmr, 8, .inl ymr)), (amm, .inl (kmm, 64, .inl ymm)), (apg, .inl (kpg, 4, .inl ypg)), (atk, .inl (ktk, 2, .inl ytk)), (ata, .inl (kta, 2, .inl yta)), (arw, .inl (krw, 22, .inl yrw))] sz) := by
  refine Met.ofW (cc := cX4_isTrap) (maxL := 5) (ret := (some .boolean)) (by decide) rfl ?_
  intro p e s m args below meth c s₁ B hml hv
  obtain ⟨rfl, hsz, hP, hK, hD0⟩ := hv
  have hx := B.exec
  have hb := B.bytes
  have hr := B.returns
  have hts := atoms_spec (ws := wsX4_isTrap) B.pre
  have hown : s.vm.findClass RX4 = some m.cls := findClass_of_methodNamed B.named
  have hlocks := B.notSynchronized
  subst hsz
  have hD := hD0.self (sz := s.heap.size)
  generalize hAe : va_A [(aM, .inr (4, [.ref amr, .ref amm, .int ypc, .int yha, .int yca, .int ysp, .int yfr, .int yst, .int yda, .int yer, .int yad, .ref apg, .ref atk, .ref ata, .int yse, .int yin, .ref arw, .int ywd, .int ytm, .int ybg, .int yan, .int ybs, .int yva, .int ynu])), (amr, .inl (kmr, 8, .inl ymr)), (amm, .inl (kmm, 64, .inl ymm)), (apg, .inl (kpg, 4, .inl ypg)), (atk, .inl (ktk, 2, .inl ytk)), (ata, .inl (kta, 2, .inl yta)), (arw, .inl (krw, 22, .inl yrw))] s.heap.size = A at hD ⊢
  have hA : ∀ q : Nat, s.heap.size ≤ q → A q := fun q h => by rw [← hAe]; exact Or.inr h
  have hS : va_S A s.heap s.heap [] := va_S.rf
  have hP : va_P (dC, dI) vwCl [(aM, .inr (4, [.ref amr, .ref amm, .int ypc, .int yha, .int yca, .int ysp, .int yfr, .int yst, .int yda, .int yer, .int yad, .ref apg, .ref atk, .ref ata, .int yse, .int yin, .ref arw, .int ywd, .int ytm, .int ybg, .int yan, .int ybs, .int yva, .int ynu])), (amr, .inl (kmr, 8, .inl ymr)), (amm, .inl (kmm, 64, .inl ymm)), (apg, .inl (kpg, 4, .inl ypg)), (atk, .inl (ktk, 2, .inl ytk)), (ata, .inl (kta, 2, .inl yta)), (arw, .inl (krw, 22, .inl yrw))] s.heap := hP
  have hf19 := hts (.fieldLink RX4 19 "ProbeBenchModel" "trapKind" "[I") (by decide +kernel)
  have hf22 := hts (.fieldLink RX4 22 "ProbeBenchModel" "trapAt" "[I") (by decide +kernel)
  have hinX4 : ∀ w ∈ u_ws RX4 TX4 24, w ∈ wsX4_isTrap := by decide +kernel
  have k_5 : ∀ (n : Nat), ∀ (H : Heap) (locs : List Loc) (ls : Array Slot) (z1 : Int32) (z2 : Int32) (z3 : Int32) (z4 : Int32), va_P (dC, dI) vwCl [(aM, .inr (4, [.ref amr, .ref amm, .int ypc, .int yha, .int yca, .int ysp, .int yfr, .int yst, .int yda, .int yer, .int yad, .ref apg, .ref atk, .ref ata, .int yse, .int yin, .ref arw, .int ywd, .int ytm, .int ybg, .int yan, .int ybs, .int yva, .int ynu])), (amr, .inl (kmr, 8, .inl ymr)), (amm, .inl (kmm, 64, .inl ymm)), (apg, .inl (kpg, 4, .inl ypg)), (atk, .inl (ktk, 2, .inl ytk)), (ata, .inl (kta, 2, .inl yta)), (arw, .inl (krw, 22, .inl yrw))] H → va_D A [(aM, .inr (4, [.ref amr, .ref amm, .int ypc, .int yha, .int yca, .int ysp, .int yfr, .int yst, .int yda, .int yer, .int yad, .ref apg, .ref atk, .ref ata, .int yse, .int yin, .ref arw, .int ywd, .int ytm, .int ybg, .int yan, .int ybs, .int yva, .int ynu])), (amr, .inl (kmr, 8, .inl ymr)), (amm, .inl (kmm, 64, .inl ymm)), (apg, .inl (kpg, 4, .inl ypg)), (atk, .inl (ktk, 2, .inl ytk)), (ata, .inl (kta, 2, .inl yta)), (arw, .inl (krw, 22, .inl yrw))] → va_S A s.heap H locs → lv_has ls 5 [(0, .ref aM), (1, .int z1), (2, .int z2), (3, .int z3), (4, .int z4)] → fn_M_isTrap_L5 n ytk yta z1 z2 z3 z4 = some o → W p l e (headSpec wsX4_isTrap ({ frames := 0, cells := 0, slots := 0, locals := 0 })).room s m ([.ref aM, .int j1, .int j2] : List Value).toArray below meth c H locs 0 0 (MQ below (va_Qi (fun (r : Int32) (_ : Unit) => some r = some o) (fun (u : Unit) (t : State) => va_P (dC, dI) vwCl [(aM, .inr (4, [.ref amr, .ref amm, .int ypc, .int yha, .int yca, .int ysp, .int yfr, .int yst, .int yda, .int yer, .int yad, .ref apg, .ref atk, .ref ata, .int yse, .int yin, .ref arw, .int ywd, .int ytm, .int ybg, .int yan, .int ybs, .int yva, .int ynu])), (amr, .inl (kmr, 8, .inl ymr)), (amm, .inl (kmm, 64, .inl ymm)), (apg, .inl (kpg, 4, .inl ypg)), (atk, .inl (ktk, 2, .inl ytk)), (ata, .inl (kta, 2, .inl yta)), (arw, .inl (krw, 22, .inl yrw))] t.heap ∧ va_D A [(aM, .inr (4, [.ref amr, .ref amm, .int ypc, .int yha, .int yca, .int ysp, .int yfr, .int yst, .int yda, .int yer, .int yad, .ref apg, .ref atk, .ref ata, .int yse, .int yin, .ref arw, .int ywd, .int ytm, .int ybg, .int yan, .int ybs, .int yva, .int ynu])), (amr, .inl (kmr, 8, .inl ymr)), (amm, .inl (kmm, 64, .inl ymm)), (apg, .inl (kpg, 4, .inl ypg)), (atk, .inl (ktk, 2, .inl ytk)), (ata, .inl (kta, 2, .inl yta)), (arw, .inl (krw, 22, .inl yrw))]) A) ([.ref aM, .int j1, .int j2] : List Value).toArray s 0 0 A) (F0 m 5 ls []) := by
    intro n
    induction n with
    | zero =>
      intro H locs ls z1 z2 z3 z4 hP hD hS hl h
      exact (no_ne h).elim
    | succ n ih =>
      intro H locs ls z1 z2 z3 z4 hP hD hS hl h
      have h : fn_M_isTrap_B5 (fn_M_isTrap_L5 n) ytk yta z1 z2 z3 z4 = some o := h
      unfold fn_M_isTrap_B5 at h
      refine lv_iload hx hb dX4_isTrap_5 (lv_at hl 4 rfl) ?_
      refine lv_iconst (v := (2 : Int32)) hx hb dX4_isTrap_7 (by decide) ?_
      refine lv_icmp_ge (tgt := 49) hx hb dX4_isTrap_8 (by decide) (fun hc => ?_) (fun hc => ?_)
      · have h := if_y h hc
        refine lv_iload_n hx hb dX4_isTrap_49 rfl (lv_at hl 3 rfl) ?_
        obtain ⟨hz, h⟩ := ckb_in h
        exact W.zret hx hb hr (kb_n hz) (fun t ht hW => ⟨⟨z3, (), rfl, h, by rw [ht]; exact hP, hD⟩, hS.F ht⟩) hS.2.2 dX4_isTrap_50
      · have h := if_n h hc
        refine lv_iload_n hx hb dX4_isTrap_11 rfl (lv_at hl 3 rfl) ?_
        refine lv_if_ne (tgt := 37) hx hb dX4_isTrap_12 (by decide) (fun hc => ?_) (fun hc => ?_)
        · have h := if_n h hc
          refine lv_iconst (v := (1 : Int32)) hx hb dX4_isTrap_37 (by decide) ?_
          refine lv_goto (tgt := 42) hx hb dX4_isTrap_38 (by decide) ?_
          refine lv_istore_n hx hb dX4_isTrap_42 rfl hl (by decide) rfl (fun ls hl => ?_)
          have hl : lv_has ls 5 [(3, .int (1 : Int32)), (0, .ref aM), (1, .int z1), (2, .int z2), (4, .int z4)] := hl
          refine lv_iinc (k := 4) (v := (z4 + (1 : Int32))) hx hb dX4_isTrap_43 hl rfl (ik_p1 _) (by decide) rfl (fun ls hl => ?_)
          have hl : lv_has ls 5 [(4, .int (z4 + (1 : Int32))), (3, .int (1 : Int32)), (0, .ref aM), (1, .int z1), (2, .int z2)] := hl
          refine lv_goto (tgt := 5) hx hb dX4_isTrap_46 (by decide) ?_
          exact ih _ _ _ _ _ _ _ hP hD hS (lv_sub hl [2, 3, 4, 1, 0] rfl) h
        · have h := if_y h hc
          refine lv_aload_n hx hb dX4_isTrap_15 rfl (lv_at hl 0 rfl) ?_
          refine va_get (D := (dC, dI)) (ci := 4) (v := .ref atk) (C := RX4) (T := TX4) (N := 24) hx hb hts hinX4 hown hK hP 0 rfl rfl 12 (by decide) hf19 (fun _ h9 => h9) rfl dX4_isTrap_16 ?_
          refine lv_iload hx hb dX4_isTrap_19 (lv_at hl 4 rfl) ?_
          obtain ⟨hi, h⟩ := ck_in h
          refine va_iald hx hb hK hP 4 3 rfl rfl hi dX4_isTrap_21 ?_
          refine lv_iload_n hx hb dX4_isTrap_22 rfl (lv_at hl 1 rfl) ?_
          refine lv_icmp_ne (tgt := 41) hx hb dX4_isTrap_23 (by decide) (fun hc => ?_) (fun hc => ?_)
          · have h := if_n h hc
            refine lv_iconst (v := (0 : Int32)) hx hb dX4_isTrap_41 (by decide) ?_
            refine lv_istore_n hx hb dX4_isTrap_42 rfl hl (by decide) rfl (fun ls hl => ?_)
            have hl : lv_has ls 5 [(3, .int (0 : Int32)), (0, .ref aM), (1, .int z1), (2, .int z2), (4, .int z4)] := hl
            refine lv_iinc (k := 4) (v := (z4 + (1 : Int32))) hx hb dX4_isTrap_43 hl rfl (ik_p1 _) (by decide) rfl (fun ls hl => ?_)
            have hl : lv_has ls 5 [(4, .int (z4 + (1 : Int32))), (3, .int (0 : Int32)), (0, .ref aM), (1, .int z1), (2, .int z2)] := hl
            refine lv_goto (tgt := 5) hx hb dX4_isTrap_46 (by decide) ?_
            exact ih _ _ _ _ _ _ _ hP hD hS (lv_sub hl [2, 3, 4, 1, 0] rfl) h
          · have h := if_y h hc
            refine lv_aload_n hx hb dX4_isTrap_26 rfl (lv_at hl 0 rfl) ?_
            refine va_get (D := (dC, dI)) (ci := 4) (v := .ref ata) (C := RX4) (T := TX4) (N := 24) hx hb hts hinX4 hown hK hP 0 rfl rfl 13 (by decide) hf22 (fun _ h9 => h9) rfl dX4_isTrap_27 ?_
            refine lv_iload hx hb dX4_isTrap_30 (lv_at hl 4 rfl) ?_
            obtain ⟨hi, h⟩ := ck_in h
            refine va_iald hx hb hK hP 5 4 rfl rfl hi dX4_isTrap_32 ?_
            refine lv_iload_n hx hb dX4_isTrap_33 rfl (lv_at hl 2 rfl) ?_
            refine lv_icmp_ne (tgt := 41) hx hb dX4_isTrap_34 (by decide) (fun hc => ?_) (fun hc => ?_)
            · have h := if_n h hc
              refine lv_iconst (v := (0 : Int32)) hx hb dX4_isTrap_41 (by decide) ?_
              refine lv_istore_n hx hb dX4_isTrap_42 rfl hl (by decide) rfl (fun ls hl => ?_)
              have hl : lv_has ls 5 [(3, .int (0 : Int32)), (0, .ref aM), (1, .int z1), (2, .int z2), (4, .int z4)] := hl
              refine lv_iinc (k := 4) (v := (z4 + (1 : Int32))) hx hb dX4_isTrap_43 hl rfl (ik_p1 _) (by decide) rfl (fun ls hl => ?_)
              have hl : lv_has ls 5 [(4, .int (z4 + (1 : Int32))), (3, .int (0 : Int32)), (0, .ref aM), (1, .int z1), (2, .int z2)] := hl
              refine lv_goto (tgt := 5) hx hb dX4_isTrap_46 (by decide) ?_
              exact ih _ _ _ _ _ _ _ hP hD hS (lv_sub hl [2, 3, 4, 1, 0] rfl) h
            · have h := if_y h hc
              refine lv_iconst (v := (1 : Int32)) hx hb dX4_isTrap_37 (by decide) ?_
              refine lv_goto (tgt := 42) hx hb dX4_isTrap_38 (by decide) ?_
              refine lv_istore_n hx hb dX4_isTrap_42 rfl hl (by decide) rfl (fun ls hl => ?_)
              have hl : lv_has ls 5 [(3, .int (1 : Int32)), (0, .ref aM), (1, .int z1), (2, .int z2), (4, .int z4)] := hl
              refine lv_iinc (k := 4) (v := (z4 + (1 : Int32))) hx hb dX4_isTrap_43 hl rfl (ik_p1 _) (by decide) rfl (fun ls hl => ?_)
              have hl : lv_has ls 5 [(4, .int (z4 + (1 : Int32))), (3, .int (1 : Int32)), (0, .ref aM), (1, .int z1), (2, .int z2)] := hl
              refine lv_goto (tgt := 5) hx hb dX4_isTrap_46 (by decide) ?_
              exact ih _ _ _ _ _ _ _ hP hD hS (lv_sub hl [2, 3, 4, 1, 0] rfl) h
  have hl := lv_entry ([.ref aM, .int j1, .int j2]) (n := 5) (Nat.le_of_ble_eq_true rfl)
  rw [lg_entry_eq]
  generalize (lg_sl ([.ref aM, .int j1, .int j2]) ++ List.replicate (5 - (lg_sl ([.ref aM, .int j1, .int j2])).length) Slot.unset).toArray = ls at hl ⊢
  have hl : lv_has ls 5 [(0, .ref aM), (1, .int j1), (2, .int j2)] := hl
  unfold fn_M_isTrap at h
  refine lv_iconst (v := (0 : Int32)) hx hb dX4_isTrap_0 (by decide) ?_
  refine lv_istore_n hx hb dX4_isTrap_1 rfl hl (by decide) rfl (fun ls hl => ?_)
  have hl : lv_has ls 5 [(3, .int (0 : Int32)), (0, .ref aM), (1, .int j1), (2, .int j2)] := hl
  refine lv_iconst (v := (0 : Int32)) hx hb dX4_isTrap_2 (by decide) ?_
  refine lv_istore hx hb dX4_isTrap_3 hl (by decide) rfl (fun ls hl => ?_)
  have hl : lv_has ls 5 [(4, .int (0 : Int32)), (3, .int (0 : Int32)), (0, .ref aM), (1, .int j1), (2, .int j2)] := hl
  exact k_5 64 _ _ _ _ _ _ _ hP hD hS (lv_sub hl [2, 3, 4, 1, 0] rfl) h
set_option maxHeartbeats 4000000 in
set_option maxRecDepth 100000 in
theorem ct_M_work (l : Launch) (dC : Nat → ClassId) (dI : Nat → Nat → Nat) (aM amr amm apg atk ata arw : Nat) (kmr kmm kpg ktk kta krw : ClassId) (sz : Nat) (ymr : (Nat → Int32)) (ymm : (Nat → Int32)) (ypc : Int32) (yha : Int32) (yca : Int32) (ysp : Int32) (yfr : Int32) (yst : Int32) (yda : Int32) (yer : Int32) (yad : Int32) (ypg : (Nat → Int32)) (ytk : (Nat → Int32)) (yta : (Nat → Int32)) (yse : Int32) (yin : Int32) (yrw : (Nat → Int32)) (ywd : Int32) (ytm : Int32) (ybg : Int32) (yan : Int32) (ybs : Int32) (yva : Int32) (ynu : Int32) (j1 : Int32) (o : (Nat → Int32) × (Nat → Int32)) (h : fn_M_work ymr ymm j1 = some o) : Met l yX4_work wsX4_work ({ frames := 0, cells := 0, slots := 0, locals := 0 }) (va_Pc [.ref aM, .int j1] (fun U => U.heap.size = sz ∧ va_P (dC, dI) vwCl [(aM, .inr (4, [.ref amr, .ref amm, .int ypc, .int yha, .int yca, .int ysp, .int yfr, .int yst, .int yda, .int yer, .int yad, .ref apg, .ref atk, .ref ata, .int yse, .int yin, .ref arw, .int ywd, .int ytm, .int ybg, .int yan, .int ybs, .int yva, .int ynu])), (amr, .inl (kmr, 8, .inl ymr)), (amm, .inl (kmm, 64, .inl ymm)), (apg, .inl (kpg, 4, .inl ypg)), (atk, .inl (ktk, 2, .inl ytk)), (ata, .inl (kta, 2, .inl yta)), (arw, .inl (krw, 22, .inl yrw))] U.heap ∧ va_K (dC, dI) vwCl [(kmr, .int), (kmm, .int), (kpg, .int), (ktk, .int), (kta, .int), (krw, .int)] U ∧ va_D (fun _ => True) [(aM, .inr (4, [.ref amr, .ref amm, .int ypc, .int yha, .int yca, .int ysp, .int yfr, .int yst, .int yda, .int yer, .int yad, .ref apg, .ref atk, .ref ata, .int yse, .int yin, .ref arw, .int ywd, .int ytm, .int ybg, .int yan, .int ybs, .int yva, .int ynu])), (amr, .inl (kmr, 8, .inl ymr)), (amm, .inl (kmm, 64, .inl ymm)), (apg, .inl (kpg, 4, .inl ypg)), (atk, .inl (ktk, 2, .inl ytk)), (ata, .inl (kta, 2, .inl yta)), (arw, .inl (krw, 22, .inl yrw))])) (va_Qv (fun (u : (Nat → Int32) × (Nat → Int32)) => some u = some o) (fun (u : (Nat → Int32) × (Nat → Int32)) (t : State) => va_P (dC, dI) vwCl [(aM, .inr (4, [.ref amr, .ref amm, .int ypc, .int yha, .int yca, .int ysp, .int yfr, .int yst, .int yda, .int yer, .int yad, .ref apg, .ref atk, .ref ata, .int yse, .int yin, .ref arw, .int ywd, .int ytm, .int ybg, .int yan, .int ybs, .int yva, .int ynu])), (amr, .inl (kmr, 8, .inl u.1)), (amm, .inl (kmm, 64, .inl u.2)), (apg, .inl (kpg, 4, .inl ypg)), (atk, .inl (ktk, 2, .inl ytk)), (ata, .inl (kta, 2, .inl yta)), (arw, .inl (krw, 22, .inl yrw))] t.heap ∧ va_D (va_A [(aM, .inr (4, [.ref amr, .ref amm, .int ypc, .int yha, .int yca, .int ysp, .int yfr, .int yst, .int yda, .int yer, .int yad, .ref apg, .ref atk, .ref ata, .int yse, .int yin, .ref arw, .int ywd, .int ytm, .int ybg, .int yan, .int ybs, .int yva, .int ynu])), (amr, .inl (kmr, 8, .inl ymr)), (amm, .inl (kmm, 64, .inl ymm)), (apg, .inl (kpg, 4, .inl ypg)), (atk, .inl (ktk, 2, .inl ytk)), (ata, .inl (kta, 2, .inl yta)), (arw, .inl (krw, 22, .inl yrw))] sz) [(aM, .inr (4, [.ref amr, .ref amm, .int ypc, .int yha, .int yca, .int ysp, .int yfr, .int yst, .int yda, .int yer, .int yad, .ref apg, .ref atk, .ref ata, .int yse, .int yin, .ref arw, .int ywd, .int ytm, .int ybg, .int yan, .int ybs, .int yva, .int ynu])), (amr, .inl (kmr, 8, .inl u.1)), (amm, .inl (kmm, 64, .inl u.2)), (apg, .inl (kpg, 4, .inl ypg)), (atk, .inl (ktk, 2, .inl ytk)), (ata, .inl (kta, 2, .inl yta)), (arw, .inl (krw, 22, .inl yrw))]) (va_A [(aM, .inr (4, [.ref amr, .ref amm, .int ypc, .int yha, .int yca, .int ysp, .int yfr, .int yst, .int yda, .int yer, .int yad, .ref apg, .ref atk, .ref ata, .int yse, .int yin, .ref arw, .int ywd, .int ytm, .int ybg, .int yan, .int ybs, .int yva, .int ynu])), (amr, .inl (kmr, 8, .inl ymr)), (amm, .inl (kmm, 64, .inl ymm)), (apg, .inl (kpg, 4, .inl ypg)), (atk, .inl (ktk, 2, .inl ytk)), (ata, .inl (kta, 2, .inl yta)), (arw, .inl (krw, 22, .inl yrw))] sz)) 0 0 (va_A [(aM, .inr (4, [.ref amr, .ref amm, .int ypc, .int yha, .int yca, .int ysp, .int yfr, .int yst, .int yda, .int yer, .int yad, .ref apg, .ref atk, .ref ata, .int yse, .int yin, .ref arw, .int ywd, .int ytm, .int ybg, .int yan, .int ybs, .int yva, .int ynu])), (amr, .inl (kmr, 8, .inl ymr)), (amm, .inl (kmm, 64, .inl ymm)), (apg, .inl (kpg, 4, .inl ypg)), (atk, .inl (ktk, 2, .inl ytk)), (ata, .inl (kta, 2, .inl yta)), (arw, .inl (krw, 22, .inl yrw))] sz) := by
  refine Met.ofW (cc := cX4_work) (maxL := 6) (ret := none) (by decide) rfl ?_
  intro p e s m args below meth c s₁ B hml hv
  obtain ⟨rfl, hsz, hP, hK, hD0⟩ := hv
  have hx := B.exec
  have hb := B.bytes
  have hr := B.returns
  have hts := atoms_spec (ws := wsX4_work) B.pre
  have hown : s.vm.findClass RX4 = some m.cls := findClass_of_methodNamed B.named
  have hlocks := B.notSynchronized
  subst hsz
  have hD := hD0.self (sz := s.heap.size)
  generalize hAe : va_A [(aM, .inr (4, [.ref amr, .ref amm, .int ypc, .int yha, .int yca, .int ysp, .int yfr, .int yst, .int yda, .int yer, .int yad, .ref apg, .ref atk, .ref ata, .int yse, .int yin, .ref arw, .int ywd, .int ytm, .int ybg, .int yan, .int ybs, .int yva, .int ynu])), (amr, .inl (kmr, 8, .inl ymr)), (amm, .inl (kmm, 64, .inl ymm)), (apg, .inl (kpg, 4, .inl ypg)), (atk, .inl (ktk, 2, .inl ytk)), (ata, .inl (kta, 2, .inl yta)), (arw, .inl (krw, 22, .inl yrw))] s.heap.size = A at hD ⊢
  have hA : ∀ q : Nat, s.heap.size ≤ q → A q := fun q h => by rw [← hAe]; exact Or.inr h
  have hS : va_S A s.heap s.heap [] := va_S.rf
  have hP : va_P (dC, dI) vwCl [(aM, .inr (4, [.ref amr, .ref amm, .int ypc, .int yha, .int yca, .int ysp, .int yfr, .int yst, .int yda, .int yer, .int yad, .ref apg, .ref atk, .ref ata, .int yse, .int yin, .ref arw, .int ywd, .int ytm, .int ybg, .int yan, .int ybs, .int yva, .int ynu])), (amr, .inl (kmr, 8, .inl ymr)), (amm, .inl (kmm, 64, .inl ymm)), (apg, .inl (kpg, 4, .inl ypg)), (atk, .inl (ktk, 2, .inl ytk)), (ata, .inl (kta, 2, .inl yta)), (arw, .inl (krw, 22, .inl yrw))] s.heap := hP
  have hc39 := hts (.constant RX4 39 (65536 : Int32)) (by decide +kernel)
  have hf13 := hts (.fieldLink RX4 13 "ProbeBenchModel" "memory" "[I") (by decide +kernel)
  have hf7 := hts (.fieldLink RX4 7 "ProbeBenchModel" "register" "[I") (by decide +kernel)
  have hinX4 : ∀ w ∈ u_ws RX4 TX4 24, w ∈ wsX4_work := by decide +kernel
  have hl := lv_entry ([.ref aM, .int j1]) (n := 6) (Nat.le_of_ble_eq_true rfl)
  rw [lg_entry_eq]
  generalize (lg_sl ([.ref aM, .int j1]) ++ List.replicate (6 - (lg_sl ([.ref aM, .int j1])).length) Slot.unset).toArray = ls at hl ⊢
  have hl : lv_has ls 6 [(0, .ref aM), (1, .int j1)] := hl
  unfold fn_M_work at h
  refine lv_iload_n hx hb dX4_work_0 rfl (lv_at hl 1 rfl) ?_
  refine lv_bipush (v := (9 : Int32)) hx hb dX4_work_1 (by decide) ?_
  refine lv_ishr hx hb dX4_work_3 ?_
  refine lv_bipush (v := (7 : Int32)) hx hb dX4_work_4 (by decide) ?_
  refine lv_iand hx hb dX4_work_6 ?_
  refine lv_istore_n hx hb dX4_work_7 rfl hl (by decide) rfl (fun ls hl => ?_)
  have hl : lv_has ls 6 [(2, .int ((j1 >>> ((9 : Int32) &&& (31 : Int32))) &&& (7 : Int32))), (0, .ref aM), (1, .int j1)] := hl
  refine lv_aload_n hx hb dX4_work_8 rfl (lv_at hl 1 rfl) ?_
  refine va_get (D := (dC, dI)) (ci := 4) (v := .ref amr) (C := RX4) (T := TX4) (N := 24) hx hb hts hinX4 hown hK hP 0 rfl rfl 0 (by decide) hf7 (fun _ h9 => h9) rfl dX4_work_9 ?_
  refine lv_iload_n hx hb dX4_work_12 rfl (lv_at hl 2 rfl) ?_
  refine lv_bipush (v := (6 : Int32)) hx hb dX4_work_13 (by decide) ?_
  refine lv_ishr hx hb dX4_work_15 ?_
  refine lv_bipush (v := (7 : Int32)) hx hb dX4_work_16 (by decide) ?_
  refine lv_iand hx hb dX4_work_18 ?_
  obtain ⟨hi, h⟩ := ck_in h
  refine va_iald hx hb hK hP 1 0 rfl rfl hi dX4_work_19 ?_
  refine lv_istore_n hx hb dX4_work_20 rfl hl (by decide) rfl (fun ls hl => ?_)
  have hl : lv_has ls 6 [(3, .int (ymr (Int32.toNatClampNeg ((j1 >>> ((6 : Int32) &&& (31 : Int32))) &&& (7 : Int32))))), (2, .int ((j1 >>> ((9 : Int32) &&& (31 : Int32))) &&& (7 : Int32))), (0, .ref aM), (1, .int j1)] := hl
  refine lv_iload_n hx hb dX4_work_21 rfl (lv_at hl 3 rfl) ?_
  refine lv_bipush (v := (63 : Int32)) hx hb dX4_work_22 (by decide) ?_
  refine lv_iand hx hb dX4_work_24 ?_
  refine lv_istore hx hb dX4_work_25 hl (by decide) rfl (fun ls hl => ?_)
  have hl : lv_has ls 6 [(4, .int (j1 &&& (63 : Int32))), (3, .int (ymr (Int32.toNatClampNeg ((j1 >>> ((6 : Int32) &&& (31 : Int32))) &&& (7 : Int32))))), (2, .int ((j1 >>> ((9 : Int32) &&& (31 : Int32))) &&& (7 : Int32))), (0, .ref aM), (1, .int j1)] := hl
  refine lv_iload_n hx hb dX4_work_27 rfl (lv_at hl 1 rfl) ?_
  refine lv_iload hx hb dX4_work_28 (lv_at hl 0 rfl) ?_
  refine lv_iadd hx hb dX4_work_30 ?_
  refine lv_bipush (v := (64 : Int32)) hx hb dX4_work_31 (by decide) ?_
  refine lv_irem hx hb dX4_work_33 (by decide) ?_
  refine lv_istore hx hb dX4_work_34 hl (by decide) rfl (fun ls hl => ?_)
  have hl : lv_has ls 6 [(5, .int (((ymr (Int32.toNatClampNeg ((j1 >>> ((6 : Int32) &&& (31 : Int32))) &&& (7 : Int32)))) + (j1 &&& (63 : Int32))) - ((ymr (Int32.toNatClampNeg ((j1 >>> ((6 : Int32) &&& (31 : Int32))) &&& (7 : Int32)))) + (j1 &&& (63 : Int32))) / (64 : Int32) * (64 : Int32))), (4, .int (j1 &&& (63 : Int32))), (3, .int (ymr (Int32.toNatClampNeg ((j1 >>> ((6 : Int32) &&& (31 : Int32))) &&& (7 : Int32))))), (2, .int ((j1 >>> ((9 : Int32) &&& (31 : Int32))) &&& (7 : Int32))), (0, .ref aM), (1, .int j1)] := hl
  refine lv_iload_n hx hb dX4_work_36 rfl (lv_at hl 5 rfl) ?_
  refine lv_bipush (v := (12 : Int32)) hx hb dX4_work_37 (by decide) ?_
  refine lv_ishr hx hb dX4_work_39 ?_
  by_cases hc1 : (j1 >>> ((12 : Int32) &&& (31 : Int32))) = (1 : Int32)
  · have h := if_y h hc1
    refine lv_tableIn (tgt := 76) (off := 36) hx hb dX4_work_40 (by rw [hc1]; decide) (by rw [hc1]; decide) (by rw [hc1]; rfl) (by decide) ?_
    refine lv_aload_n hx hb dX4_work_76 rfl (lv_at hl 4 rfl) ?_
    refine va_get (D := (dC, dI)) (ci := 4) (v := .ref amr) (C := RX4) (T := TX4) (N := 24) hx hb hts hinX4 hown hK hP 0 rfl rfl 0 (by decide) hf7 (fun _ h9 => h9) rfl dX4_work_77 ?_
    refine lv_iload_n hx hb dX4_work_80 rfl (lv_at hl 3 rfl) ?_
    refine lv_iload hx hb dX4_work_81 (lv_at hl 1 rfl) ?_
    obtain ⟨hi, h⟩ := ck_in h
    refine va_iast hx hb hK hP hD hS 1 0 rfl rfl hi dX4_work_83 (fun H locs hP hD hS => ?_)
    have hP : va_P (dC, dI) vwCl [(aM, .inr (4, [.ref amr, .ref amm, .int ypc, .int yha, .int yca, .int ysp, .int yfr, .int yst, .int yda, .int yer, .int yad, .ref apg, .ref atk, .ref ata, .int yse, .int yin, .ref arw, .int ywd, .int ytm, .int ybg, .int yan, .int ybs, .int yva, .int ynu])), (amr, .inl (kmr, 8, .inl (upd ymr (Int32.toNatClampNeg ((j1 >>> ((9 : Int32) &&& (31 : Int32))) &&& (7 : Int32))) (j1 &&& (63 : Int32))))), (amm, .inl (kmm, 64, .inl ymm)), (apg, .inl (kpg, 4, .inl ypg)), (atk, .inl (ktk, 2, .inl ytk)), (ata, .inl (kta, 2, .inl yta)), (arw, .inl (krw, 22, .inl yrw))] H := hP
    have hD : va_D A [(aM, .inr (4, [.ref amr, .ref amm, .int ypc, .int yha, .int yca, .int ysp, .int yfr, .int yst, .int yda, .int yer, .int yad, .ref apg, .ref atk, .ref ata, .int yse, .int yin, .ref arw, .int ywd, .int ytm, .int ybg, .int yan, .int ybs, .int yva, .int ynu])), (amr, .inl (kmr, 8, .inl (upd ymr (Int32.toNatClampNeg ((j1 >>> ((9 : Int32) &&& (31 : Int32))) &&& (7 : Int32))) (j1 &&& (63 : Int32))))), (amm, .inl (kmm, 64, .inl ymm)), (apg, .inl (kpg, 4, .inl ypg)), (atk, .inl (ktk, 2, .inl ytk)), (ata, .inl (kta, 2, .inl yta)), (arw, .inl (krw, 22, .inl yrw))] := hD
    refine lv_goto (tgt := 162) hx hb dX4_work_84 (by decide) ?_
    exact W.vret hx hb hr (fun t ht hW => ⟨⟨((upd ymr (Int32.toNatClampNeg ((j1 >>> ((9 : Int32) &&& (31 : Int32))) &&& (7 : Int32))) (j1 &&& (63 : Int32))), ymm), rfl, h, by rw [ht]; exact hP, hD⟩, hS.F ht⟩) hS.2.2 dX4_work_162
  · have h := if_n h hc1
    by_cases hc2 : (j1 >>> ((12 : Int32) &&& (31 : Int32))) = (2 : Int32)
    · have h := if_y h hc2
      refine lv_tableIn (tgt := 87) (off := 47) hx hb dX4_work_40 (by rw [hc2]; decide) (by rw [hc2]; decide) (by rw [hc2]; rfl) (by decide) ?_
      refine lv_aload_n hx hb dX4_work_87 rfl (lv_at hl 4 rfl) ?_
      refine va_get (D := (dC, dI)) (ci := 4) (v := .ref amr) (C := RX4) (T := TX4) (N := 24) hx hb hts hinX4 hown hK hP 0 rfl rfl 0 (by decide) hf7 (fun _ h9 => h9) rfl dX4_work_88 ?_
      refine lv_iload_n hx hb dX4_work_91 rfl (lv_at hl 3 rfl) ?_
      refine lv_aload_n hx hb dX4_work_92 rfl (lv_at hl 4 rfl) ?_
      refine va_get (D := (dC, dI)) (ci := 4) (v := .ref amr) (C := RX4) (T := TX4) (N := 24) hx hb hts hinX4 hown hK hP 0 rfl rfl 0 (by decide) hf7 (fun _ h9 => h9) rfl dX4_work_93 ?_
      refine lv_iload_n hx hb dX4_work_96 rfl (lv_at hl 3 rfl) ?_
      obtain ⟨hi, h⟩ := ck_in h
      refine va_iald hx hb hK hP 1 0 rfl rfl hi dX4_work_97 ?_
      refine lv_iload_n hx hb dX4_work_98 rfl (lv_at hl 2 rfl) ?_
      refine lv_iadd hx hb dX4_work_99 ?_
      refine lv_ldc hx hb hown hc39 dX4_work_100 ?_
      refine lv_irem hx hb dX4_work_102 (by decide) ?_
      obtain ⟨hi, h⟩ := ck_in h
      refine va_iast hx hb hK hP hD hS 1 0 rfl rfl hi dX4_work_103 (fun H locs hP hD hS => ?_)
      have hP : va_P (dC, dI) vwCl [(aM, .inr (4, [.ref amr, .ref amm, .int ypc, .int yha, .int yca, .int ysp, .int yfr, .int yst, .int yda, .int yer, .int yad, .ref apg, .ref atk, .ref ata, .int yse, .int yin, .ref arw, .int ywd, .int ytm, .int ybg, .int yan, .int ybs, .int yva, .int ynu])), (amr, .inl (kmr, 8, .inl (upd ymr (Int32.toNatClampNeg ((j1 >>> ((9 : Int32) &&& (31 : Int32))) &&& (7 : Int32))) (((ymr (Int32.toNatClampNeg ((j1 >>> ((9 : Int32) &&& (31 : Int32))) &&& (7 : Int32)))) + (ymr (Int32.toNatClampNeg ((j1 >>> ((6 : Int32) &&& (31 : Int32))) &&& (7 : Int32))))) - ((ymr (Int32.toNatClampNeg ((j1 >>> ((9 : Int32) &&& (31 : Int32))) &&& (7 : Int32)))) + (ymr (Int32.toNatClampNeg ((j1 >>> ((6 : Int32) &&& (31 : Int32))) &&& (7 : Int32))))) / (65536 : Int32) * (65536 : Int32))))), (amm, .inl (kmm, 64, .inl ymm)), (apg, .inl (kpg, 4, .inl ypg)), (atk, .inl (ktk, 2, .inl ytk)), (ata, .inl (kta, 2, .inl yta)), (arw, .inl (krw, 22, .inl yrw))] H := hP
      have hD : va_D A [(aM, .inr (4, [.ref amr, .ref amm, .int ypc, .int yha, .int yca, .int ysp, .int yfr, .int yst, .int yda, .int yer, .int yad, .ref apg, .ref atk, .ref ata, .int yse, .int yin, .ref arw, .int ywd, .int ytm, .int ybg, .int yan, .int ybs, .int yva, .int ynu])), (amr, .inl (kmr, 8, .inl (upd ymr (Int32.toNatClampNeg ((j1 >>> ((9 : Int32) &&& (31 : Int32))) &&& (7 : Int32))) (((ymr (Int32.toNatClampNeg ((j1 >>> ((9 : Int32) &&& (31 : Int32))) &&& (7 : Int32)))) + (ymr (Int32.toNatClampNeg ((j1 >>> ((6 : Int32) &&& (31 : Int32))) &&& (7 : Int32))))) - ((ymr (Int32.toNatClampNeg ((j1 >>> ((9 : Int32) &&& (31 : Int32))) &&& (7 : Int32)))) + (ymr (Int32.toNatClampNeg ((j1 >>> ((6 : Int32) &&& (31 : Int32))) &&& (7 : Int32))))) / (65536 : Int32) * (65536 : Int32))))), (amm, .inl (kmm, 64, .inl ymm)), (apg, .inl (kpg, 4, .inl ypg)), (atk, .inl (ktk, 2, .inl ytk)), (ata, .inl (kta, 2, .inl yta)), (arw, .inl (krw, 22, .inl yrw))] := hD
      refine lv_goto (tgt := 162) hx hb dX4_work_104 (by decide) ?_
      exact W.vret hx hb hr (fun t ht hW => ⟨⟨((upd ymr (Int32.toNatClampNeg ((j1 >>> ((9 : Int32) &&& (31 : Int32))) &&& (7 : Int32))) (((ymr (Int32.toNatClampNeg ((j1 >>> ((9 : Int32) &&& (31 : Int32))) &&& (7 : Int32)))) + (ymr (Int32.toNatClampNeg ((j1 >>> ((6 : Int32) &&& (31 : Int32))) &&& (7 : Int32))))) - ((ymr (Int32.toNatClampNeg ((j1 >>> ((9 : Int32) &&& (31 : Int32))) &&& (7 : Int32)))) + (ymr (Int32.toNatClampNeg ((j1 >>> ((6 : Int32) &&& (31 : Int32))) &&& (7 : Int32))))) / (65536 : Int32) * (65536 : Int32))), ymm), rfl, h, by rw [ht]; exact hP, hD⟩, hS.F ht⟩) hS.2.2 dX4_work_162
    · have h := if_n h hc2
      by_cases hc3 : (j1 >>> ((12 : Int32) &&& (31 : Int32))) = (3 : Int32)
      · have h := if_y h hc3
        refine lv_tableIn (tgt := 107) (off := 67) hx hb dX4_work_40 (by rw [hc3]; decide) (by rw [hc3]; decide) (by rw [hc3]; rfl) (by decide) ?_
        refine lv_aload_n hx hb dX4_work_107 rfl (lv_at hl 4 rfl) ?_
        refine va_get (D := (dC, dI)) (ci := 4) (v := .ref amr) (C := RX4) (T := TX4) (N := 24) hx hb hts hinX4 hown hK hP 0 rfl rfl 0 (by decide) hf7 (fun _ h9 => h9) rfl dX4_work_108 ?_
        refine lv_iload_n hx hb dX4_work_111 rfl (lv_at hl 3 rfl) ?_
        refine lv_aload_n hx hb dX4_work_112 rfl (lv_at hl 4 rfl) ?_
        refine va_get (D := (dC, dI)) (ci := 4) (v := .ref amr) (C := RX4) (T := TX4) (N := 24) hx hb hts hinX4 hown hK hP 0 rfl rfl 0 (by decide) hf7 (fun _ h9 => h9) rfl dX4_work_113 ?_
        refine lv_iload_n hx hb dX4_work_116 rfl (lv_at hl 3 rfl) ?_
        obtain ⟨hi, h⟩ := ck_in h
        refine va_iald hx hb hK hP 1 0 rfl rfl hi dX4_work_117 ?_
        refine lv_ldc hx hb hown hc39 dX4_work_118 ?_
        refine lv_iadd hx hb dX4_work_120 ?_
        refine lv_iload_n hx hb dX4_work_121 rfl (lv_at hl 2 rfl) ?_
        refine lv_isub hx hb dX4_work_122 ?_
        refine lv_ldc hx hb hown hc39 dX4_work_123 ?_
        refine lv_irem hx hb dX4_work_125 (by decide) ?_
        obtain ⟨hi, h⟩ := ck_in h
        refine va_iast hx hb hK hP hD hS 1 0 rfl rfl hi dX4_work_126 (fun H locs hP hD hS => ?_)
        have hP : va_P (dC, dI) vwCl [(aM, .inr (4, [.ref amr, .ref amm, .int ypc, .int yha, .int yca, .int ysp, .int yfr, .int yst, .int yda, .int yer, .int yad, .ref apg, .ref atk, .ref ata, .int yse, .int yin, .ref arw, .int ywd, .int ytm, .int ybg, .int yan, .int ybs, .int yva, .int ynu])), (amr, .inl (kmr, 8, .inl (upd ymr (Int32.toNatClampNeg ((j1 >>> ((9 : Int32) &&& (31 : Int32))) &&& (7 : Int32))) ((((ymr (Int32.toNatClampNeg ((j1 >>> ((9 : Int32) &&& (31 : Int32))) &&& (7 : Int32)))) + (65536 : Int32)) - (ymr (Int32.toNatClampNeg ((j1 >>> ((6 : Int32) &&& (31 : Int32))) &&& (7 : Int32))))) - (((ymr (Int32.toNatClampNeg ((j1 >>> ((9 : Int32) &&& (31 : Int32))) &&& (7 : Int32)))) + (65536 : Int32)) - (ymr (Int32.toNatClampNeg ((j1 >>> ((6 : Int32) &&& (31 : Int32))) &&& (7 : Int32))))) / (65536 : Int32) * (65536 : Int32))))), (amm, .inl (kmm, 64, .inl ymm)), (apg, .inl (kpg, 4, .inl ypg)), (atk, .inl (ktk, 2, .inl ytk)), (ata, .inl (kta, 2, .inl yta)), (arw, .inl (krw, 22, .inl yrw))] H := hP
        have hD : va_D A [(aM, .inr (4, [.ref amr, .ref amm, .int ypc, .int yha, .int yca, .int ysp, .int yfr, .int yst, .int yda, .int yer, .int yad, .ref apg, .ref atk, .ref ata, .int yse, .int yin, .ref arw, .int ywd, .int ytm, .int ybg, .int yan, .int ybs, .int yva, .int ynu])), (amr, .inl (kmr, 8, .inl (upd ymr (Int32.toNatClampNeg ((j1 >>> ((9 : Int32) &&& (31 : Int32))) &&& (7 : Int32))) ((((ymr (Int32.toNatClampNeg ((j1 >>> ((9 : Int32) &&& (31 : Int32))) &&& (7 : Int32)))) + (65536 : Int32)) - (ymr (Int32.toNatClampNeg ((j1 >>> ((6 : Int32) &&& (31 : Int32))) &&& (7 : Int32))))) - (((ymr (Int32.toNatClampNeg ((j1 >>> ((9 : Int32) &&& (31 : Int32))) &&& (7 : Int32)))) + (65536 : Int32)) - (ymr (Int32.toNatClampNeg ((j1 >>> ((6 : Int32) &&& (31 : Int32))) &&& (7 : Int32))))) / (65536 : Int32) * (65536 : Int32))))), (amm, .inl (kmm, 64, .inl ymm)), (apg, .inl (kpg, 4, .inl ypg)), (atk, .inl (ktk, 2, .inl ytk)), (ata, .inl (kta, 2, .inl yta)), (arw, .inl (krw, 22, .inl yrw))] := hD
        refine lv_goto (tgt := 162) hx hb dX4_work_127 (by decide) ?_
        exact W.vret hx hb hr (fun t ht hW => ⟨⟨((upd ymr (Int32.toNatClampNeg ((j1 >>> ((9 : Int32) &&& (31 : Int32))) &&& (7 : Int32))) ((((ymr (Int32.toNatClampNeg ((j1 >>> ((9 : Int32) &&& (31 : Int32))) &&& (7 : Int32)))) + (65536 : Int32)) - (ymr (Int32.toNatClampNeg ((j1 >>> ((6 : Int32) &&& (31 : Int32))) &&& (7 : Int32))))) - (((ymr (Int32.toNatClampNeg ((j1 >>> ((9 : Int32) &&& (31 : Int32))) &&& (7 : Int32)))) + (65536 : Int32)) - (ymr (Int32.toNatClampNeg ((j1 >>> ((6 : Int32) &&& (31 : Int32))) &&& (7 : Int32))))) / (65536 : Int32) * (65536 : Int32))), ymm), rfl, h, by rw [ht]; exact hP, hD⟩, hS.F ht⟩) hS.2.2 dX4_work_162
      · have h := if_n h hc3
        by_cases hc4 : (j1 >>> ((12 : Int32) &&& (31 : Int32))) = (4 : Int32)
        · have h := if_y h hc4
          refine lv_tableIn (tgt := 130) (off := 90) hx hb dX4_work_40 (by rw [hc4]; decide) (by rw [hc4]; decide) (by rw [hc4]; rfl) (by decide) ?_
          refine lv_aload_n hx hb dX4_work_130 rfl (lv_at hl 4 rfl) ?_
          refine va_get (D := (dC, dI)) (ci := 4) (v := .ref amr) (C := RX4) (T := TX4) (N := 24) hx hb hts hinX4 hown hK hP 0 rfl rfl 0 (by decide) hf7 (fun _ h9 => h9) rfl dX4_work_131 ?_
          refine lv_iload_n hx hb dX4_work_134 rfl (lv_at hl 3 rfl) ?_
          refine lv_aload_n hx hb dX4_work_135 rfl (lv_at hl 4 rfl) ?_
          refine va_get (D := (dC, dI)) (ci := 4) (v := .ref amm) (C := RX4) (T := TX4) (N := 24) hx hb hts hinX4 hown hK hP 0 rfl rfl 1 (by decide) hf13 (fun _ h9 => h9) rfl dX4_work_136 ?_
          refine lv_iload hx hb dX4_work_139 (lv_at hl 0 rfl) ?_
          obtain ⟨hi, h⟩ := ck_in h
          refine va_iald hx hb hK hP 2 1 rfl rfl hi dX4_work_141 ?_
          obtain ⟨hi, h⟩ := ck_in h
          refine va_iast hx hb hK hP hD hS 1 0 rfl rfl hi dX4_work_142 (fun H locs hP hD hS => ?_)
          have hP : va_P (dC, dI) vwCl [(aM, .inr (4, [.ref amr, .ref amm, .int ypc, .int yha, .int yca, .int ysp, .int yfr, .int yst, .int yda, .int yer, .int yad, .ref apg, .ref atk, .ref ata, .int yse, .int yin, .ref arw, .int ywd, .int ytm, .int ybg, .int yan, .int ybs, .int yva, .int ynu])), (amr, .inl (kmr, 8, .inl (upd ymr (Int32.toNatClampNeg ((j1 >>> ((9 : Int32) &&& (31 : Int32))) &&& (7 : Int32))) (ymm (Int32.toNatClampNeg (((ymr (Int32.toNatClampNeg ((j1 >>> ((6 : Int32) &&& (31 : Int32))) &&& (7 : Int32)))) + (j1 &&& (63 : Int32))) - ((ymr (Int32.toNatClampNeg ((j1 >>> ((6 : Int32) &&& (31 : Int32))) &&& (7 : Int32)))) + (j1 &&& (63 : Int32))) / (64 : Int32) * (64 : Int32))))))), (amm, .inl (kmm, 64, .inl ymm)), (apg, .inl (kpg, 4, .inl ypg)), (atk, .inl (ktk, 2, .inl ytk)), (ata, .inl (kta, 2, .inl yta)), (arw, .inl (krw, 22, .inl yrw))] H := hP
          have hD : va_D A [(aM, .inr (4, [.ref amr, .ref amm, .int ypc, .int yha, .int yca, .int ysp, .int yfr, .int yst, .int yda, .int yer, .int yad, .ref apg, .ref atk, .ref ata, .int yse, .int yin, .ref arw, .int ywd, .int ytm, .int ybg, .int yan, .int ybs, .int yva, .int ynu])), (amr, .inl (kmr, 8, .inl (upd ymr (Int32.toNatClampNeg ((j1 >>> ((9 : Int32) &&& (31 : Int32))) &&& (7 : Int32))) (ymm (Int32.toNatClampNeg (((ymr (Int32.toNatClampNeg ((j1 >>> ((6 : Int32) &&& (31 : Int32))) &&& (7 : Int32)))) + (j1 &&& (63 : Int32))) - ((ymr (Int32.toNatClampNeg ((j1 >>> ((6 : Int32) &&& (31 : Int32))) &&& (7 : Int32)))) + (j1 &&& (63 : Int32))) / (64 : Int32) * (64 : Int32))))))), (amm, .inl (kmm, 64, .inl ymm)), (apg, .inl (kpg, 4, .inl ypg)), (atk, .inl (ktk, 2, .inl ytk)), (ata, .inl (kta, 2, .inl yta)), (arw, .inl (krw, 22, .inl yrw))] := hD
          refine lv_goto (tgt := 162) hx hb dX4_work_143 (by decide) ?_
          exact W.vret hx hb hr (fun t ht hW => ⟨⟨((upd ymr (Int32.toNatClampNeg ((j1 >>> ((9 : Int32) &&& (31 : Int32))) &&& (7 : Int32))) (ymm (Int32.toNatClampNeg (((ymr (Int32.toNatClampNeg ((j1 >>> ((6 : Int32) &&& (31 : Int32))) &&& (7 : Int32)))) + (j1 &&& (63 : Int32))) - ((ymr (Int32.toNatClampNeg ((j1 >>> ((6 : Int32) &&& (31 : Int32))) &&& (7 : Int32)))) + (j1 &&& (63 : Int32))) / (64 : Int32) * (64 : Int32))))), ymm), rfl, h, by rw [ht]; exact hP, hD⟩, hS.F ht⟩) hS.2.2 dX4_work_162
        · have h := if_n h hc4
          by_cases hc5 : (j1 >>> ((12 : Int32) &&& (31 : Int32))) = (5 : Int32)
          · have h := if_y h hc5
            refine lv_tableIn (tgt := 146) (off := 106) hx hb dX4_work_40 (by rw [hc5]; decide) (by rw [hc5]; decide) (by rw [hc5]; rfl) (by decide) ?_
            refine lv_aload_n hx hb dX4_work_146 rfl (lv_at hl 4 rfl) ?_
            refine va_get (D := (dC, dI)) (ci := 4) (v := .ref amm) (C := RX4) (T := TX4) (N := 24) hx hb hts hinX4 hown hK hP 0 rfl rfl 1 (by decide) hf13 (fun _ h9 => h9) rfl dX4_work_147 ?_
            refine lv_iload hx hb dX4_work_150 (lv_at hl 0 rfl) ?_
            refine lv_aload_n hx hb dX4_work_152 rfl (lv_at hl 4 rfl) ?_
            refine va_get (D := (dC, dI)) (ci := 4) (v := .ref amr) (C := RX4) (T := TX4) (N := 24) hx hb hts hinX4 hown hK hP 0 rfl rfl 0 (by decide) hf7 (fun _ h9 => h9) rfl dX4_work_153 ?_
            refine lv_iload_n hx hb dX4_work_156 rfl (lv_at hl 3 rfl) ?_
            obtain ⟨hi, h⟩ := ck_in h
            refine va_iald hx hb hK hP 1 0 rfl rfl hi dX4_work_157 ?_
            obtain ⟨hi, h⟩ := ck_in h
            refine va_iast hx hb hK hP hD hS 2 1 rfl rfl hi dX4_work_158 (fun H locs hP hD hS => ?_)
            have hP : va_P (dC, dI) vwCl [(aM, .inr (4, [.ref amr, .ref amm, .int ypc, .int yha, .int yca, .int ysp, .int yfr, .int yst, .int yda, .int yer, .int yad, .ref apg, .ref atk, .ref ata, .int yse, .int yin, .ref arw, .int ywd, .int ytm, .int ybg, .int yan, .int ybs, .int yva, .int ynu])), (amr, .inl (kmr, 8, .inl ymr)), (amm, .inl (kmm, 64, .inl (upd ymm (Int32.toNatClampNeg (((ymr (Int32.toNatClampNeg ((j1 >>> ((6 : Int32) &&& (31 : Int32))) &&& (7 : Int32)))) + (j1 &&& (63 : Int32))) - ((ymr (Int32.toNatClampNeg ((j1 >>> ((6 : Int32) &&& (31 : Int32))) &&& (7 : Int32)))) + (j1 &&& (63 : Int32))) / (64 : Int32) * (64 : Int32))) (ymr (Int32.toNatClampNeg ((j1 >>> ((9 : Int32) &&& (31 : Int32))) &&& (7 : Int32))))))), (apg, .inl (kpg, 4, .inl ypg)), (atk, .inl (ktk, 2, .inl ytk)), (ata, .inl (kta, 2, .inl yta)), (arw, .inl (krw, 22, .inl yrw))] H := hP
            have hD : va_D A [(aM, .inr (4, [.ref amr, .ref amm, .int ypc, .int yha, .int yca, .int ysp, .int yfr, .int yst, .int yda, .int yer, .int yad, .ref apg, .ref atk, .ref ata, .int yse, .int yin, .ref arw, .int ywd, .int ytm, .int ybg, .int yan, .int ybs, .int yva, .int ynu])), (amr, .inl (kmr, 8, .inl ymr)), (amm, .inl (kmm, 64, .inl (upd ymm (Int32.toNatClampNeg (((ymr (Int32.toNatClampNeg ((j1 >>> ((6 : Int32) &&& (31 : Int32))) &&& (7 : Int32)))) + (j1 &&& (63 : Int32))) - ((ymr (Int32.toNatClampNeg ((j1 >>> ((6 : Int32) &&& (31 : Int32))) &&& (7 : Int32)))) + (j1 &&& (63 : Int32))) / (64 : Int32) * (64 : Int32))) (ymr (Int32.toNatClampNeg ((j1 >>> ((9 : Int32) &&& (31 : Int32))) &&& (7 : Int32))))))), (apg, .inl (kpg, 4, .inl ypg)), (atk, .inl (ktk, 2, .inl ytk)), (ata, .inl (kta, 2, .inl yta)), (arw, .inl (krw, 22, .inl yrw))] := hD
            refine lv_goto (tgt := 162) hx hb dX4_work_159 (by decide) ?_
            exact W.vret hx hb hr (fun t ht hW => ⟨⟨(ymr, (upd ymm (Int32.toNatClampNeg (((ymr (Int32.toNatClampNeg ((j1 >>> ((6 : Int32) &&& (31 : Int32))) &&& (7 : Int32)))) + (j1 &&& (63 : Int32))) - ((ymr (Int32.toNatClampNeg ((j1 >>> ((6 : Int32) &&& (31 : Int32))) &&& (7 : Int32)))) + (j1 &&& (63 : Int32))) / (64 : Int32) * (64 : Int32))) (ymr (Int32.toNatClampNeg ((j1 >>> ((9 : Int32) &&& (31 : Int32))) &&& (7 : Int32)))))), rfl, h, by rw [ht]; exact hP, hD⟩, hS.F ht⟩) hS.2.2 dX4_work_162
          · have h := if_n h hc5
            have e1 := lv_neT (a := 1) hc1 (by decide)
            have e2 := lv_neT (a := 2) hc2 (by decide)
            have e3 := lv_neT (a := 3) hc3 (by decide)
            have e4 := lv_neT (a := 4) hc4 (by decide)
            have e5 := lv_neT (a := 5) hc5 (by decide)
            refine lv_tableOut (tgt := 162) hx hb dX4_work_40 (by omega) (by decide) ?_
            exact W.vret hx hb hr (fun t ht hW => ⟨⟨(ymr, ymm), rfl, h, by rw [ht]; exact hP, hD⟩, hS.F ht⟩) hS.2.2 dX4_work_162
set_option maxHeartbeats 4000000 in
set_option maxRecDepth 100000 in
theorem ct_M_step (l : Launch) (dC : Nat → ClassId) (dI : Nat → Nat → Nat) (aM amr amm apg atk ata arw : Nat) (kmr kmm kpg ktk kta krw : ClassId) (sz : Nat) (ymr : (Nat → Int32)) (ymm : (Nat → Int32)) (ypc : Int32) (yha : Int32) (yca : Int32) (ysp : Int32) (yfr : Int32) (yst : Int32) (yda : Int32) (yer : Int32) (yad : Int32) (ypg : (Nat → Int32)) (ytk : (Nat → Int32)) (yta : (Nat → Int32)) (yse : Int32) (yin : Int32) (yrw : (Nat → Int32)) (ywd : Int32) (ytm : Int32) (ybg : Int32) (yan : Int32) (ybs : Int32) (yva : Int32) (ynu : Int32) (o : Int32 × (Nat → Int32) × (Nat → Int32) × Int32 × Int32 × Int32 × Int32 × Int32) (h : fn_M_step ymr ymm ypc yha yca yfr yst ytk yta = some o) : Met l yX4_step wsX4_step ({ frames := 1, cells := 0, slots := 0, locals := 25 }) (va_Pc [.ref aM] (fun U => U.heap.size = sz ∧ va_P (dC, dI) vwCl [(aM, .inr (4, [.ref amr, .ref amm, .int ypc, .int yha, .int yca, .int ysp, .int yfr, .int yst, .int yda, .int yer, .int yad, .ref apg, .ref atk, .ref ata, .int yse, .int yin, .ref arw, .int ywd, .int ytm, .int ybg, .int yan, .int ybs, .int yva, .int ynu])), (amr, .inl (kmr, 8, .inl ymr)), (amm, .inl (kmm, 64, .inl ymm)), (apg, .inl (kpg, 4, .inl ypg)), (atk, .inl (ktk, 2, .inl ytk)), (ata, .inl (kta, 2, .inl yta)), (arw, .inl (krw, 22, .inl yrw))] U.heap ∧ va_K (dC, dI) vwCl [(kmr, .int), (kmm, .int), (kpg, .int), (ktk, .int), (kta, .int), (krw, .int)] U ∧ va_D (fun _ => True) [(aM, .inr (4, [.ref amr, .ref amm, .int ypc, .int yha, .int yca, .int ysp, .int yfr, .int yst, .int yda, .int yer, .int yad, .ref apg, .ref atk, .ref ata, .int yse, .int yin, .ref arw, .int ywd, .int ytm, .int ybg, .int yan, .int ybs, .int yva, .int ynu])), (amr, .inl (kmr, 8, .inl ymr)), (amm, .inl (kmm, 64, .inl ymm)), (apg, .inl (kpg, 4, .inl ypg)), (atk, .inl (ktk, 2, .inl ytk)), (ata, .inl (kta, 2, .inl yta)), (arw, .inl (krw, 22, .inl yrw))])) (va_Qi (fun (r : Int32) (u : (Nat → Int32) × (Nat → Int32) × Int32 × Int32 × Int32 × Int32 × Int32) => some (r, u) = some o) (fun (u : (Nat → Int32) × (Nat → Int32) × Int32 × Int32 × Int32 × Int32 × Int32) (t : State) => va_P (dC, dI) vwCl [(aM, .inr (4, [.ref amr, .ref amm, .int u.2.2.1, .int u.2.2.2.1, .int u.2.2.2.2.1, .int ysp, .int u.2.2.2.2.2.1, .int u.2.2.2.2.2.2, .int yda, .int yer, .int yad, .ref apg, .ref atk, .ref ata, .int yse, .int yin, .ref arw, .int ywd, .int ytm, .int ybg, .int yan, .int ybs, .int yva, .int ynu])), (amr, .inl (kmr, 8, .inl u.1)), (amm, .inl (kmm, 64, .inl u.2.1)), (apg, .inl (kpg, 4, .inl ypg)), (atk, .inl (ktk, 2, .inl ytk)), (ata, .inl (kta, 2, .inl yta)), (arw, .inl (krw, 22, .inl yrw))] t.heap ∧ va_D (va_A [(aM, .inr (4, [.ref amr, .ref amm, .int ypc, .int yha, .int yca, .int ysp, .int yfr, .int yst, .int yda, .int yer, .int yad, .ref apg, .ref atk, .ref ata, .int yse, .int yin, .ref arw, .int ywd, .int ytm, .int ybg, .int yan, .int ybs, .int yva, .int ynu])), (amr, .inl (kmr, 8, .inl ymr)), (amm, .inl (kmm, 64, .inl ymm)), (apg, .inl (kpg, 4, .inl ypg)), (atk, .inl (ktk, 2, .inl ytk)), (ata, .inl (kta, 2, .inl yta)), (arw, .inl (krw, 22, .inl yrw))] sz) [(aM, .inr (4, [.ref amr, .ref amm, .int u.2.2.1, .int u.2.2.2.1, .int u.2.2.2.2.1, .int ysp, .int u.2.2.2.2.2.1, .int u.2.2.2.2.2.2, .int yda, .int yer, .int yad, .ref apg, .ref atk, .ref ata, .int yse, .int yin, .ref arw, .int ywd, .int ytm, .int ybg, .int yan, .int ybs, .int yva, .int ynu])), (amr, .inl (kmr, 8, .inl u.1)), (amm, .inl (kmm, 64, .inl u.2.1)), (apg, .inl (kpg, 4, .inl ypg)), (atk, .inl (ktk, 2, .inl ytk)), (ata, .inl (kta, 2, .inl yta)), (arw, .inl (krw, 22, .inl yrw))]) (va_A [(aM, .inr (4, [.ref amr, .ref amm, .int ypc, .int yha, .int yca, .int ysp, .int yfr, .int yst, .int yda, .int yer, .int yad, .ref apg, .ref atk, .ref ata, .int yse, .int yin, .ref arw, .int ywd, .int ytm, .int ybg, .int yan, .int ybs, .int yva, .int ynu])), (amr, .inl (kmr, 8, .inl ymr)), (amm, .inl (kmm, 64, .inl ymm)), (apg, .inl (kpg, 4, .inl ypg)), (atk, .inl (ktk, 2, .inl ytk)), (ata, .inl (kta, 2, .inl yta)), (arw, .inl (krw, 22, .inl yrw))] sz)) 0 0 (va_A [(aM, .inr (4, [.ref amr, .ref amm, .int ypc, .int yha, .int yca, .int ysp, .int yfr, .int yst, .int yda, .int yer, .int yad, .ref apg, .ref atk, .ref ata, .int yse, .int yin, .ref arw, .int ywd, .int ytm, .int ybg, .int yan, .int ybs, .int yva, .int ynu])), (amr, .inl (kmr, 8, .inl ymr)), (amm, .inl (kmm, 64, .inl ymm)), (apg, .inl (kpg, 4, .inl ypg)), (atk, .inl (ktk, 2, .inl ytk)), (ata, .inl (kta, 2, .inl yta)), (arw, .inl (krw, 22, .inl yrw))] sz) := by
  refine Met.ofW (cc := cX4_step) (maxL := 9) (ret := (some .boolean)) (by decide) rfl ?_
  intro p e s m args below meth c s₁ B hml hv
  obtain ⟨rfl, hsz, hP, hK, hD0⟩ := hv
  have hx := B.exec
  have hb := B.bytes
  have hr := B.returns
  have hts := atoms_spec (ws := wsX4_step) B.pre
  have hown : s.vm.findClass RX4 = some m.cls := findClass_of_methodNamed B.named
  have hlocks := B.notSynchronized
  subst hsz
  have hD := hD0.self (sz := s.heap.size)
  generalize hAe : va_A [(aM, .inr (4, [.ref amr, .ref amm, .int ypc, .int yha, .int yca, .int ysp, .int yfr, .int yst, .int yda, .int yer, .int yad, .ref apg, .ref atk, .ref ata, .int yse, .int yin, .ref arw, .int ywd, .int ytm, .int ybg, .int yan, .int ybs, .int yva, .int ynu])), (amr, .inl (kmr, 8, .inl ymr)), (amm, .inl (kmm, 64, .inl ymm)), (apg, .inl (kpg, 4, .inl ypg)), (atk, .inl (ktk, 2, .inl ytk)), (ata, .inl (kta, 2, .inl yta)), (arw, .inl (krw, 22, .inl yrw))] s.heap.size = A at hD ⊢
  have hA : ∀ q : Nat, s.heap.size ≤ q → A q := fun q h => by rw [← hAe]; exact Or.inr h
  have hS : va_S A s.heap s.heap [] := va_S.rf
  have hP : va_P (dC, dI) vwCl [(aM, .inr (4, [.ref amr, .ref amm, .int ypc, .int yha, .int yca, .int ysp, .int yfr, .int yst, .int yda, .int yer, .int yad, .ref apg, .ref atk, .ref ata, .int yse, .int yin, .ref arw, .int ywd, .int ytm, .int ybg, .int yan, .int ybs, .int yva, .int ynu])), (amr, .inl (kmr, 8, .inl ymr)), (amm, .inl (kmm, 64, .inl ymm)), (apg, .inl (kpg, 4, .inl ypg)), (atk, .inl (ktk, 2, .inl ytk)), (ata, .inl (kta, 2, .inl yta)), (arw, .inl (krw, 22, .inl yrw))] s.heap := hP
  have hf13 := hts (.fieldLink RX4 13 "ProbeBenchModel" "memory" "[I") (by decide +kernel)
  have hf40 := hts (.fieldLink RX4 40 "ProbeBenchModel" "pc" "I") (by decide +kernel)
  have hf43 := hts (.fieldLink RX4 43 "ProbeBenchModel" "free" "Z") (by decide +kernel)
  have hf57 := hts (.fieldLink RX4 57 "ProbeBenchModel" "steps" "I") (by decide +kernel)
  have hf7 := hts (.fieldLink RX4 7 "ProbeBenchModel" "register" "[I") (by decide +kernel)
  have hinX4 : ∀ w ∈ u_ws RX4 TX4 24, w ∈ wsX4_step := by decide +kernel
  have k_194 : ∀ (H : Heap) (locs : List Loc) (ls : Array Slot) (ymr : (Nat → Int32)) (ymm : (Nat → Int32)) (ypc : Int32) (yha : Int32) (yca : Int32) (yfr : Int32) (yst : Int32) (z1 : Int32) (z2 : Int32) (z6 : Int32) (z7 : Int32) (w1 : Int32), va_P (dC, dI) vwCl [(aM, .inr (4, [.ref amr, .ref amm, .int ypc, .int yha, .int yca, .int ysp, .int yfr, .int yst, .int yda, .int yer, .int yad, .ref apg, .ref atk, .ref ata, .int yse, .int yin, .ref arw, .int ywd, .int ytm, .int ybg, .int yan, .int ybs, .int yva, .int ynu])), (amr, .inl (kmr, 8, .inl ymr)), (amm, .inl (kmm, 64, .inl ymm)), (apg, .inl (kpg, 4, .inl ypg)), (atk, .inl (ktk, 2, .inl ytk)), (ata, .inl (kta, 2, .inl yta)), (arw, .inl (krw, 22, .inl yrw))] H → va_D A [(aM, .inr (4, [.ref amr, .ref amm, .int ypc, .int yha, .int yca, .int ysp, .int yfr, .int yst, .int yda, .int yer, .int yad, .ref apg, .ref atk, .ref ata, .int yse, .int yin, .ref arw, .int ywd, .int ytm, .int ybg, .int yan, .int ybs, .int yva, .int ynu])), (amr, .inl (kmr, 8, .inl ymr)), (amm, .inl (kmm, 64, .inl ymm)), (apg, .inl (kpg, 4, .inl ypg)), (atk, .inl (ktk, 2, .inl ytk)), (ata, .inl (kta, 2, .inl yta)), (arw, .inl (krw, 22, .inl yrw))] → va_S A s.heap H locs → lv_has ls 9 [(0, .ref aM), (1, .int z1), (2, .int z2), (6, .int z6), (7, .int z7)] → fn_M_step_J194 ymr ymm ypc yha yca yfr yst ytk yta z1 z2 z6 z7 w1 = some o → W p l e (headSpec wsX4_step ({ frames := 1, cells := 0, slots := 0, locals := 25 })).room s m ([.ref aM] : List Value).toArray below meth c H locs 0 0 (MQ below (va_Qi (fun (r : Int32) (u : (Nat → Int32) × (Nat → Int32) × Int32 × Int32 × Int32 × Int32 × Int32) => some (r, u) = some o) (fun (u : (Nat → Int32) × (Nat → Int32) × Int32 × Int32 × Int32 × Int32 × Int32) (t : State) => va_P (dC, dI) vwCl [(aM, .inr (4, [.ref amr, .ref amm, .int u.2.2.1, .int u.2.2.2.1, .int u.2.2.2.2.1, .int ysp, .int u.2.2.2.2.2.1, .int u.2.2.2.2.2.2, .int yda, .int yer, .int yad, .ref apg, .ref atk, .ref ata, .int yse, .int yin, .ref arw, .int ywd, .int ytm, .int ybg, .int yan, .int ybs, .int yva, .int ynu])), (amr, .inl (kmr, 8, .inl u.1)), (amm, .inl (kmm, 64, .inl u.2.1)), (apg, .inl (kpg, 4, .inl ypg)), (atk, .inl (ktk, 2, .inl ytk)), (ata, .inl (kta, 2, .inl yta)), (arw, .inl (krw, 22, .inl yrw))] t.heap ∧ va_D A [(aM, .inr (4, [.ref amr, .ref amm, .int u.2.2.1, .int u.2.2.2.1, .int u.2.2.2.2.1, .int ysp, .int u.2.2.2.2.2.1, .int u.2.2.2.2.2.2, .int yda, .int yer, .int yad, .ref apg, .ref atk, .ref ata, .int yse, .int yin, .ref arw, .int ywd, .int ytm, .int ybg, .int yan, .int ybs, .int yva, .int ynu])), (amr, .inl (kmr, 8, .inl u.1)), (amm, .inl (kmm, 64, .inl u.2.1)), (apg, .inl (kpg, 4, .inl ypg)), (atk, .inl (ktk, 2, .inl ytk)), (ata, .inl (kta, 2, .inl yta)), (arw, .inl (krw, 22, .inl yrw))]) A) ([.ref aM] : List Value).toArray s 0 0 A) (F0 m 194 ls [.int w1, .ref aM]) := by
    intro H locs ls ymr ymm ypc yha yca yfr yst z1 z2 z6 z7 w1 hP hD hS hl h
    unfold fn_M_step_J194 at h
    refine va_put (D := (dC, dI)) (ci := 4) (v := .int w1) (ty := .int) (C := RX4) (T := TX4) (N := 24) hx hb hts hinX4 tyX4 tyX4_ok nmX4 hown hK hP hD hS 0 rfl rfl 2 (by decide) hf40 (fun _ h9 => h9) rfl (by decide +kernel) rfl rfl (Nat.le_of_ble_eq_true rfl) dX4_step_194 (fun H locs hP hD hS => ?_)
    have hP : va_P (dC, dI) vwCl [(aM, .inr (4, [.ref amr, .ref amm, .int w1, .int yha, .int yca, .int ysp, .int yfr, .int yst, .int yda, .int yer, .int yad, .ref apg, .ref atk, .ref ata, .int yse, .int yin, .ref arw, .int ywd, .int ytm, .int ybg, .int yan, .int ybs, .int yva, .int ynu])), (amr, .inl (kmr, 8, .inl ymr)), (amm, .inl (kmm, 64, .inl ymm)), (apg, .inl (kpg, 4, .inl ypg)), (atk, .inl (ktk, 2, .inl ytk)), (ata, .inl (kta, 2, .inl yta)), (arw, .inl (krw, 22, .inl yrw))] H := hP
    have hD : va_D A [(aM, .inr (4, [.ref amr, .ref amm, .int w1, .int yha, .int yca, .int ysp, .int yfr, .int yst, .int yda, .int yer, .int yad, .ref apg, .ref atk, .ref ata, .int yse, .int yin, .ref arw, .int ywd, .int ytm, .int ybg, .int yan, .int ybs, .int yva, .int ynu])), (amr, .inl (kmr, 8, .inl ymr)), (amm, .inl (kmm, 64, .inl ymm)), (apg, .inl (kpg, 4, .inl ypg)), (atk, .inl (ktk, 2, .inl ytk)), (ata, .inl (kta, 2, .inl yta)), (arw, .inl (krw, 22, .inl yrw))] := hD
    refine lv_iload_n hx hb dX4_step_197 rfl (lv_at hl 2 rfl) ?_
    refine lv_bipush (v := (9 : Int32)) hx hb dX4_step_198 (by decide) ?_
    refine lv_icmp_ne (tgt := 212) hx hb dX4_step_200 (by decide) (fun hc => ?_) (fun hc => ?_)
    · have h := if_n h hc
      refine lv_aload_n hx hb dX4_step_212 rfl (lv_at hl 0 rfl) ?_
      refine lv_iload_n hx hb dX4_step_213 rfl (lv_at hl 1 rfl) ?_
      obtain ⟨v214, hv, h⟩ := bn_ex h
      have hPc := hP.sub (ws' := [(aM, .inr (4, [.ref amr, .ref amm, .int w1, .int yha, .int yca, .int ysp, .int yfr, .int yst, .int yda, .int yer, .int yad, .ref apg, .ref atk, .ref ata, .int yse, .int yin, .ref arw, .int ywd, .int ytm, .int ybg, .int yan, .int ybs, .int yva, .int ynu])), (amr, .inl (kmr, 8, .inl ymr)), (amm, .inl (kmm, 64, .inl ymm)), (apg, .inl (kpg, 4, .inl ypg)), (atk, .inl (ktk, 2, .inl ytk)), (ata, .inl (kta, 2, .inl yta)), (arw, .inl (krw, 22, .inl yrw))]) [0, 1, 2, 3, 4, 5, 6] rfl
      have hDc := hD.sub (ws' := [(aM, .inr (4, [.ref amr, .ref amm, .int w1, .int yha, .int yca, .int ysp, .int yfr, .int yst, .int yda, .int yer, .int yad, .ref apg, .ref atk, .ref ata, .int yse, .int yin, .ref arw, .int ywd, .int ytm, .int ybg, .int yan, .int ybs, .int yva, .int ynu])), (amr, .inl (kmr, 8, .inl ymr)), (amm, .inl (kmm, 64, .inl ymm)), (apg, .inl (kpg, 4, .inl ypg)), (atk, .inl (ktk, 2, .inl ytk)), (ata, .inl (kta, 2, .inl yta)), (arw, .inl (krw, 22, .inl yrw))]) [0, 1, 2, 3, 4, 5, 6] (by decide) rfl
      have hKc := hK.sub (tys' := [(kmr, .int), (kmm, .int), (kpg, .int), (ktk, .int), (kta, .int), (krw, .int)]) [0, 1, 2, 3, 4, 5] rfl
      have hFc := va_free (wc := [(aM, .inr (4, [.ref amr, .ref amm, .int w1, .int yha, .int yca, .int ysp, .int yfr, .int yst, .int yda, .int yer, .int yad, .ref apg, .ref atk, .ref ata, .int yse, .int yin, .ref arw, .int ywd, .int ytm, .int ybg, .int yan, .int ybs, .int yva, .int ynu])), (amr, .inl (kmr, 8, .inl ymr)), (amm, .inl (kmm, 64, .inl ymm)), (apg, .inl (kpg, 4, .inl ypg)), (atk, .inl (ktk, 2, .inl ytk)), (ata, .inl (kta, 2, .inl yta)), (arw, .inl (krw, 22, .inl yrw))]) hD hS hA [0, 1, 2, 3, 4, 5, 6] rfl
      refine va_callv (va_runV (As := [.int z1]) (rest := []) ⟨hx, hb, hml, hown, hts⟩ (ct_M_work l dC dI aM amr amm apg atk ata arw kmr kmm kpg ktk kta krw H.size ymr ymm w1 yha yca ysp yfr yst yda yer yad ypg ytk yta yse yin yrw ywd ytm ybg yan ybs yva ynu z1 v214 hv) (cwV 1 hts gX4_step_X4_work rfl rfl rfl (by decide +kernel) ⟨Nat.le_of_ble_eq_true rfl, Nat.le_of_ble_eq_true rfl⟩) ⟨fun a U g mk q => by obtain ⟨q0, q1, qP, qK, qD⟩ := q; exact ⟨q0, q1, qP, va_K.moved (u := U) (U := U.calling g mk a) (Vm.Alike.refl U.vm) qK, qD⟩, va_recv (ci := 4) (q0 := 0) hK hP rfl rfl, fun U hU hW => ⟨rfl, by rw [hU], by rw [hU]; exact hPc, va_K.moved hW.alike hKc, hDc.weaken (fun _ _ _ _ => trivial)⟩⟩ rfl rfl hl.1 rfl (lv_room (Nat.le_of_ble_eq_true rfl)) dX4_step_214 ⟨Nat.zero_le _, Nat.zero_le _⟩) hS (fun q _ h => hFc q h) hFc (fun u t H locs ht hvm hw hB hz1 hk1 hS => ?_)
      obtain rfl := pr_0 hw
      obtain ⟨hP1, hD1⟩ := hB
      rw [ht] at hP1
      obtain ⟨hP, hD⟩ := va_join (wr := []) (w1 := [(aM, .inr (4, [.ref amr, .ref amm, .int w1, .int yha, .int yca, .int ysp, .int yfr, .int yst, .int yda, .int yer, .int yad, .ref apg, .ref atk, .ref ata, .int yse, .int yin, .ref arw, .int ywd, .int ytm, .int ybg, .int yan, .int ybs, .int yva, .int ynu])), (amr, .inl (kmr, 8, .inl v214.1)), (amm, .inl (kmm, 64, .inl v214.2)), (apg, .inl (kpg, 4, .inl ypg)), (atk, .inl (ktk, 2, .inl ytk)), (ata, .inl (kta, 2, .inl yta)), (arw, .inl (krw, 22, .inl yrw))]) hP hD [0, 1, 2, 3, 4, 5, 6] [] rfl rfl (by decide) (by decide) hk1 hFc hP1 hD1
      have hP : va_P (dC, dI) vwCl [(aM, .inr (4, [.ref amr, .ref amm, .int w1, .int yha, .int yca, .int ysp, .int yfr, .int yst, .int yda, .int yer, .int yad, .ref apg, .ref atk, .ref ata, .int yse, .int yin, .ref arw, .int ywd, .int ytm, .int ybg, .int yan, .int ybs, .int yva, .int ynu])), (amr, .inl (kmr, 8, .inl v214.1)), (amm, .inl (kmm, 64, .inl v214.2)), (apg, .inl (kpg, 4, .inl ypg)), (atk, .inl (ktk, 2, .inl ytk)), (ata, .inl (kta, 2, .inl yta)), (arw, .inl (krw, 22, .inl yrw))] H := hP
      have hD : va_D A [(aM, .inr (4, [.ref amr, .ref amm, .int w1, .int yha, .int yca, .int ysp, .int yfr, .int yst, .int yda, .int yer, .int yad, .ref apg, .ref atk, .ref ata, .int yse, .int yin, .ref arw, .int ywd, .int ytm, .int ybg, .int yan, .int ybs, .int yva, .int ynu])), (amr, .inl (kmr, 8, .inl v214.1)), (amm, .inl (kmm, 64, .inl v214.2)), (apg, .inl (kpg, 4, .inl ypg)), (atk, .inl (ktk, 2, .inl ytk)), (ata, .inl (kta, 2, .inl yta)), (arw, .inl (krw, 22, .inl yrw))] := hD
      refine lv_aload_n hx hb dX4_step_217 rfl (lv_at hl 0 rfl) ?_
      refine lv_dup hx hb dX4_step_218 rfl ?_
      refine va_get (D := (dC, dI)) (ci := 4) (v := .int yst) (C := RX4) (T := TX4) (N := 24) hx hb hts hinX4 hown hK hP 0 rfl rfl 7 (by decide) hf57 (fun _ h9 => h9) rfl dX4_step_219 ?_
      refine lv_iconst (v := (1 : Int32)) hx hb dX4_step_222 (by decide) ?_
      refine lv_iadd hx hb dX4_step_223 ?_
      refine va_put (D := (dC, dI)) (ci := 4) (v := .int (yst + (1 : Int32))) (ty := .int) (C := RX4) (T := TX4) (N := 24) hx hb hts hinX4 tyX4 tyX4_ok nmX4 hown hK hP hD hS 0 rfl rfl 7 (by decide) hf57 (fun _ h9 => h9) rfl (by decide +kernel) rfl rfl (Nat.le_of_ble_eq_true rfl) dX4_step_224 (fun H locs hP hD hS => ?_)
      have hP : va_P (dC, dI) vwCl [(aM, .inr (4, [.ref amr, .ref amm, .int w1, .int yha, .int yca, .int ysp, .int yfr, .int (yst + (1 : Int32)), .int yda, .int yer, .int yad, .ref apg, .ref atk, .ref ata, .int yse, .int yin, .ref arw, .int ywd, .int ytm, .int ybg, .int yan, .int ybs, .int yva, .int ynu])), (amr, .inl (kmr, 8, .inl v214.1)), (amm, .inl (kmm, 64, .inl v214.2)), (apg, .inl (kpg, 4, .inl ypg)), (atk, .inl (ktk, 2, .inl ytk)), (ata, .inl (kta, 2, .inl yta)), (arw, .inl (krw, 22, .inl yrw))] H := hP
      have hD : va_D A [(aM, .inr (4, [.ref amr, .ref amm, .int w1, .int yha, .int yca, .int ysp, .int yfr, .int (yst + (1 : Int32)), .int yda, .int yer, .int yad, .ref apg, .ref atk, .ref ata, .int yse, .int yin, .ref arw, .int ywd, .int ytm, .int ybg, .int yan, .int ybs, .int yva, .int ynu])), (amr, .inl (kmr, 8, .inl v214.1)), (amm, .inl (kmm, 64, .inl v214.2)), (apg, .inl (kpg, 4, .inl ypg)), (atk, .inl (ktk, 2, .inl ytk)), (ata, .inl (kta, 2, .inl yta)), (arw, .inl (krw, 22, .inl yrw))] := hD
      refine lv_iconst (v := (1 : Int32)) hx hb dX4_step_227 (by decide) ?_
      exact W.zret hx hb hr (kb_n (Or.inr rfl)) (fun t ht hW => ⟨⟨(1 : Int32), (v214.1, v214.2, w1, yha, yca, yfr, (yst + (1 : Int32))), rfl, h, by rw [ht]; exact hP, hD⟩, hS.F ht⟩) hS.2.2 dX4_step_228
    · have h := if_y h hc
      refine lv_aload_n hx hb dX4_step_203 rfl (lv_at hl 0 rfl) ?_
      refine va_get (D := (dC, dI)) (ci := 4) (v := .ref amr) (C := RX4) (T := TX4) (N := 24) hx hb hts hinX4 hown hK hP 0 rfl rfl 0 (by decide) hf7 (fun _ h9 => h9) rfl dX4_step_204 ?_
      refine lv_iload hx hb dX4_step_207 (lv_at hl 3 rfl) ?_
      refine lv_iload hx hb dX4_step_209 (lv_at hl 4 rfl) ?_
      obtain ⟨hi, h⟩ := ck_in h
      refine va_iast hx hb hK hP hD hS 1 0 rfl rfl hi dX4_step_211 (fun H locs hP hD hS => ?_)
      have hP : va_P (dC, dI) vwCl [(aM, .inr (4, [.ref amr, .ref amm, .int w1, .int yha, .int yca, .int ysp, .int yfr, .int yst, .int yda, .int yer, .int yad, .ref apg, .ref atk, .ref ata, .int yse, .int yin, .ref arw, .int ywd, .int ytm, .int ybg, .int yan, .int ybs, .int yva, .int ynu])), (amr, .inl (kmr, 8, .inl (upd ymr (Int32.toNatClampNeg z6) z7))), (amm, .inl (kmm, 64, .inl ymm)), (apg, .inl (kpg, 4, .inl ypg)), (atk, .inl (ktk, 2, .inl ytk)), (ata, .inl (kta, 2, .inl yta)), (arw, .inl (krw, 22, .inl yrw))] H := hP
      have hD : va_D A [(aM, .inr (4, [.ref amr, .ref amm, .int w1, .int yha, .int yca, .int ysp, .int yfr, .int yst, .int yda, .int yer, .int yad, .ref apg, .ref atk, .ref ata, .int yse, .int yin, .ref arw, .int ywd, .int ytm, .int ybg, .int yan, .int ybs, .int yva, .int ynu])), (amr, .inl (kmr, 8, .inl (upd ymr (Int32.toNatClampNeg z6) z7))), (amm, .inl (kmm, 64, .inl ymm)), (apg, .inl (kpg, 4, .inl ypg)), (atk, .inl (ktk, 2, .inl ytk)), (ata, .inl (kta, 2, .inl yta)), (arw, .inl (krw, 22, .inl yrw))] := hD
      refine lv_aload_n hx hb dX4_step_212 rfl (lv_at hl 0 rfl) ?_
      refine lv_iload_n hx hb dX4_step_213 rfl (lv_at hl 1 rfl) ?_
      obtain ⟨v214, hv, h⟩ := bn_ex h
      have hPc := hP.sub (ws' := [(aM, .inr (4, [.ref amr, .ref amm, .int w1, .int yha, .int yca, .int ysp, .int yfr, .int yst, .int yda, .int yer, .int yad, .ref apg, .ref atk, .ref ata, .int yse, .int yin, .ref arw, .int ywd, .int ytm, .int ybg, .int yan, .int ybs, .int yva, .int ynu])), (amr, .inl (kmr, 8, .inl (upd ymr (Int32.toNatClampNeg z6) z7))), (amm, .inl (kmm, 64, .inl ymm)), (apg, .inl (kpg, 4, .inl ypg)), (atk, .inl (ktk, 2, .inl ytk)), (ata, .inl (kta, 2, .inl yta)), (arw, .inl (krw, 22, .inl yrw))]) [0, 1, 2, 3, 4, 5, 6] rfl
      have hDc := hD.sub (ws' := [(aM, .inr (4, [.ref amr, .ref amm, .int w1, .int yha, .int yca, .int ysp, .int yfr, .int yst, .int yda, .int yer, .int yad, .ref apg, .ref atk, .ref ata, .int yse, .int yin, .ref arw, .int ywd, .int ytm, .int ybg, .int yan, .int ybs, .int yva, .int ynu])), (amr, .inl (kmr, 8, .inl (upd ymr (Int32.toNatClampNeg z6) z7))), (amm, .inl (kmm, 64, .inl ymm)), (apg, .inl (kpg, 4, .inl ypg)), (atk, .inl (ktk, 2, .inl ytk)), (ata, .inl (kta, 2, .inl yta)), (arw, .inl (krw, 22, .inl yrw))]) [0, 1, 2, 3, 4, 5, 6] (by decide) rfl
      have hKc := hK.sub (tys' := [(kmr, .int), (kmm, .int), (kpg, .int), (ktk, .int), (kta, .int), (krw, .int)]) [0, 1, 2, 3, 4, 5] rfl
      have hFc := va_free (wc := [(aM, .inr (4, [.ref amr, .ref amm, .int w1, .int yha, .int yca, .int ysp, .int yfr, .int yst, .int yda, .int yer, .int yad, .ref apg, .ref atk, .ref ata, .int yse, .int yin, .ref arw, .int ywd, .int ytm, .int ybg, .int yan, .int ybs, .int yva, .int ynu])), (amr, .inl (kmr, 8, .inl (upd ymr (Int32.toNatClampNeg z6) z7))), (amm, .inl (kmm, 64, .inl ymm)), (apg, .inl (kpg, 4, .inl ypg)), (atk, .inl (ktk, 2, .inl ytk)), (ata, .inl (kta, 2, .inl yta)), (arw, .inl (krw, 22, .inl yrw))]) hD hS hA [0, 1, 2, 3, 4, 5, 6] rfl
      refine va_callv (va_runV (As := [.int z1]) (rest := []) ⟨hx, hb, hml, hown, hts⟩ (ct_M_work l dC dI aM amr amm apg atk ata arw kmr kmm kpg ktk kta krw H.size (upd ymr (Int32.toNatClampNeg z6) z7) ymm w1 yha yca ysp yfr yst yda yer yad ypg ytk yta yse yin yrw ywd ytm ybg yan ybs yva ynu z1 v214 hv) (cwV 1 hts gX4_step_X4_work rfl rfl rfl (by decide +kernel) ⟨Nat.le_of_ble_eq_true rfl, Nat.le_of_ble_eq_true rfl⟩) ⟨fun a U g mk q => by obtain ⟨q0, q1, qP, qK, qD⟩ := q; exact ⟨q0, q1, qP, va_K.moved (u := U) (U := U.calling g mk a) (Vm.Alike.refl U.vm) qK, qD⟩, va_recv (ci := 4) (q0 := 0) hK hP rfl rfl, fun U hU hW => ⟨rfl, by rw [hU], by rw [hU]; exact hPc, va_K.moved hW.alike hKc, hDc.weaken (fun _ _ _ _ => trivial)⟩⟩ rfl rfl hl.1 rfl (lv_room (Nat.le_of_ble_eq_true rfl)) dX4_step_214 ⟨Nat.zero_le _, Nat.zero_le _⟩) hS (fun q _ h => hFc q h) hFc (fun u t H locs ht hvm hw hB hz1 hk1 hS => ?_)
      obtain rfl := pr_0 hw
      obtain ⟨hP1, hD1⟩ := hB
      rw [ht] at hP1
      obtain ⟨hP, hD⟩ := va_join (wr := []) (w1 := [(aM, .inr (4, [.ref amr, .ref amm, .int w1, .int yha, .int yca, .int ysp, .int yfr, .int yst, .int yda, .int yer, .int yad, .ref apg, .ref atk, .ref ata, .int yse, .int yin, .ref arw, .int ywd, .int ytm, .int ybg, .int yan, .int ybs, .int yva, .int ynu])), (amr, .inl (kmr, 8, .inl v214.1)), (amm, .inl (kmm, 64, .inl v214.2)), (apg, .inl (kpg, 4, .inl ypg)), (atk, .inl (ktk, 2, .inl ytk)), (ata, .inl (kta, 2, .inl yta)), (arw, .inl (krw, 22, .inl yrw))]) hP hD [0, 1, 2, 3, 4, 5, 6] [] rfl rfl (by decide) (by decide) hk1 hFc hP1 hD1
      have hP : va_P (dC, dI) vwCl [(aM, .inr (4, [.ref amr, .ref amm, .int w1, .int yha, .int yca, .int ysp, .int yfr, .int yst, .int yda, .int yer, .int yad, .ref apg, .ref atk, .ref ata, .int yse, .int yin, .ref arw, .int ywd, .int ytm, .int ybg, .int yan, .int ybs, .int yva, .int ynu])), (amr, .inl (kmr, 8, .inl v214.1)), (amm, .inl (kmm, 64, .inl v214.2)), (apg, .inl (kpg, 4, .inl ypg)), (atk, .inl (ktk, 2, .inl ytk)), (ata, .inl (kta, 2, .inl yta)), (arw, .inl (krw, 22, .inl yrw))] H := hP
      have hD : va_D A [(aM, .inr (4, [.ref amr, .ref amm, .int w1, .int yha, .int yca, .int ysp, .int yfr, .int yst, .int yda, .int yer, .int yad, .ref apg, .ref atk, .ref ata, .int yse, .int yin, .ref arw, .int ywd, .int ytm, .int ybg, .int yan, .int ybs, .int yva, .int ynu])), (amr, .inl (kmr, 8, .inl v214.1)), (amm, .inl (kmm, 64, .inl v214.2)), (apg, .inl (kpg, 4, .inl ypg)), (atk, .inl (ktk, 2, .inl ytk)), (ata, .inl (kta, 2, .inl yta)), (arw, .inl (krw, 22, .inl yrw))] := hD
      refine lv_aload_n hx hb dX4_step_217 rfl (lv_at hl 0 rfl) ?_
      refine lv_dup hx hb dX4_step_218 rfl ?_
      refine va_get (D := (dC, dI)) (ci := 4) (v := .int yst) (C := RX4) (T := TX4) (N := 24) hx hb hts hinX4 hown hK hP 0 rfl rfl 7 (by decide) hf57 (fun _ h9 => h9) rfl dX4_step_219 ?_
      refine lv_iconst (v := (1 : Int32)) hx hb dX4_step_222 (by decide) ?_
      refine lv_iadd hx hb dX4_step_223 ?_
      refine va_put (D := (dC, dI)) (ci := 4) (v := .int (yst + (1 : Int32))) (ty := .int) (C := RX4) (T := TX4) (N := 24) hx hb hts hinX4 tyX4 tyX4_ok nmX4 hown hK hP hD hS 0 rfl rfl 7 (by decide) hf57 (fun _ h9 => h9) rfl (by decide +kernel) rfl rfl (Nat.le_of_ble_eq_true rfl) dX4_step_224 (fun H locs hP hD hS => ?_)
      have hP : va_P (dC, dI) vwCl [(aM, .inr (4, [.ref amr, .ref amm, .int w1, .int yha, .int yca, .int ysp, .int yfr, .int (yst + (1 : Int32)), .int yda, .int yer, .int yad, .ref apg, .ref atk, .ref ata, .int yse, .int yin, .ref arw, .int ywd, .int ytm, .int ybg, .int yan, .int ybs, .int yva, .int ynu])), (amr, .inl (kmr, 8, .inl v214.1)), (amm, .inl (kmm, 64, .inl v214.2)), (apg, .inl (kpg, 4, .inl ypg)), (atk, .inl (ktk, 2, .inl ytk)), (ata, .inl (kta, 2, .inl yta)), (arw, .inl (krw, 22, .inl yrw))] H := hP
      have hD : va_D A [(aM, .inr (4, [.ref amr, .ref amm, .int w1, .int yha, .int yca, .int ysp, .int yfr, .int (yst + (1 : Int32)), .int yda, .int yer, .int yad, .ref apg, .ref atk, .ref ata, .int yse, .int yin, .ref arw, .int ywd, .int ytm, .int ybg, .int yan, .int ybs, .int yva, .int ynu])), (amr, .inl (kmr, 8, .inl v214.1)), (amm, .inl (kmm, 64, .inl v214.2)), (apg, .inl (kpg, 4, .inl ypg)), (atk, .inl (ktk, 2, .inl ytk)), (ata, .inl (kta, 2, .inl yta)), (arw, .inl (krw, 22, .inl yrw))] := hD
      refine lv_iconst (v := (1 : Int32)) hx hb dX4_step_227 (by decide) ?_
      exact W.zret hx hb hr (kb_n (Or.inr rfl)) (fun t ht hW => ⟨⟨(1 : Int32), (v214.1, v214.2, w1, yha, yca, yfr, (yst + (1 : Int32))), rfl, h, by rw [ht]; exact hP, hD⟩, hS.F ht⟩) hS.2.2 dX4_step_228
  have k_166 : ∀ (H : Heap) (locs : List Loc) (ls : Array Slot) (ymr : (Nat → Int32)) (ymm : (Nat → Int32)) (ypc : Int32) (yha : Int32) (yca : Int32) (yfr : Int32) (yst : Int32) (z1 : Int32) (z2 : Int32) (z3 : Int32) (z4 : Int32) (z6 : Int32) (z7 : Int32) (w0 : Int32), va_P (dC, dI) vwCl [(aM, .inr (4, [.ref amr, .ref amm, .int ypc, .int yha, .int yca, .int ysp, .int yfr, .int yst, .int yda, .int yer, .int yad, .ref apg, .ref atk, .ref ata, .int yse, .int yin, .ref arw, .int ywd, .int ytm, .int ybg, .int yan, .int ybs, .int yva, .int ynu])), (amr, .inl (kmr, 8, .inl ymr)), (amm, .inl (kmm, 64, .inl ymm)), (apg, .inl (kpg, 4, .inl ypg)), (atk, .inl (ktk, 2, .inl ytk)), (ata, .inl (kta, 2, .inl yta)), (arw, .inl (krw, 22, .inl yrw))] H → va_D A [(aM, .inr (4, [.ref amr, .ref amm, .int ypc, .int yha, .int yca, .int ysp, .int yfr, .int yst, .int yda, .int yer, .int yad, .ref apg, .ref atk, .ref ata, .int yse, .int yin, .ref arw, .int ywd, .int ytm, .int ybg, .int yan, .int ybs, .int yva, .int ynu])), (amr, .inl (kmr, 8, .inl ymr)), (amm, .inl (kmm, 64, .inl ymm)), (apg, .inl (kpg, 4, .inl ypg)), (atk, .inl (ktk, 2, .inl ytk)), (ata, .inl (kta, 2, .inl yta)), (arw, .inl (krw, 22, .inl yrw))] → va_S A s.heap H locs → lv_has ls 9 [(0, .ref aM), (1, .int z1), (2, .int z2), (3, .int z3), (4, .int z4), (6, .int z6), (7, .int z7)] → fn_M_step_J166 ymr ymm ypc yha yca yfr yst ytk yta z1 z2 z3 z4 z6 z7 w0 = some o → W p l e (headSpec wsX4_step ({ frames := 1, cells := 0, slots := 0, locals := 25 })).room s m ([.ref aM] : List Value).toArray below meth c H locs 0 0 (MQ below (va_Qi (fun (r : Int32) (u : (Nat → Int32) × (Nat → Int32) × Int32 × Int32 × Int32 × Int32 × Int32) => some (r, u) = some o) (fun (u : (Nat → Int32) × (Nat → Int32) × Int32 × Int32 × Int32 × Int32 × Int32) (t : State) => va_P (dC, dI) vwCl [(aM, .inr (4, [.ref amr, .ref amm, .int u.2.2.1, .int u.2.2.2.1, .int u.2.2.2.2.1, .int ysp, .int u.2.2.2.2.2.1, .int u.2.2.2.2.2.2, .int yda, .int yer, .int yad, .ref apg, .ref atk, .ref ata, .int yse, .int yin, .ref arw, .int ywd, .int ytm, .int ybg, .int yan, .int ybs, .int yva, .int ynu])), (amr, .inl (kmr, 8, .inl u.1)), (amm, .inl (kmm, 64, .inl u.2.1)), (apg, .inl (kpg, 4, .inl ypg)), (atk, .inl (ktk, 2, .inl ytk)), (ata, .inl (kta, 2, .inl yta)), (arw, .inl (krw, 22, .inl yrw))] t.heap ∧ va_D A [(aM, .inr (4, [.ref amr, .ref amm, .int u.2.2.1, .int u.2.2.2.1, .int u.2.2.2.2.1, .int ysp, .int u.2.2.2.2.2.1, .int u.2.2.2.2.2.2, .int yda, .int yer, .int yad, .ref apg, .ref atk, .ref ata, .int yse, .int yin, .ref arw, .int ywd, .int ytm, .int ybg, .int yan, .int ybs, .int yva, .int ynu])), (amr, .inl (kmr, 8, .inl u.1)), (amm, .inl (kmm, 64, .inl u.2.1)), (apg, .inl (kpg, 4, .inl ypg)), (atk, .inl (ktk, 2, .inl ytk)), (ata, .inl (kta, 2, .inl yta)), (arw, .inl (krw, 22, .inl yrw))]) A) ([.ref aM] : List Value).toArray s 0 0 A) (F0 m 166 ls [.int w0]) := by
    intro H locs ls ymr ymm ypc yha yca yfr yst z1 z2 z3 z4 z6 z7 w0 hP hD hS hl h
    unfold fn_M_step_J166 at h
    refine lv_istore hx hb dX4_step_166 hl (by decide) rfl (fun ls hl => ?_)
    have hl : lv_has ls 9 [(8, .int w0), (0, .ref aM), (1, .int z1), (2, .int z2), (3, .int z3), (4, .int z4), (6, .int z6), (7, .int z7)] := hl
    refine lv_aload_n hx hb dX4_step_168 rfl (lv_at hl 1 rfl) ?_
    refine lv_iload hx hb dX4_step_169 (lv_at hl 0 rfl) ?_
    refine lv_if_eq (tgt := 179) hx hb dX4_step_171 (by decide) (fun hc => ?_) (fun hc => ?_)
    · have h := if_y h hc
      refine lv_iload_n hx hb dX4_step_179 rfl (lv_at hl 3 rfl) ?_
      refine lv_bipush (v := (9 : Int32)) hx hb dX4_step_180 (by decide) ?_
      refine lv_icmp_ne (tgt := 192) hx hb dX4_step_182 (by decide) (fun hc => ?_) (fun hc => ?_)
      · have h := if_n h hc
        refine lv_iload hx hb dX4_step_192 (lv_at hl 7 rfl) ?_
        exact k_194 _ _ _ _ _ _ _ _ _ _ _ _ _ _ _ hP hD hS (lv_sub hl [1, 2, 3, 6, 7] rfl) h
      · have h := if_y h hc
        refine lv_iload_n hx hb dX4_step_185 rfl (lv_at hl 4 rfl) ?_
        refine lv_bipush (v := (64 : Int32)) hx hb dX4_step_186 (by decide) ?_
        refine lv_irem hx hb dX4_step_188 (by decide) ?_
        refine lv_goto (tgt := 194) hx hb dX4_step_189 (by decide) ?_
        exact k_194 _ _ _ _ _ _ _ _ _ _ _ _ _ _ _ hP hD hS (lv_sub hl [1, 2, 3, 6, 7] rfl) h
    · have h := if_n h hc
      refine lv_iload hx hb dX4_step_174 (lv_at hl 5 rfl) ?_
      refine lv_goto (tgt := 194) hx hb dX4_step_176 (by decide) ?_
      exact k_194 _ _ _ _ _ _ _ _ _ _ _ _ _ _ _ hP hD hS (lv_sub hl [1, 2, 3, 6, 7] rfl) h
  have k_89 : ∀ (H : Heap) (locs : List Loc) (ls : Array Slot) (ymr : (Nat → Int32)) (ymm : (Nat → Int32)) (ypc : Int32) (yha : Int32) (yca : Int32) (yfr : Int32) (yst : Int32) (z1 : Int32) (z2 : Int32) (z3 : Int32) (z4 : Int32), va_P (dC, dI) vwCl [(aM, .inr (4, [.ref amr, .ref amm, .int ypc, .int yha, .int yca, .int ysp, .int yfr, .int yst, .int yda, .int yer, .int yad, .ref apg, .ref atk, .ref ata, .int yse, .int yin, .ref arw, .int ywd, .int ytm, .int ybg, .int yan, .int ybs, .int yva, .int ynu])), (amr, .inl (kmr, 8, .inl ymr)), (amm, .inl (kmm, 64, .inl ymm)), (apg, .inl (kpg, 4, .inl ypg)), (atk, .inl (ktk, 2, .inl ytk)), (ata, .inl (kta, 2, .inl yta)), (arw, .inl (krw, 22, .inl yrw))] H → va_D A [(aM, .inr (4, [.ref amr, .ref amm, .int ypc, .int yha, .int yca, .int ysp, .int yfr, .int yst, .int yda, .int yer, .int yad, .ref apg, .ref atk, .ref ata, .int yse, .int yin, .ref arw, .int ywd, .int ytm, .int ybg, .int yan, .int ybs, .int yva, .int ynu])), (amr, .inl (kmr, 8, .inl ymr)), (amm, .inl (kmm, 64, .inl ymm)), (apg, .inl (kpg, 4, .inl ypg)), (atk, .inl (ktk, 2, .inl ytk)), (ata, .inl (kta, 2, .inl yta)), (arw, .inl (krw, 22, .inl yrw))] → va_S A s.heap H locs → lv_has ls 9 [(0, .ref aM), (1, .int z1), (2, .int z2), (3, .int z3), (4, .int z4)] → fn_M_step_J89 ymr ymm ypc yha yca yfr yst ytk yta z1 z2 z3 z4 = some o → W p l e (headSpec wsX4_step ({ frames := 1, cells := 0, slots := 0, locals := 25 })).room s m ([.ref aM] : List Value).toArray below meth c H locs 0 0 (MQ below (va_Qi (fun (r : Int32) (u : (Nat → Int32) × (Nat → Int32) × Int32 × Int32 × Int32 × Int32 × Int32) => some (r, u) = some o) (fun (u : (Nat → Int32) × (Nat → Int32) × Int32 × Int32 × Int32 × Int32 × Int32) (t : State) => va_P (dC, dI) vwCl [(aM, .inr (4, [.ref amr, .ref amm, .int u.2.2.1, .int u.2.2.2.1, .int u.2.2.2.2.1, .int ysp, .int u.2.2.2.2.2.1, .int u.2.2.2.2.2.2, .int yda, .int yer, .int yad, .ref apg, .ref atk, .ref ata, .int yse, .int yin, .ref arw, .int ywd, .int ytm, .int ybg, .int yan, .int ybs, .int yva, .int ynu])), (amr, .inl (kmr, 8, .inl u.1)), (amm, .inl (kmm, 64, .inl u.2.1)), (apg, .inl (kpg, 4, .inl ypg)), (atk, .inl (ktk, 2, .inl ytk)), (ata, .inl (kta, 2, .inl yta)), (arw, .inl (krw, 22, .inl yrw))] t.heap ∧ va_D A [(aM, .inr (4, [.ref amr, .ref amm, .int u.2.2.1, .int u.2.2.2.1, .int u.2.2.2.2.1, .int ysp, .int u.2.2.2.2.2.1, .int u.2.2.2.2.2.2, .int yda, .int yer, .int yad, .ref apg, .ref atk, .ref ata, .int yse, .int yin, .ref arw, .int ywd, .int ytm, .int ybg, .int yan, .int ybs, .int yva, .int ynu])), (amr, .inl (kmr, 8, .inl u.1)), (amm, .inl (kmm, 64, .inl u.2.1)), (apg, .inl (kpg, 4, .inl ypg)), (atk, .inl (ktk, 2, .inl ytk)), (ata, .inl (kta, 2, .inl yta)), (arw, .inl (krw, 22, .inl yrw))]) A) ([.ref aM] : List Value).toArray s 0 0 A) (F0 m 89 ls []) := by
    intro H locs ls ymr ymm ypc yha yca yfr yst z1 z2 z3 z4 hP hD hS hl h
    unfold fn_M_step_J89 at h
    refine lv_iload_n hx hb dX4_step_89 rfl (lv_at hl 2 rfl) ?_
    refine lv_bipush (v := (10 : Int32)) hx hb dX4_step_90 (by decide) ?_
    refine lv_icmp_ne (tgt := 102) hx hb dX4_step_92 (by decide) (fun hc => ?_) (fun hc => ?_)
    · have h := if_n h hc
      refine lv_iload_n hx hb dX4_step_102 rfl (lv_at hl 1 rfl) ?_
      refine lv_bipush (v := (9 : Int32)) hx hb dX4_step_103 (by decide) ?_
      refine lv_ishr hx hb dX4_step_105 ?_
      refine lv_bipush (v := (7 : Int32)) hx hb dX4_step_106 (by decide) ?_
      refine lv_iand hx hb dX4_step_108 ?_
      refine lv_istore hx hb dX4_step_109 hl (by decide) rfl (fun ls hl => ?_)
      have hl : lv_has ls 9 [(6, .int ((z1 >>> ((9 : Int32) &&& (31 : Int32))) &&& (7 : Int32))), (0, .ref aM), (1, .int z1), (2, .int z2), (3, .int z3), (4, .int z4)] := hl
      refine lv_aload_n hx hb dX4_step_111 rfl (lv_at hl 1 rfl) ?_
      refine va_get (D := (dC, dI)) (ci := 4) (v := .int ypc) (C := RX4) (T := TX4) (N := 24) hx hb hts hinX4 hown hK hP 0 rfl rfl 2 (by decide) hf40 (fun _ h9 => h9) rfl dX4_step_112 ?_
      refine lv_iconst (v := (1 : Int32)) hx hb dX4_step_115 (by decide) ?_
      refine lv_iadd hx hb dX4_step_116 ?_
      refine lv_bipush (v := (64 : Int32)) hx hb dX4_step_117 (by decide) ?_
      refine lv_irem hx hb dX4_step_119 (by decide) ?_
      refine lv_istore hx hb dX4_step_120 hl (by decide) rfl (fun ls hl => ?_)
      have hl : lv_has ls 9 [(7, .int ((ypc + (1 : Int32)) - (ypc + (1 : Int32)) / (64 : Int32) * (64 : Int32))), (6, .int ((z1 >>> ((9 : Int32) &&& (31 : Int32))) &&& (7 : Int32))), (0, .ref aM), (1, .int z1), (2, .int z2), (3, .int z3), (4, .int z4)] := hl
      refine lv_iload_n hx hb dX4_step_122 rfl (lv_at hl 4 rfl) ?_
      refine lv_bipush (v := (6 : Int32)) hx hb dX4_step_123 (by decide) ?_
      refine lv_icmp_eq (tgt := 161) hx hb dX4_step_125 (by decide) (fun hc => ?_) (fun hc => ?_)
      · have h := if_y h hc
        refine lv_iconst (v := (1 : Int32)) hx hb dX4_step_161 (by decide) ?_
        refine lv_goto (tgt := 166) hx hb dX4_step_162 (by decide) ?_
        exact k_166 _ _ _ _ _ _ _ _ _ _ _ _ _ _ _ _ _ hP hD hS (lv_sub hl [2, 3, 4, 5, 6, 1, 0] rfl) h
      · have h := if_n h hc
        refine lv_iload_n hx hb dX4_step_128 rfl (lv_at hl 4 rfl) ?_
        refine lv_bipush (v := (7 : Int32)) hx hb dX4_step_129 (by decide) ?_
        refine lv_icmp_ne (tgt := 144) hx hb dX4_step_131 (by decide) (fun hc => ?_) (fun hc => ?_)
        · have h := if_n h hc
          refine lv_iload_n hx hb dX4_step_144 rfl (lv_at hl 4 rfl) ?_
          refine lv_bipush (v := (8 : Int32)) hx hb dX4_step_145 (by decide) ?_
          refine lv_icmp_ne (tgt := 165) hx hb dX4_step_147 (by decide) (fun hc => ?_) (fun hc => ?_)
          · have h := if_n h hc
            refine lv_iconst (v := (0 : Int32)) hx hb dX4_step_165 (by decide) ?_
            exact k_166 _ _ _ _ _ _ _ _ _ _ _ _ _ _ _ _ _ hP hD hS (lv_sub hl [2, 3, 4, 5, 6, 1, 0] rfl) h
          · have h := if_y h hc
            refine lv_aload_n hx hb dX4_step_150 rfl (lv_at hl 2 rfl) ?_
            refine va_get (D := (dC, dI)) (ci := 4) (v := .ref amr) (C := RX4) (T := TX4) (N := 24) hx hb hts hinX4 hown hK hP 0 rfl rfl 0 (by decide) hf7 (fun _ h9 => h9) rfl dX4_step_151 ?_
            refine lv_iload hx hb dX4_step_154 (lv_at hl 1 rfl) ?_
            obtain ⟨hi, h⟩ := ck_in h
            refine va_iald hx hb hK hP 1 0 rfl rfl hi dX4_step_156 ?_
            refine lv_iload_n hx hb dX4_step_157 rfl (lv_at hl 5 rfl) ?_
            refine lv_icmp_ge (tgt := 165) hx hb dX4_step_158 (by decide) (fun hc => ?_) (fun hc => ?_)
            · have h := if_y h hc
              refine lv_iconst (v := (0 : Int32)) hx hb dX4_step_165 (by decide) ?_
              exact k_166 _ _ _ _ _ _ _ _ _ _ _ _ _ _ _ _ _ hP hD hS (lv_sub hl [2, 3, 4, 5, 6, 1, 0] rfl) h
            · have h := if_n h hc
              refine lv_iconst (v := (1 : Int32)) hx hb dX4_step_161 (by decide) ?_
              refine lv_goto (tgt := 166) hx hb dX4_step_162 (by decide) ?_
              exact k_166 _ _ _ _ _ _ _ _ _ _ _ _ _ _ _ _ _ hP hD hS (lv_sub hl [2, 3, 4, 5, 6, 1, 0] rfl) h
        · have h := if_y h hc
          refine lv_aload_n hx hb dX4_step_134 rfl (lv_at hl 2 rfl) ?_
          refine va_get (D := (dC, dI)) (ci := 4) (v := .ref amr) (C := RX4) (T := TX4) (N := 24) hx hb hts hinX4 hown hK hP 0 rfl rfl 0 (by decide) hf7 (fun _ h9 => h9) rfl dX4_step_135 ?_
          refine lv_iload hx hb dX4_step_138 (lv_at hl 1 rfl) ?_
          obtain ⟨hi, h⟩ := ck_in h
          refine va_iald hx hb hK hP 1 0 rfl rfl hi dX4_step_140 ?_
          refine lv_if_eq (tgt := 161) hx hb dX4_step_141 (by decide) (fun hc => ?_) (fun hc => ?_)
          · have h := if_y h hc
            refine lv_iconst (v := (1 : Int32)) hx hb dX4_step_161 (by decide) ?_
            refine lv_goto (tgt := 166) hx hb dX4_step_162 (by decide) ?_
            exact k_166 _ _ _ _ _ _ _ _ _ _ _ _ _ _ _ _ _ hP hD hS (lv_sub hl [2, 3, 4, 5, 6, 1, 0] rfl) h
          · have h := if_n h hc
            refine lv_iload_n hx hb dX4_step_144 rfl (lv_at hl 4 rfl) ?_
            refine lv_bipush (v := (8 : Int32)) hx hb dX4_step_145 (by decide) ?_
            refine lv_icmp_ne (tgt := 165) hx hb dX4_step_147 (by decide) (fun hc => ?_) (fun hc => ?_)
            · have h := if_n h hc
              refine lv_iconst (v := (0 : Int32)) hx hb dX4_step_165 (by decide) ?_
              exact k_166 _ _ _ _ _ _ _ _ _ _ _ _ _ _ _ _ _ hP hD hS (lv_sub hl [2, 3, 4, 5, 6, 1, 0] rfl) h
            · have h := if_y h hc
              refine lv_aload_n hx hb dX4_step_150 rfl (lv_at hl 2 rfl) ?_
              refine va_get (D := (dC, dI)) (ci := 4) (v := .ref amr) (C := RX4) (T := TX4) (N := 24) hx hb hts hinX4 hown hK hP 0 rfl rfl 0 (by decide) hf7 (fun _ h9 => h9) rfl dX4_step_151 ?_
              refine lv_iload hx hb dX4_step_154 (lv_at hl 1 rfl) ?_
              obtain ⟨hi, h⟩ := ck_in h
              refine va_iald hx hb hK hP 1 0 rfl rfl hi dX4_step_156 ?_
              refine lv_iload_n hx hb dX4_step_157 rfl (lv_at hl 5 rfl) ?_
              refine lv_icmp_ge (tgt := 165) hx hb dX4_step_158 (by decide) (fun hc => ?_) (fun hc => ?_)
              · have h := if_y h hc
                refine lv_iconst (v := (0 : Int32)) hx hb dX4_step_165 (by decide) ?_
                exact k_166 _ _ _ _ _ _ _ _ _ _ _ _ _ _ _ _ _ hP hD hS (lv_sub hl [2, 3, 4, 5, 6, 1, 0] rfl) h
              · have h := if_n h hc
                refine lv_iconst (v := (1 : Int32)) hx hb dX4_step_161 (by decide) ?_
                refine lv_goto (tgt := 166) hx hb dX4_step_162 (by decide) ?_
                exact k_166 _ _ _ _ _ _ _ _ _ _ _ _ _ _ _ _ _ hP hD hS (lv_sub hl [2, 3, 4, 5, 6, 1, 0] rfl) h
    · have h := if_y h hc
      refine lv_aload_n hx hb dX4_step_95 rfl (lv_at hl 0 rfl) ?_
      refine lv_iconst (v := (1 : Int32)) hx hb dX4_step_96 (by decide) ?_
      obtain ⟨v97, hv, h⟩ := bn_ex h
      have hPc := hP.sub (ws' := [(aM, .inr (4, [.ref amr, .ref amm, .int ypc, .int yha, .int yca, .int ysp, .int yfr, .int yst, .int yda, .int yer, .int yad, .ref apg, .ref atk, .ref ata, .int yse, .int yin, .ref arw, .int ywd, .int ytm, .int ybg, .int yan, .int ybs, .int yva, .int ynu])), (amr, .inl (kmr, 8, .inl ymr)), (amm, .inl (kmm, 64, .inl ymm)), (apg, .inl (kpg, 4, .inl ypg)), (atk, .inl (ktk, 2, .inl ytk)), (ata, .inl (kta, 2, .inl yta)), (arw, .inl (krw, 22, .inl yrw))]) [0, 1, 2, 3, 4, 5, 6] rfl
      have hDc := hD.sub (ws' := [(aM, .inr (4, [.ref amr, .ref amm, .int ypc, .int yha, .int yca, .int ysp, .int yfr, .int yst, .int yda, .int yer, .int yad, .ref apg, .ref atk, .ref ata, .int yse, .int yin, .ref arw, .int ywd, .int ytm, .int ybg, .int yan, .int ybs, .int yva, .int ynu])), (amr, .inl (kmr, 8, .inl ymr)), (amm, .inl (kmm, 64, .inl ymm)), (apg, .inl (kpg, 4, .inl ypg)), (atk, .inl (ktk, 2, .inl ytk)), (ata, .inl (kta, 2, .inl yta)), (arw, .inl (krw, 22, .inl yrw))]) [0, 1, 2, 3, 4, 5, 6] (by decide) rfl
      have hKc := hK.sub (tys' := [(kmr, .int), (kmm, .int), (kpg, .int), (ktk, .int), (kta, .int), (krw, .int)]) [0, 1, 2, 3, 4, 5] rfl
      have hFc := va_free (wc := [(aM, .inr (4, [.ref amr, .ref amm, .int ypc, .int yha, .int yca, .int ysp, .int yfr, .int yst, .int yda, .int yer, .int yad, .ref apg, .ref atk, .ref ata, .int yse, .int yin, .ref arw, .int ywd, .int ytm, .int ybg, .int yan, .int ybs, .int yva, .int ynu])), (amr, .inl (kmr, 8, .inl ymr)), (amm, .inl (kmm, 64, .inl ymm)), (apg, .inl (kpg, 4, .inl ypg)), (atk, .inl (ktk, 2, .inl ytk)), (ata, .inl (kta, 2, .inl yta)), (arw, .inl (krw, 22, .inl yrw))]) hD hS hA [0, 1, 2, 3, 4, 5, 6] rfl
      refine va_callv (va_runV (As := [.int (1 : Int32)]) (rest := []) ⟨hx, hb, hml, hown, hts⟩ (ct_M_halt l dC dI aM amr amm apg atk ata arw kmr kmm kpg ktk kta krw H.size ymr ymm ypc yha yca ysp yfr yst yda yer yad ypg ytk yta yse yin yrw ywd ytm ybg yan ybs yva ynu (1 : Int32) v97 hv) (cwV 1 hts gX4_step_X4_halt rfl rfl rfl (by decide +kernel) ⟨Nat.le_of_ble_eq_true rfl, Nat.le_of_ble_eq_true rfl⟩) ⟨fun a U g mk q => by obtain ⟨q0, q1, qP, qK, qD⟩ := q; exact ⟨q0, q1, qP, va_K.moved (u := U) (U := U.calling g mk a) (Vm.Alike.refl U.vm) qK, qD⟩, va_recv (ci := 4) (q0 := 0) hK hP rfl rfl, fun U hU hW => ⟨rfl, by rw [hU], by rw [hU]; exact hPc, va_K.moved hW.alike hKc, hDc.weaken (fun _ _ _ _ => trivial)⟩⟩ rfl rfl hl.1 rfl (lv_room (Nat.le_of_ble_eq_true rfl)) dX4_step_97 ⟨Nat.zero_le _, Nat.zero_le _⟩) hS (fun q _ h => hFc q h) hFc (fun u t H locs ht hvm hw hB hz1 hk1 hS => ?_)
      obtain rfl := pr_0 hw
      obtain ⟨hP1, hD1⟩ := hB
      rw [ht] at hP1
      obtain ⟨hP, hD⟩ := va_join (wr := []) (w1 := [(aM, .inr (4, [.ref amr, .ref amm, .int ypc, .int v97.1, .int v97.2, .int ysp, .int yfr, .int yst, .int yda, .int yer, .int yad, .ref apg, .ref atk, .ref ata, .int yse, .int yin, .ref arw, .int ywd, .int ytm, .int ybg, .int yan, .int ybs, .int yva, .int ynu])), (amr, .inl (kmr, 8, .inl ymr)), (amm, .inl (kmm, 64, .inl ymm)), (apg, .inl (kpg, 4, .inl ypg)), (atk, .inl (ktk, 2, .inl ytk)), (ata, .inl (kta, 2, .inl yta)), (arw, .inl (krw, 22, .inl yrw))]) hP hD [0, 1, 2, 3, 4, 5, 6] [] rfl rfl (by decide) (by decide) hk1 hFc hP1 hD1
      have hP : va_P (dC, dI) vwCl [(aM, .inr (4, [.ref amr, .ref amm, .int ypc, .int v97.1, .int v97.2, .int ysp, .int yfr, .int yst, .int yda, .int yer, .int yad, .ref apg, .ref atk, .ref ata, .int yse, .int yin, .ref arw, .int ywd, .int ytm, .int ybg, .int yan, .int ybs, .int yva, .int ynu])), (amr, .inl (kmr, 8, .inl ymr)), (amm, .inl (kmm, 64, .inl ymm)), (apg, .inl (kpg, 4, .inl ypg)), (atk, .inl (ktk, 2, .inl ytk)), (ata, .inl (kta, 2, .inl yta)), (arw, .inl (krw, 22, .inl yrw))] H := hP
      have hD : va_D A [(aM, .inr (4, [.ref amr, .ref amm, .int ypc, .int v97.1, .int v97.2, .int ysp, .int yfr, .int yst, .int yda, .int yer, .int yad, .ref apg, .ref atk, .ref ata, .int yse, .int yin, .ref arw, .int ywd, .int ytm, .int ybg, .int yan, .int ybs, .int yva, .int ynu])), (amr, .inl (kmr, 8, .inl ymr)), (amm, .inl (kmm, 64, .inl ymm)), (apg, .inl (kpg, 4, .inl ypg)), (atk, .inl (ktk, 2, .inl ytk)), (ata, .inl (kta, 2, .inl yta)), (arw, .inl (krw, 22, .inl yrw))] := hD
      refine lv_iconst (v := (0 : Int32)) hx hb dX4_step_100 (by decide) ?_
      exact W.zret hx hb hr (kb_n (Or.inl rfl)) (fun t ht hW => ⟨⟨(0 : Int32), (ymr, ymm, ypc, v97.1, v97.2, yfr, yst), rfl, h, by rw [ht]; exact hP, hD⟩, hS.F ht⟩) hS.2.2 dX4_step_101
  have k_62 : ∀ (H : Heap) (locs : List Loc) (ls : Array Slot) (ymr : (Nat → Int32)) (ymm : (Nat → Int32)) (ypc : Int32) (yha : Int32) (yca : Int32) (yfr : Int32) (yst : Int32) (z1 : Int32) (z2 : Int32) (z3 : Int32) (z4 : Int32), va_P (dC, dI) vwCl [(aM, .inr (4, [.ref amr, .ref amm, .int ypc, .int yha, .int yca, .int ysp, .int yfr, .int yst, .int yda, .int yer, .int yad, .ref apg, .ref atk, .ref ata, .int yse, .int yin, .ref arw, .int ywd, .int ytm, .int ybg, .int yan, .int ybs, .int yva, .int ynu])), (amr, .inl (kmr, 8, .inl ymr)), (amm, .inl (kmm, 64, .inl ymm)), (apg, .inl (kpg, 4, .inl ypg)), (atk, .inl (ktk, 2, .inl ytk)), (ata, .inl (kta, 2, .inl yta)), (arw, .inl (krw, 22, .inl yrw))] H → va_D A [(aM, .inr (4, [.ref amr, .ref amm, .int ypc, .int yha, .int yca, .int ysp, .int yfr, .int yst, .int yda, .int yer, .int yad, .ref apg, .ref atk, .ref ata, .int yse, .int yin, .ref arw, .int ywd, .int ytm, .int ybg, .int yan, .int ybs, .int yva, .int ynu])), (amr, .inl (kmr, 8, .inl ymr)), (amm, .inl (kmm, 64, .inl ymm)), (apg, .inl (kpg, 4, .inl ypg)), (atk, .inl (ktk, 2, .inl ytk)), (ata, .inl (kta, 2, .inl yta)), (arw, .inl (krw, 22, .inl yrw))] → va_S A s.heap H locs → lv_has ls 9 [(0, .ref aM), (1, .int z1), (2, .int z2), (3, .int z3), (4, .int z4)] → fn_M_step_J62 ymr ymm ypc yha yca yfr yst ytk yta z1 z2 z3 z4 = some o → W p l e (headSpec wsX4_step ({ frames := 1, cells := 0, slots := 0, locals := 25 })).room s m ([.ref aM] : List Value).toArray below meth c H locs 0 0 (MQ below (va_Qi (fun (r : Int32) (u : (Nat → Int32) × (Nat → Int32) × Int32 × Int32 × Int32 × Int32 × Int32) => some (r, u) = some o) (fun (u : (Nat → Int32) × (Nat → Int32) × Int32 × Int32 × Int32 × Int32 × Int32) (t : State) => va_P (dC, dI) vwCl [(aM, .inr (4, [.ref amr, .ref amm, .int u.2.2.1, .int u.2.2.2.1, .int u.2.2.2.2.1, .int ysp, .int u.2.2.2.2.2.1, .int u.2.2.2.2.2.2, .int yda, .int yer, .int yad, .ref apg, .ref atk, .ref ata, .int yse, .int yin, .ref arw, .int ywd, .int ytm, .int ybg, .int yan, .int ybs, .int yva, .int ynu])), (amr, .inl (kmr, 8, .inl u.1)), (amm, .inl (kmm, 64, .inl u.2.1)), (apg, .inl (kpg, 4, .inl ypg)), (atk, .inl (ktk, 2, .inl ytk)), (ata, .inl (kta, 2, .inl yta)), (arw, .inl (krw, 22, .inl yrw))] t.heap ∧ va_D A [(aM, .inr (4, [.ref amr, .ref amm, .int u.2.2.1, .int u.2.2.2.1, .int u.2.2.2.2.1, .int ysp, .int u.2.2.2.2.2.1, .int u.2.2.2.2.2.2, .int yda, .int yer, .int yad, .ref apg, .ref atk, .ref ata, .int yse, .int yin, .ref arw, .int ywd, .int ytm, .int ybg, .int yan, .int ybs, .int yva, .int ynu])), (amr, .inl (kmr, 8, .inl u.1)), (amm, .inl (kmm, 64, .inl u.2.1)), (apg, .inl (kpg, 4, .inl ypg)), (atk, .inl (ktk, 2, .inl ytk)), (ata, .inl (kta, 2, .inl yta)), (arw, .inl (krw, 22, .inl yrw))]) A) ([.ref aM] : List Value).toArray s 0 0 A) (F0 m 62 ls []) := by
    intro H locs ls ymr ymm ypc yha yca yfr yst z1 z2 z3 z4 hP hD hS hl h
    unfold fn_M_step_J62 at h
    refine lv_iload_n hx hb dX4_step_62 rfl (lv_at hl 2 rfl) ?_
    refine lv_iconst (v := (5 : Int32)) hx hb dX4_step_63 (by decide) ?_
    refine lv_icmp_ne (tgt := 89) hx hb dX4_step_64 (by decide) (fun hc => ?_) (fun hc => ?_)
    · have h := if_n h hc
      exact k_89 _ _ _ _ _ _ _ _ _ _ _ _ _ _ hP hD hS hl h
    · have h := if_y h hc
      refine lv_aload_n hx hb dX4_step_67 rfl (lv_at hl 0 rfl) ?_
      refine lv_iconst (v := (2 : Int32)) hx hb dX4_step_68 (by decide) ?_
      refine lv_iload_n hx hb dX4_step_69 rfl (lv_at hl 3 rfl) ?_
      refine lv_iload hx hb dX4_step_70 (lv_at hl 4 rfl) ?_
      refine lv_iadd hx hb dX4_step_72 ?_
      refine lv_bipush (v := (64 : Int32)) hx hb dX4_step_73 (by decide) ?_
      refine lv_irem hx hb dX4_step_75 (by decide) ?_
      obtain ⟨v76, hv, h⟩ := bn_ex h
      have hPc := hP.sub (ws' := [(aM, .inr (4, [.ref amr, .ref amm, .int ypc, .int yha, .int yca, .int ysp, .int yfr, .int yst, .int yda, .int yer, .int yad, .ref apg, .ref atk, .ref ata, .int yse, .int yin, .ref arw, .int ywd, .int ytm, .int ybg, .int yan, .int ybs, .int yva, .int ynu])), (amr, .inl (kmr, 8, .inl ymr)), (amm, .inl (kmm, 64, .inl ymm)), (apg, .inl (kpg, 4, .inl ypg)), (atk, .inl (ktk, 2, .inl ytk)), (ata, .inl (kta, 2, .inl yta)), (arw, .inl (krw, 22, .inl yrw))]) [0, 1, 2, 3, 4, 5, 6] rfl
      have hDc := hD.sub (ws' := [(aM, .inr (4, [.ref amr, .ref amm, .int ypc, .int yha, .int yca, .int ysp, .int yfr, .int yst, .int yda, .int yer, .int yad, .ref apg, .ref atk, .ref ata, .int yse, .int yin, .ref arw, .int ywd, .int ytm, .int ybg, .int yan, .int ybs, .int yva, .int ynu])), (amr, .inl (kmr, 8, .inl ymr)), (amm, .inl (kmm, 64, .inl ymm)), (apg, .inl (kpg, 4, .inl ypg)), (atk, .inl (ktk, 2, .inl ytk)), (ata, .inl (kta, 2, .inl yta)), (arw, .inl (krw, 22, .inl yrw))]) [0, 1, 2, 3, 4, 5, 6] (by decide) rfl
      have hKc := hK.sub (tys' := [(kmr, .int), (kmm, .int), (kpg, .int), (ktk, .int), (kta, .int), (krw, .int)]) [0, 1, 2, 3, 4, 5] rfl
      have hFc := va_free (wc := [(aM, .inr (4, [.ref amr, .ref amm, .int ypc, .int yha, .int yca, .int ysp, .int yfr, .int yst, .int yda, .int yer, .int yad, .ref apg, .ref atk, .ref ata, .int yse, .int yin, .ref arw, .int ywd, .int ytm, .int ybg, .int yan, .int ybs, .int yva, .int ynu])), (amr, .inl (kmr, 8, .inl ymr)), (amm, .inl (kmm, 64, .inl ymm)), (apg, .inl (kpg, 4, .inl ypg)), (atk, .inl (ktk, 2, .inl ytk)), (ata, .inl (kta, 2, .inl yta)), (arw, .inl (krw, 22, .inl yrw))]) hD hS hA [0, 1, 2, 3, 4, 5, 6] rfl
      refine va_calli (va_runV (As := [.int (2 : Int32), .int ((z3 + z4) - (z3 + z4) / (64 : Int32) * (64 : Int32))]) (rest := []) ⟨hx, hb, hml, hown, hts⟩ (ct_M_isTrap l dC dI aM amr amm apg atk ata arw kmr kmm kpg ktk kta krw H.size ymr ymm ypc yha yca ysp yfr yst yda yer yad ypg ytk yta yse yin yrw ywd ytm ybg yan ybs yva ynu (2 : Int32) ((z3 + z4) - (z3 + z4) / (64 : Int32) * (64 : Int32)) v76 hv) (cwV 2 hts gX4_step_X4_isTrap rfl rfl rfl (by decide +kernel) ⟨Nat.le_of_ble_eq_true rfl, Nat.le_of_ble_eq_true rfl⟩) ⟨fun a U g mk q => by obtain ⟨q0, q1, qP, qK, qD⟩ := q; exact ⟨q0, q1, qP, va_K.moved (u := U) (U := U.calling g mk a) (Vm.Alike.refl U.vm) qK, qD⟩, va_recv (ci := 4) (q0 := 0) hK hP rfl rfl, fun U hU hW => ⟨rfl, by rw [hU], by rw [hU]; exact hPc, va_K.moved hW.alike hKc, hDc.weaken (fun _ _ _ _ => trivial)⟩⟩ rfl rfl hl.1 rfl (lv_room (Nat.le_of_ble_eq_true rfl)) dX4_step_76 ⟨Nat.zero_le _, Nat.zero_le _⟩) hS (fun q _ h => hFc q h) hFc (fun r u t H locs ht hvm hw hB hz1 hk1 hS => ?_)
      obtain rfl := pr_0 hw
      obtain ⟨hP1, hD1⟩ := hB
      rw [ht] at hP1
      obtain ⟨hP, hD⟩ := va_join (wr := []) (w1 := [(aM, .inr (4, [.ref amr, .ref amm, .int ypc, .int yha, .int yca, .int ysp, .int yfr, .int yst, .int yda, .int yer, .int yad, .ref apg, .ref atk, .ref ata, .int yse, .int yin, .ref arw, .int ywd, .int ytm, .int ybg, .int yan, .int ybs, .int yva, .int ynu])), (amr, .inl (kmr, 8, .inl ymr)), (amm, .inl (kmm, 64, .inl ymm)), (apg, .inl (kpg, 4, .inl ypg)), (atk, .inl (ktk, 2, .inl ytk)), (ata, .inl (kta, 2, .inl yta)), (arw, .inl (krw, 22, .inl yrw))]) hP hD [0, 1, 2, 3, 4, 5, 6] [] rfl rfl (by decide) (by decide) hk1 hFc hP1 hD1
      have hP : va_P (dC, dI) vwCl [(aM, .inr (4, [.ref amr, .ref amm, .int ypc, .int yha, .int yca, .int ysp, .int yfr, .int yst, .int yda, .int yer, .int yad, .ref apg, .ref atk, .ref ata, .int yse, .int yin, .ref arw, .int ywd, .int ytm, .int ybg, .int yan, .int ybs, .int yva, .int ynu])), (amr, .inl (kmr, 8, .inl ymr)), (amm, .inl (kmm, 64, .inl ymm)), (apg, .inl (kpg, 4, .inl ypg)), (atk, .inl (ktk, 2, .inl ytk)), (ata, .inl (kta, 2, .inl yta)), (arw, .inl (krw, 22, .inl yrw))] H := hP
      have hD : va_D A [(aM, .inr (4, [.ref amr, .ref amm, .int ypc, .int yha, .int yca, .int ysp, .int yfr, .int yst, .int yda, .int yer, .int yad, .ref apg, .ref atk, .ref ata, .int yse, .int yin, .ref arw, .int ywd, .int ytm, .int ybg, .int yan, .int ybs, .int yva, .int ynu])), (amr, .inl (kmr, 8, .inl ymr)), (amm, .inl (kmm, 64, .inl ymm)), (apg, .inl (kpg, 4, .inl ypg)), (atk, .inl (ktk, 2, .inl ytk)), (ata, .inl (kta, 2, .inl yta)), (arw, .inl (krw, 22, .inl yrw))] := hD
      refine lv_if_eq (tgt := 89) hx hb dX4_step_79 (by decide) (fun hc => ?_) (fun hc => ?_)
      · have h := if_y h hc
        exact k_89 _ _ _ _ _ _ _ _ _ _ _ _ _ _ hP hD hS hl h
      · have h := if_n h hc
        refine lv_aload_n hx hb dX4_step_82 rfl (lv_at hl 0 rfl) ?_
        refine lv_iconst (v := (2 : Int32)) hx hb dX4_step_83 (by decide) ?_
        obtain ⟨v84, hv, h⟩ := bn_ex h
        have hPc := hP.sub (ws' := [(aM, .inr (4, [.ref amr, .ref amm, .int ypc, .int yha, .int yca, .int ysp, .int yfr, .int yst, .int yda, .int yer, .int yad, .ref apg, .ref atk, .ref ata, .int yse, .int yin, .ref arw, .int ywd, .int ytm, .int ybg, .int yan, .int ybs, .int yva, .int ynu])), (amr, .inl (kmr, 8, .inl ymr)), (amm, .inl (kmm, 64, .inl ymm)), (apg, .inl (kpg, 4, .inl ypg)), (atk, .inl (ktk, 2, .inl ytk)), (ata, .inl (kta, 2, .inl yta)), (arw, .inl (krw, 22, .inl yrw))]) [0, 1, 2, 3, 4, 5, 6] rfl
        have hDc := hD.sub (ws' := [(aM, .inr (4, [.ref amr, .ref amm, .int ypc, .int yha, .int yca, .int ysp, .int yfr, .int yst, .int yda, .int yer, .int yad, .ref apg, .ref atk, .ref ata, .int yse, .int yin, .ref arw, .int ywd, .int ytm, .int ybg, .int yan, .int ybs, .int yva, .int ynu])), (amr, .inl (kmr, 8, .inl ymr)), (amm, .inl (kmm, 64, .inl ymm)), (apg, .inl (kpg, 4, .inl ypg)), (atk, .inl (ktk, 2, .inl ytk)), (ata, .inl (kta, 2, .inl yta)), (arw, .inl (krw, 22, .inl yrw))]) [0, 1, 2, 3, 4, 5, 6] (by decide) rfl
        have hKc := hK.sub (tys' := [(kmr, .int), (kmm, .int), (kpg, .int), (ktk, .int), (kta, .int), (krw, .int)]) [0, 1, 2, 3, 4, 5] rfl
        have hFc := va_free (wc := [(aM, .inr (4, [.ref amr, .ref amm, .int ypc, .int yha, .int yca, .int ysp, .int yfr, .int yst, .int yda, .int yer, .int yad, .ref apg, .ref atk, .ref ata, .int yse, .int yin, .ref arw, .int ywd, .int ytm, .int ybg, .int yan, .int ybs, .int yva, .int ynu])), (amr, .inl (kmr, 8, .inl ymr)), (amm, .inl (kmm, 64, .inl ymm)), (apg, .inl (kpg, 4, .inl ypg)), (atk, .inl (ktk, 2, .inl ytk)), (ata, .inl (kta, 2, .inl yta)), (arw, .inl (krw, 22, .inl yrw))]) hD hS hA [0, 1, 2, 3, 4, 5, 6] rfl
        refine va_callv (va_runV (As := [.int (2 : Int32)]) (rest := []) ⟨hx, hb, hml, hown, hts⟩ (ct_M_halt l dC dI aM amr amm apg atk ata arw kmr kmm kpg ktk kta krw H.size ymr ymm ypc yha yca ysp yfr yst yda yer yad ypg ytk yta yse yin yrw ywd ytm ybg yan ybs yva ynu (2 : Int32) v84 hv) (cwV 1 hts gX4_step_X4_halt rfl rfl rfl (by decide +kernel) ⟨Nat.le_of_ble_eq_true rfl, Nat.le_of_ble_eq_true rfl⟩) ⟨fun a U g mk q => by obtain ⟨q0, q1, qP, qK, qD⟩ := q; exact ⟨q0, q1, qP, va_K.moved (u := U) (U := U.calling g mk a) (Vm.Alike.refl U.vm) qK, qD⟩, va_recv (ci := 4) (q0 := 0) hK hP rfl rfl, fun U hU hW => ⟨rfl, by rw [hU], by rw [hU]; exact hPc, va_K.moved hW.alike hKc, hDc.weaken (fun _ _ _ _ => trivial)⟩⟩ rfl rfl hl.1 rfl (lv_room (Nat.le_of_ble_eq_true rfl)) dX4_step_84 ⟨Nat.zero_le _, Nat.zero_le _⟩) hS (fun q _ h => hFc q h) hFc (fun u t H locs ht hvm hw hB hz1 hk1 hS => ?_)
        obtain rfl := pr_0 hw
        obtain ⟨hP1, hD1⟩ := hB
        rw [ht] at hP1
        obtain ⟨hP, hD⟩ := va_join (wr := []) (w1 := [(aM, .inr (4, [.ref amr, .ref amm, .int ypc, .int v84.1, .int v84.2, .int ysp, .int yfr, .int yst, .int yda, .int yer, .int yad, .ref apg, .ref atk, .ref ata, .int yse, .int yin, .ref arw, .int ywd, .int ytm, .int ybg, .int yan, .int ybs, .int yva, .int ynu])), (amr, .inl (kmr, 8, .inl ymr)), (amm, .inl (kmm, 64, .inl ymm)), (apg, .inl (kpg, 4, .inl ypg)), (atk, .inl (ktk, 2, .inl ytk)), (ata, .inl (kta, 2, .inl yta)), (arw, .inl (krw, 22, .inl yrw))]) hP hD [0, 1, 2, 3, 4, 5, 6] [] rfl rfl (by decide) (by decide) hk1 hFc hP1 hD1
        have hP : va_P (dC, dI) vwCl [(aM, .inr (4, [.ref amr, .ref amm, .int ypc, .int v84.1, .int v84.2, .int ysp, .int yfr, .int yst, .int yda, .int yer, .int yad, .ref apg, .ref atk, .ref ata, .int yse, .int yin, .ref arw, .int ywd, .int ytm, .int ybg, .int yan, .int ybs, .int yva, .int ynu])), (amr, .inl (kmr, 8, .inl ymr)), (amm, .inl (kmm, 64, .inl ymm)), (apg, .inl (kpg, 4, .inl ypg)), (atk, .inl (ktk, 2, .inl ytk)), (ata, .inl (kta, 2, .inl yta)), (arw, .inl (krw, 22, .inl yrw))] H := hP
        have hD : va_D A [(aM, .inr (4, [.ref amr, .ref amm, .int ypc, .int v84.1, .int v84.2, .int ysp, .int yfr, .int yst, .int yda, .int yer, .int yad, .ref apg, .ref atk, .ref ata, .int yse, .int yin, .ref arw, .int ywd, .int ytm, .int ybg, .int yan, .int ybs, .int yva, .int ynu])), (amr, .inl (kmr, 8, .inl ymr)), (amm, .inl (kmm, 64, .inl ymm)), (apg, .inl (kpg, 4, .inl ypg)), (atk, .inl (ktk, 2, .inl ytk)), (ata, .inl (kta, 2, .inl yta)), (arw, .inl (krw, 22, .inl yrw))] := hD
        refine lv_iconst (v := (0 : Int32)) hx hb dX4_step_87 (by decide) ?_
        exact W.zret hx hb hr (kb_n (Or.inl rfl)) (fun t ht hW => ⟨⟨(0 : Int32), (ymr, ymm, ypc, v84.1, v84.2, yfr, yst), rfl, h, by rw [ht]; exact hP, hD⟩, hS.F ht⟩) hS.2.2 dX4_step_88
  have hl := lv_entry ([.ref aM]) (n := 9) (Nat.le_of_ble_eq_true rfl)
  rw [lg_entry_eq]
  generalize (lg_sl ([.ref aM]) ++ List.replicate (9 - (lg_sl ([.ref aM])).length) Slot.unset).toArray = ls at hl ⊢
  have hl : lv_has ls 9 [(0, .ref aM)] := hl
  unfold fn_M_step at h
  refine lv_aload_n hx hb dX4_step_0 rfl (lv_at hl 0 rfl) ?_
  refine va_get (D := (dC, dI)) (ci := 4) (v := .ref amm) (C := RX4) (T := TX4) (N := 24) hx hb hts hinX4 hown hK hP 0 rfl rfl 1 (by decide) hf13 (fun _ h9 => h9) rfl dX4_step_1 ?_
  refine lv_aload_n hx hb dX4_step_4 rfl (lv_at hl 0 rfl) ?_
  refine va_get (D := (dC, dI)) (ci := 4) (v := .int ypc) (C := RX4) (T := TX4) (N := 24) hx hb hts hinX4 hown hK hP 0 rfl rfl 2 (by decide) hf40 (fun _ h9 => h9) rfl dX4_step_5 ?_
  obtain ⟨hi, h⟩ := ck_in h
  refine va_iald hx hb hK hP 2 1 rfl rfl hi dX4_step_8 ?_
  refine lv_istore_n hx hb dX4_step_9 rfl hl (by decide) rfl (fun ls hl => ?_)
  have hl : lv_has ls 9 [(1, .int (ymm (Int32.toNatClampNeg ypc))), (0, .ref aM)] := hl
  refine lv_iload_n hx hb dX4_step_10 rfl (lv_at hl 0 rfl) ?_
  refine lv_bipush (v := (12 : Int32)) hx hb dX4_step_11 (by decide) ?_
  refine lv_ishr hx hb dX4_step_13 ?_
  refine lv_istore_n hx hb dX4_step_14 rfl hl (by decide) rfl (fun ls hl => ?_)
  have hl : lv_has ls 9 [(2, .int ((ymm (Int32.toNatClampNeg ypc)) >>> ((12 : Int32) &&& (31 : Int32)))), (1, .int (ymm (Int32.toNatClampNeg ypc))), (0, .ref aM)] := hl
  refine lv_aload_n hx hb dX4_step_15 rfl (lv_at hl 2 rfl) ?_
  refine va_get (D := (dC, dI)) (ci := 4) (v := .ref amr) (C := RX4) (T := TX4) (N := 24) hx hb hts hinX4 hown hK hP 0 rfl rfl 0 (by decide) hf7 (fun _ h9 => h9) rfl dX4_step_16 ?_
  refine lv_iload_n hx hb dX4_step_19 rfl (lv_at hl 1 rfl) ?_
  refine lv_bipush (v := (6 : Int32)) hx hb dX4_step_20 (by decide) ?_
  refine lv_ishr hx hb dX4_step_22 ?_
  refine lv_bipush (v := (7 : Int32)) hx hb dX4_step_23 (by decide) ?_
  refine lv_iand hx hb dX4_step_25 ?_
  obtain ⟨hi, h⟩ := ck_in h
  refine va_iald hx hb hK hP 1 0 rfl rfl hi dX4_step_26 ?_
  refine lv_istore_n hx hb dX4_step_27 rfl hl (by decide) rfl (fun ls hl => ?_)
  have hl : lv_has ls 9 [(3, .int (ymr (Int32.toNatClampNeg (((ymm (Int32.toNatClampNeg ypc)) >>> ((6 : Int32) &&& (31 : Int32))) &&& (7 : Int32))))), (2, .int ((ymm (Int32.toNatClampNeg ypc)) >>> ((12 : Int32) &&& (31 : Int32)))), (1, .int (ymm (Int32.toNatClampNeg ypc))), (0, .ref aM)] := hl
  refine lv_iload_n hx hb dX4_step_28 rfl (lv_at hl 2 rfl) ?_
  refine lv_bipush (v := (63 : Int32)) hx hb dX4_step_29 (by decide) ?_
  refine lv_iand hx hb dX4_step_31 ?_
  refine lv_istore hx hb dX4_step_32 hl (by decide) rfl (fun ls hl => ?_)
  have hl : lv_has ls 9 [(4, .int ((ymm (Int32.toNatClampNeg ypc)) &&& (63 : Int32))), (3, .int (ymr (Int32.toNatClampNeg (((ymm (Int32.toNatClampNeg ypc)) >>> ((6 : Int32) &&& (31 : Int32))) &&& (7 : Int32))))), (2, .int ((ymm (Int32.toNatClampNeg ypc)) >>> ((12 : Int32) &&& (31 : Int32)))), (1, .int (ymm (Int32.toNatClampNeg ypc))), (0, .ref aM)] := hl
  refine lv_aload_n hx hb dX4_step_34 rfl (lv_at hl 4 rfl) ?_
  refine va_get (D := (dC, dI)) (ci := 4) (v := .int yfr) (C := RX4) (T := TX4) (N := 24) hx hb hts hinX4 hown hK hP 0 rfl rfl 6 (by decide) hf43 (fun _ h9 => h9) rfl dX4_step_35 ?_
  refine lv_istore hx hb dX4_step_38 hl (by decide) rfl (fun ls hl => ?_)
  have hl : lv_has ls 9 [(5, .int yfr), (4, .int ((ymm (Int32.toNatClampNeg ypc)) &&& (63 : Int32))), (3, .int (ymr (Int32.toNatClampNeg (((ymm (Int32.toNatClampNeg ypc)) >>> ((6 : Int32) &&& (31 : Int32))) &&& (7 : Int32))))), (2, .int ((ymm (Int32.toNatClampNeg ypc)) >>> ((12 : Int32) &&& (31 : Int32)))), (1, .int (ymm (Int32.toNatClampNeg ypc))), (0, .ref aM)] := hl
  refine lv_aload_n hx hb dX4_step_40 rfl (lv_at hl 5 rfl) ?_
  refine lv_iconst (v := (0 : Int32)) hx hb dX4_step_41 (by decide) ?_
  refine va_put (D := (dC, dI)) (ci := 4) (v := .int (0 : Int32)) (ty := .boolean) (C := RX4) (T := TX4) (N := 24) hx hb hts hinX4 tyX4 tyX4_ok nmX4 hown hK hP hD hS 0 rfl rfl 6 (by decide) hf43 (fun _ h9 => h9) rfl (by decide +kernel) (kb_n (Or.inl rfl)) (kb_f (Or.inl rfl)) (Nat.le_of_ble_eq_true rfl) dX4_step_42 (fun H locs hP hD hS => ?_)
  have hP : va_P (dC, dI) vwCl [(aM, .inr (4, [.ref amr, .ref amm, .int ypc, .int yha, .int yca, .int ysp, .int (0 : Int32), .int yst, .int yda, .int yer, .int yad, .ref apg, .ref atk, .ref ata, .int yse, .int yin, .ref arw, .int ywd, .int ytm, .int ybg, .int yan, .int ybs, .int yva, .int ynu])), (amr, .inl (kmr, 8, .inl ymr)), (amm, .inl (kmm, 64, .inl ymm)), (apg, .inl (kpg, 4, .inl ypg)), (atk, .inl (ktk, 2, .inl ytk)), (ata, .inl (kta, 2, .inl yta)), (arw, .inl (krw, 22, .inl yrw))] H := hP
  have hD : va_D A [(aM, .inr (4, [.ref amr, .ref amm, .int ypc, .int yha, .int yca, .int ysp, .int (0 : Int32), .int yst, .int yda, .int yer, .int yad, .ref apg, .ref atk, .ref ata, .int yse, .int yin, .ref arw, .int ywd, .int ytm, .int ybg, .int yan, .int ybs, .int yva, .int ynu])), (amr, .inl (kmr, 8, .inl ymr)), (amm, .inl (kmm, 64, .inl ymm)), (apg, .inl (kpg, 4, .inl ypg)), (atk, .inl (ktk, 2, .inl ytk)), (ata, .inl (kta, 2, .inl yta)), (arw, .inl (krw, 22, .inl yrw))] := hD
  refine lv_iload hx hb dX4_step_45 (lv_at hl 0 rfl) ?_
  refine lv_if_ne (tgt := 62) hx hb dX4_step_47 (by decide) (fun hc => ?_) (fun hc => ?_)
  · have h := if_n h hc
    exact k_62 _ _ _ _ _ _ _ _ _ _ _ _ _ _ hP hD hS (lv_sub hl [5, 4, 3, 2, 1] rfl) h
  · have h := if_y h hc
    refine lv_aload_n hx hb dX4_step_50 rfl (lv_at hl 5 rfl) ?_
    refine lv_iconst (v := (1 : Int32)) hx hb dX4_step_51 (by decide) ?_
    refine lv_aload_n hx hb dX4_step_52 rfl (lv_at hl 5 rfl) ?_
    refine va_get (D := (dC, dI)) (ci := 4) (v := .int ypc) (C := RX4) (T := TX4) (N := 24) hx hb hts hinX4 hown hK hP 0 rfl rfl 2 (by decide) hf40 (fun _ h9 => h9) rfl dX4_step_53 ?_
    obtain ⟨v56, hv, h⟩ := bn_ex h
    have hPc := hP.sub (ws' := [(aM, .inr (4, [.ref amr, .ref amm, .int ypc, .int yha, .int yca, .int ysp, .int (0 : Int32), .int yst, .int yda, .int yer, .int yad, .ref apg, .ref atk, .ref ata, .int yse, .int yin, .ref arw, .int ywd, .int ytm, .int ybg, .int yan, .int ybs, .int yva, .int ynu])), (amr, .inl (kmr, 8, .inl ymr)), (amm, .inl (kmm, 64, .inl ymm)), (apg, .inl (kpg, 4, .inl ypg)), (atk, .inl (ktk, 2, .inl ytk)), (ata, .inl (kta, 2, .inl yta)), (arw, .inl (krw, 22, .inl yrw))]) [0, 1, 2, 3, 4, 5, 6] rfl
    have hDc := hD.sub (ws' := [(aM, .inr (4, [.ref amr, .ref amm, .int ypc, .int yha, .int yca, .int ysp, .int (0 : Int32), .int yst, .int yda, .int yer, .int yad, .ref apg, .ref atk, .ref ata, .int yse, .int yin, .ref arw, .int ywd, .int ytm, .int ybg, .int yan, .int ybs, .int yva, .int ynu])), (amr, .inl (kmr, 8, .inl ymr)), (amm, .inl (kmm, 64, .inl ymm)), (apg, .inl (kpg, 4, .inl ypg)), (atk, .inl (ktk, 2, .inl ytk)), (ata, .inl (kta, 2, .inl yta)), (arw, .inl (krw, 22, .inl yrw))]) [0, 1, 2, 3, 4, 5, 6] (by decide) rfl
    have hKc := hK.sub (tys' := [(kmr, .int), (kmm, .int), (kpg, .int), (ktk, .int), (kta, .int), (krw, .int)]) [0, 1, 2, 3, 4, 5] rfl
    have hFc := va_free (wc := [(aM, .inr (4, [.ref amr, .ref amm, .int ypc, .int yha, .int yca, .int ysp, .int (0 : Int32), .int yst, .int yda, .int yer, .int yad, .ref apg, .ref atk, .ref ata, .int yse, .int yin, .ref arw, .int ywd, .int ytm, .int ybg, .int yan, .int ybs, .int yva, .int ynu])), (amr, .inl (kmr, 8, .inl ymr)), (amm, .inl (kmm, 64, .inl ymm)), (apg, .inl (kpg, 4, .inl ypg)), (atk, .inl (ktk, 2, .inl ytk)), (ata, .inl (kta, 2, .inl yta)), (arw, .inl (krw, 22, .inl yrw))]) hD hS hA [0, 1, 2, 3, 4, 5, 6] rfl
    refine va_calli (va_runV (As := [.int (1 : Int32), .int ypc]) (rest := []) ⟨hx, hb, hml, hown, hts⟩ (ct_M_isTrap l dC dI aM amr amm apg atk ata arw kmr kmm kpg ktk kta krw H.size ymr ymm ypc yha yca ysp (0 : Int32) yst yda yer yad ypg ytk yta yse yin yrw ywd ytm ybg yan ybs yva ynu (1 : Int32) ypc v56 hv) (cwV 2 hts gX4_step_X4_isTrap rfl rfl rfl (by decide +kernel) ⟨Nat.le_of_ble_eq_true rfl, Nat.le_of_ble_eq_true rfl⟩) ⟨fun a U g mk q => by obtain ⟨q0, q1, qP, qK, qD⟩ := q; exact ⟨q0, q1, qP, va_K.moved (u := U) (U := U.calling g mk a) (Vm.Alike.refl U.vm) qK, qD⟩, va_recv (ci := 4) (q0 := 0) hK hP rfl rfl, fun U hU hW => ⟨rfl, by rw [hU], by rw [hU]; exact hPc, va_K.moved hW.alike hKc, hDc.weaken (fun _ _ _ _ => trivial)⟩⟩ rfl rfl hl.1 rfl (lv_room (Nat.le_of_ble_eq_true rfl)) dX4_step_56 ⟨Nat.zero_le _, Nat.zero_le _⟩) hS (fun q _ h => hFc q h) hFc (fun r u t H locs ht hvm hw hB hz1 hk1 hS => ?_)
    obtain rfl := pr_0 hw
    obtain ⟨hP1, hD1⟩ := hB
    rw [ht] at hP1
    obtain ⟨hP, hD⟩ := va_join (wr := []) (w1 := [(aM, .inr (4, [.ref amr, .ref amm, .int ypc, .int yha, .int yca, .int ysp, .int (0 : Int32), .int yst, .int yda, .int yer, .int yad, .ref apg, .ref atk, .ref ata, .int yse, .int yin, .ref arw, .int ywd, .int ytm, .int ybg, .int yan, .int ybs, .int yva, .int ynu])), (amr, .inl (kmr, 8, .inl ymr)), (amm, .inl (kmm, 64, .inl ymm)), (apg, .inl (kpg, 4, .inl ypg)), (atk, .inl (ktk, 2, .inl ytk)), (ata, .inl (kta, 2, .inl yta)), (arw, .inl (krw, 22, .inl yrw))]) hP hD [0, 1, 2, 3, 4, 5, 6] [] rfl rfl (by decide) (by decide) hk1 hFc hP1 hD1
    have hP : va_P (dC, dI) vwCl [(aM, .inr (4, [.ref amr, .ref amm, .int ypc, .int yha, .int yca, .int ysp, .int (0 : Int32), .int yst, .int yda, .int yer, .int yad, .ref apg, .ref atk, .ref ata, .int yse, .int yin, .ref arw, .int ywd, .int ytm, .int ybg, .int yan, .int ybs, .int yva, .int ynu])), (amr, .inl (kmr, 8, .inl ymr)), (amm, .inl (kmm, 64, .inl ymm)), (apg, .inl (kpg, 4, .inl ypg)), (atk, .inl (ktk, 2, .inl ytk)), (ata, .inl (kta, 2, .inl yta)), (arw, .inl (krw, 22, .inl yrw))] H := hP
    have hD : va_D A [(aM, .inr (4, [.ref amr, .ref amm, .int ypc, .int yha, .int yca, .int ysp, .int (0 : Int32), .int yst, .int yda, .int yer, .int yad, .ref apg, .ref atk, .ref ata, .int yse, .int yin, .ref arw, .int ywd, .int ytm, .int ybg, .int yan, .int ybs, .int yva, .int ynu])), (amr, .inl (kmr, 8, .inl ymr)), (amm, .inl (kmm, 64, .inl ymm)), (apg, .inl (kpg, 4, .inl ypg)), (atk, .inl (ktk, 2, .inl ytk)), (ata, .inl (kta, 2, .inl yta)), (arw, .inl (krw, 22, .inl yrw))] := hD
    refine lv_if_ne (tgt := 82) hx hb dX4_step_59 (by decide) (fun hc => ?_) (fun hc => ?_)
    · have h := if_n h hc
      refine lv_aload_n hx hb dX4_step_82 rfl (lv_at hl 5 rfl) ?_
      refine lv_iconst (v := (2 : Int32)) hx hb dX4_step_83 (by decide) ?_
      obtain ⟨v84, hv, h⟩ := bn_ex h
      have hPc := hP.sub (ws' := [(aM, .inr (4, [.ref amr, .ref amm, .int ypc, .int yha, .int yca, .int ysp, .int (0 : Int32), .int yst, .int yda, .int yer, .int yad, .ref apg, .ref atk, .ref ata, .int yse, .int yin, .ref arw, .int ywd, .int ytm, .int ybg, .int yan, .int ybs, .int yva, .int ynu])), (amr, .inl (kmr, 8, .inl ymr)), (amm, .inl (kmm, 64, .inl ymm)), (apg, .inl (kpg, 4, .inl ypg)), (atk, .inl (ktk, 2, .inl ytk)), (ata, .inl (kta, 2, .inl yta)), (arw, .inl (krw, 22, .inl yrw))]) [0, 1, 2, 3, 4, 5, 6] rfl
      have hDc := hD.sub (ws' := [(aM, .inr (4, [.ref amr, .ref amm, .int ypc, .int yha, .int yca, .int ysp, .int (0 : Int32), .int yst, .int yda, .int yer, .int yad, .ref apg, .ref atk, .ref ata, .int yse, .int yin, .ref arw, .int ywd, .int ytm, .int ybg, .int yan, .int ybs, .int yva, .int ynu])), (amr, .inl (kmr, 8, .inl ymr)), (amm, .inl (kmm, 64, .inl ymm)), (apg, .inl (kpg, 4, .inl ypg)), (atk, .inl (ktk, 2, .inl ytk)), (ata, .inl (kta, 2, .inl yta)), (arw, .inl (krw, 22, .inl yrw))]) [0, 1, 2, 3, 4, 5, 6] (by decide) rfl
      have hKc := hK.sub (tys' := [(kmr, .int), (kmm, .int), (kpg, .int), (ktk, .int), (kta, .int), (krw, .int)]) [0, 1, 2, 3, 4, 5] rfl
      have hFc := va_free (wc := [(aM, .inr (4, [.ref amr, .ref amm, .int ypc, .int yha, .int yca, .int ysp, .int (0 : Int32), .int yst, .int yda, .int yer, .int yad, .ref apg, .ref atk, .ref ata, .int yse, .int yin, .ref arw, .int ywd, .int ytm, .int ybg, .int yan, .int ybs, .int yva, .int ynu])), (amr, .inl (kmr, 8, .inl ymr)), (amm, .inl (kmm, 64, .inl ymm)), (apg, .inl (kpg, 4, .inl ypg)), (atk, .inl (ktk, 2, .inl ytk)), (ata, .inl (kta, 2, .inl yta)), (arw, .inl (krw, 22, .inl yrw))]) hD hS hA [0, 1, 2, 3, 4, 5, 6] rfl
      refine va_callv (va_runV (As := [.int (2 : Int32)]) (rest := []) ⟨hx, hb, hml, hown, hts⟩ (ct_M_halt l dC dI aM amr amm apg atk ata arw kmr kmm kpg ktk kta krw H.size ymr ymm ypc yha yca ysp (0 : Int32) yst yda yer yad ypg ytk yta yse yin yrw ywd ytm ybg yan ybs yva ynu (2 : Int32) v84 hv) (cwV 1 hts gX4_step_X4_halt rfl rfl rfl (by decide +kernel) ⟨Nat.le_of_ble_eq_true rfl, Nat.le_of_ble_eq_true rfl⟩) ⟨fun a U g mk q => by obtain ⟨q0, q1, qP, qK, qD⟩ := q; exact ⟨q0, q1, qP, va_K.moved (u := U) (U := U.calling g mk a) (Vm.Alike.refl U.vm) qK, qD⟩, va_recv (ci := 4) (q0 := 0) hK hP rfl rfl, fun U hU hW => ⟨rfl, by rw [hU], by rw [hU]; exact hPc, va_K.moved hW.alike hKc, hDc.weaken (fun _ _ _ _ => trivial)⟩⟩ rfl rfl hl.1 rfl (lv_room (Nat.le_of_ble_eq_true rfl)) dX4_step_84 ⟨Nat.zero_le _, Nat.zero_le _⟩) hS (fun q _ h => hFc q h) hFc (fun u t H locs ht hvm hw hB hz1 hk1 hS => ?_)
      obtain rfl := pr_0 hw
      obtain ⟨hP1, hD1⟩ := hB
      rw [ht] at hP1
      obtain ⟨hP, hD⟩ := va_join (wr := []) (w1 := [(aM, .inr (4, [.ref amr, .ref amm, .int ypc, .int v84.1, .int v84.2, .int ysp, .int (0 : Int32), .int yst, .int yda, .int yer, .int yad, .ref apg, .ref atk, .ref ata, .int yse, .int yin, .ref arw, .int ywd, .int ytm, .int ybg, .int yan, .int ybs, .int yva, .int ynu])), (amr, .inl (kmr, 8, .inl ymr)), (amm, .inl (kmm, 64, .inl ymm)), (apg, .inl (kpg, 4, .inl ypg)), (atk, .inl (ktk, 2, .inl ytk)), (ata, .inl (kta, 2, .inl yta)), (arw, .inl (krw, 22, .inl yrw))]) hP hD [0, 1, 2, 3, 4, 5, 6] [] rfl rfl (by decide) (by decide) hk1 hFc hP1 hD1
      have hP : va_P (dC, dI) vwCl [(aM, .inr (4, [.ref amr, .ref amm, .int ypc, .int v84.1, .int v84.2, .int ysp, .int (0 : Int32), .int yst, .int yda, .int yer, .int yad, .ref apg, .ref atk, .ref ata, .int yse, .int yin, .ref arw, .int ywd, .int ytm, .int ybg, .int yan, .int ybs, .int yva, .int ynu])), (amr, .inl (kmr, 8, .inl ymr)), (amm, .inl (kmm, 64, .inl ymm)), (apg, .inl (kpg, 4, .inl ypg)), (atk, .inl (ktk, 2, .inl ytk)), (ata, .inl (kta, 2, .inl yta)), (arw, .inl (krw, 22, .inl yrw))] H := hP
      have hD : va_D A [(aM, .inr (4, [.ref amr, .ref amm, .int ypc, .int v84.1, .int v84.2, .int ysp, .int (0 : Int32), .int yst, .int yda, .int yer, .int yad, .ref apg, .ref atk, .ref ata, .int yse, .int yin, .ref arw, .int ywd, .int ytm, .int ybg, .int yan, .int ybs, .int yva, .int ynu])), (amr, .inl (kmr, 8, .inl ymr)), (amm, .inl (kmm, 64, .inl ymm)), (apg, .inl (kpg, 4, .inl ypg)), (atk, .inl (ktk, 2, .inl ytk)), (ata, .inl (kta, 2, .inl yta)), (arw, .inl (krw, 22, .inl yrw))] := hD
      refine lv_iconst (v := (0 : Int32)) hx hb dX4_step_87 (by decide) ?_
      exact W.zret hx hb hr (kb_n (Or.inl rfl)) (fun t ht hW => ⟨⟨(0 : Int32), (ymr, ymm, ypc, v84.1, v84.2, (0 : Int32), yst), rfl, h, by rw [ht]; exact hP, hD⟩, hS.F ht⟩) hS.2.2 dX4_step_88
    · have h := if_y h hc
      exact k_62 _ _ _ _ _ _ _ _ _ _ _ _ _ _ hP hD hS (lv_sub hl [5, 4, 3, 2, 1] rfl) h
set_option maxHeartbeats 4000000 in
set_option maxRecDepth 100000 in
theorem ct_M_run (l : Launch) (dC : Nat → ClassId) (dI : Nat → Nat → Nat) (aM amr amm apg atk ata arw : Nat) (kmr kmm kpg ktk kta krw : ClassId) (sz : Nat) (ymr : (Nat → Int32)) (ymm : (Nat → Int32)) (ypc : Int32) (yha : Int32) (yca : Int32) (ysp : Int32) (yfr : Int32) (yst : Int32) (yda : Int32) (yer : Int32) (yad : Int32) (ypg : (Nat → Int32)) (ytk : (Nat → Int32)) (yta : (Nat → Int32)) (yse : Int32) (yin : Int32) (yrw : (Nat → Int32)) (ywd : Int32) (ytm : Int32) (ybg : Int32) (yan : Int32) (ybs : Int32) (yva : Int32) (ynu : Int32) (j1 : Int32) (o : Int32 × (Nat → Int32) × (Nat → Int32) × Int32 × Int32 × Int32 × Int32 × Int32) (h : fn_M_run ymr ymm ypc yha yca yfr yst ytk yta j1 = some o) : Met l yX4_run wsX4_run ({ frames := 2, cells := 0, slots := 0, locals := 53 }) (va_Pc [.ref aM, .int j1] (fun U => U.heap.size = sz ∧ va_P (dC, dI) vwCl [(aM, .inr (4, [.ref amr, .ref amm, .int ypc, .int yha, .int yca, .int ysp, .int yfr, .int yst, .int yda, .int yer, .int yad, .ref apg, .ref atk, .ref ata, .int yse, .int yin, .ref arw, .int ywd, .int ytm, .int ybg, .int yan, .int ybs, .int yva, .int ynu])), (amr, .inl (kmr, 8, .inl ymr)), (amm, .inl (kmm, 64, .inl ymm)), (apg, .inl (kpg, 4, .inl ypg)), (atk, .inl (ktk, 2, .inl ytk)), (ata, .inl (kta, 2, .inl yta)), (arw, .inl (krw, 22, .inl yrw))] U.heap ∧ va_K (dC, dI) vwCl [(kmr, .int), (kmm, .int), (kpg, .int), (ktk, .int), (kta, .int), (krw, .int)] U ∧ va_D (fun _ => True) [(aM, .inr (4, [.ref amr, .ref amm, .int ypc, .int yha, .int yca, .int ysp, .int yfr, .int yst, .int yda, .int yer, .int yad, .ref apg, .ref atk, .ref ata, .int yse, .int yin, .ref arw, .int ywd, .int ytm, .int ybg, .int yan, .int ybs, .int yva, .int ynu])), (amr, .inl (kmr, 8, .inl ymr)), (amm, .inl (kmm, 64, .inl ymm)), (apg, .inl (kpg, 4, .inl ypg)), (atk, .inl (ktk, 2, .inl ytk)), (ata, .inl (kta, 2, .inl yta)), (arw, .inl (krw, 22, .inl yrw))])) (va_Qi (fun (r : Int32) (u : (Nat → Int32) × (Nat → Int32) × Int32 × Int32 × Int32 × Int32 × Int32) => some (r, u) = some o) (fun (u : (Nat → Int32) × (Nat → Int32) × Int32 × Int32 × Int32 × Int32 × Int32) (t : State) => va_P (dC, dI) vwCl [(aM, .inr (4, [.ref amr, .ref amm, .int u.2.2.1, .int u.2.2.2.1, .int u.2.2.2.2.1, .int ysp, .int u.2.2.2.2.2.1, .int u.2.2.2.2.2.2, .int yda, .int yer, .int yad, .ref apg, .ref atk, .ref ata, .int yse, .int yin, .ref arw, .int ywd, .int ytm, .int ybg, .int yan, .int ybs, .int yva, .int ynu])), (amr, .inl (kmr, 8, .inl u.1)), (amm, .inl (kmm, 64, .inl u.2.1)), (apg, .inl (kpg, 4, .inl ypg)), (atk, .inl (ktk, 2, .inl ytk)), (ata, .inl (kta, 2, .inl yta)), (arw, .inl (krw, 22, .inl yrw))] t.heap ∧ va_D (va_A [(aM, .inr (4, [.ref amr, .ref amm, .int ypc, .int yha, .int yca, .int ysp, .int yfr, .int yst, .int yda, .int yer, .int yad, .ref apg, .ref atk, .ref ata, .int yse, .int yin, .ref arw, .int ywd, .int ytm, .int ybg, .int yan, .int ybs, .int yva, .int ynu])), (amr, .inl (kmr, 8, .inl ymr)), (amm, .inl (kmm, 64, .inl ymm)), (apg, .inl (kpg, 4, .inl ypg)), (atk, .inl (ktk, 2, .inl ytk)), (ata, .inl (kta, 2, .inl yta)), (arw, .inl (krw, 22, .inl yrw))] sz) [(aM, .inr (4, [.ref amr, .ref amm, .int u.2.2.1, .int u.2.2.2.1, .int u.2.2.2.2.1, .int ysp, .int u.2.2.2.2.2.1, .int u.2.2.2.2.2.2, .int yda, .int yer, .int yad, .ref apg, .ref atk, .ref ata, .int yse, .int yin, .ref arw, .int ywd, .int ytm, .int ybg, .int yan, .int ybs, .int yva, .int ynu])), (amr, .inl (kmr, 8, .inl u.1)), (amm, .inl (kmm, 64, .inl u.2.1)), (apg, .inl (kpg, 4, .inl ypg)), (atk, .inl (ktk, 2, .inl ytk)), (ata, .inl (kta, 2, .inl yta)), (arw, .inl (krw, 22, .inl yrw))]) (va_A [(aM, .inr (4, [.ref amr, .ref amm, .int ypc, .int yha, .int yca, .int ysp, .int yfr, .int yst, .int yda, .int yer, .int yad, .ref apg, .ref atk, .ref ata, .int yse, .int yin, .ref arw, .int ywd, .int ytm, .int ybg, .int yan, .int ybs, .int yva, .int ynu])), (amr, .inl (kmr, 8, .inl ymr)), (amm, .inl (kmm, 64, .inl ymm)), (apg, .inl (kpg, 4, .inl ypg)), (atk, .inl (ktk, 2, .inl ytk)), (ata, .inl (kta, 2, .inl yta)), (arw, .inl (krw, 22, .inl yrw))] sz)) 0 0 (va_A [(aM, .inr (4, [.ref amr, .ref amm, .int ypc, .int yha, .int yca, .int ysp, .int yfr, .int yst, .int yda, .int yer, .int yad, .ref apg, .ref atk, .ref ata, .int yse, .int yin, .ref arw, .int ywd, .int ytm, .int ybg, .int yan, .int ybs, .int yva, .int ynu])), (amr, .inl (kmr, 8, .inl ymr)), (amm, .inl (kmm, 64, .inl ymm)), (apg, .inl (kpg, 4, .inl ypg)), (atk, .inl (ktk, 2, .inl ytk)), (ata, .inl (kta, 2, .inl yta)), (arw, .inl (krw, 22, .inl yrw))] sz) := by
  refine Met.ofW (cc := cX4_run) (maxL := 4) (ret := (some .int)) (by decide) rfl ?_
  intro p e s m args below meth c s₁ B hml hv
  obtain ⟨rfl, hsz, hP, hK, hD0⟩ := hv
  have hx := B.exec
  have hb := B.bytes
  have hr := B.returns
  have hts := atoms_spec (ws := wsX4_run) B.pre
  have hown : s.vm.findClass RX4 = some m.cls := findClass_of_methodNamed B.named
  have hlocks := B.notSynchronized
  subst hsz
  have hD := hD0.self (sz := s.heap.size)
  generalize hAe : va_A [(aM, .inr (4, [.ref amr, .ref amm, .int ypc, .int yha, .int yca, .int ysp, .int yfr, .int yst, .int yda, .int yer, .int yad, .ref apg, .ref atk, .ref ata, .int yse, .int yin, .ref arw, .int ywd, .int ytm, .int ybg, .int yan, .int ybs, .int yva, .int ynu])), (amr, .inl (kmr, 8, .inl ymr)), (amm, .inl (kmm, 64, .inl ymm)), (apg, .inl (kpg, 4, .inl ypg)), (atk, .inl (ktk, 2, .inl ytk)), (ata, .inl (kta, 2, .inl yta)), (arw, .inl (krw, 22, .inl yrw))] s.heap.size = A at hD ⊢
  have hA : ∀ q : Nat, s.heap.size ≤ q → A q := fun q h => by rw [← hAe]; exact Or.inr h
  have hS : va_S A s.heap s.heap [] := va_S.rf
  have hP : va_P (dC, dI) vwCl [(aM, .inr (4, [.ref amr, .ref amm, .int ypc, .int yha, .int yca, .int ysp, .int yfr, .int yst, .int yda, .int yer, .int yad, .ref apg, .ref atk, .ref ata, .int yse, .int yin, .ref arw, .int ywd, .int ytm, .int ybg, .int yan, .int ybs, .int yva, .int ynu])), (amr, .inl (kmr, 8, .inl ymr)), (amm, .inl (kmm, 64, .inl ymm)), (apg, .inl (kpg, 4, .inl ypg)), (atk, .inl (ktk, 2, .inl ytk)), (ata, .inl (kta, 2, .inl yta)), (arw, .inl (krw, 22, .inl yrw))] s.heap := hP
  have hf32 := hts (.fieldLink RX4 32 "ProbeBenchModel" "halted" "Z") (by decide +kernel)
  have hinX4 : ∀ w ∈ u_ws RX4 TX4 24, w ∈ wsX4_run := by decide +kernel
  have k_16 : ∀ (n : Nat), ∀ (H : Heap) (locs : List Loc) (ls : Array Slot) (ymr : (Nat → Int32)) (ymm : (Nat → Int32)) (ypc : Int32) (yha : Int32) (yca : Int32) (yfr : Int32) (yst : Int32) (z1 : Int32) (z2 : Int32) (z3 : Int32), va_P (dC, dI) vwCl [(aM, .inr (4, [.ref amr, .ref amm, .int ypc, .int yha, .int yca, .int ysp, .int yfr, .int yst, .int yda, .int yer, .int yad, .ref apg, .ref atk, .ref ata, .int yse, .int yin, .ref arw, .int ywd, .int ytm, .int ybg, .int yan, .int ybs, .int yva, .int ynu])), (amr, .inl (kmr, 8, .inl ymr)), (amm, .inl (kmm, 64, .inl ymm)), (apg, .inl (kpg, 4, .inl ypg)), (atk, .inl (ktk, 2, .inl ytk)), (ata, .inl (kta, 2, .inl yta)), (arw, .inl (krw, 22, .inl yrw))] H → va_D A [(aM, .inr (4, [.ref amr, .ref amm, .int ypc, .int yha, .int yca, .int ysp, .int yfr, .int yst, .int yda, .int yer, .int yad, .ref apg, .ref atk, .ref ata, .int yse, .int yin, .ref arw, .int ywd, .int ytm, .int ybg, .int yan, .int ybs, .int yva, .int ynu])), (amr, .inl (kmr, 8, .inl ymr)), (amm, .inl (kmm, 64, .inl ymm)), (apg, .inl (kpg, 4, .inl ypg)), (atk, .inl (ktk, 2, .inl ytk)), (ata, .inl (kta, 2, .inl yta)), (arw, .inl (krw, 22, .inl yrw))] → va_S A s.heap H locs → lv_has ls 4 [(0, .ref aM), (1, .int z1), (2, .int z2), (3, .int z3)] → fn_M_run_L16 n ymr ymm ypc yha yca yfr yst ytk yta z1 z2 z3 = some o → W p l e (headSpec wsX4_run ({ frames := 2, cells := 0, slots := 0, locals := 53 })).room s m ([.ref aM, .int j1] : List Value).toArray below meth c H locs 0 0 (MQ below (va_Qi (fun (r : Int32) (u : (Nat → Int32) × (Nat → Int32) × Int32 × Int32 × Int32 × Int32 × Int32) => some (r, u) = some o) (fun (u : (Nat → Int32) × (Nat → Int32) × Int32 × Int32 × Int32 × Int32 × Int32) (t : State) => va_P (dC, dI) vwCl [(aM, .inr (4, [.ref amr, .ref amm, .int u.2.2.1, .int u.2.2.2.1, .int u.2.2.2.2.1, .int ysp, .int u.2.2.2.2.2.1, .int u.2.2.2.2.2.2, .int yda, .int yer, .int yad, .ref apg, .ref atk, .ref ata, .int yse, .int yin, .ref arw, .int ywd, .int ytm, .int ybg, .int yan, .int ybs, .int yva, .int ynu])), (amr, .inl (kmr, 8, .inl u.1)), (amm, .inl (kmm, 64, .inl u.2.1)), (apg, .inl (kpg, 4, .inl ypg)), (atk, .inl (ktk, 2, .inl ytk)), (ata, .inl (kta, 2, .inl yta)), (arw, .inl (krw, 22, .inl yrw))] t.heap ∧ va_D A [(aM, .inr (4, [.ref amr, .ref amm, .int u.2.2.1, .int u.2.2.2.1, .int u.2.2.2.2.1, .int ysp, .int u.2.2.2.2.2.1, .int u.2.2.2.2.2.2, .int yda, .int yer, .int yad, .ref apg, .ref atk, .ref ata, .int yse, .int yin, .ref arw, .int ywd, .int ytm, .int ybg, .int yan, .int ybs, .int yva, .int ynu])), (amr, .inl (kmr, 8, .inl u.1)), (amm, .inl (kmm, 64, .inl u.2.1)), (apg, .inl (kpg, 4, .inl ypg)), (atk, .inl (ktk, 2, .inl ytk)), (ata, .inl (kta, 2, .inl yta)), (arw, .inl (krw, 22, .inl yrw))]) A) ([.ref aM, .int j1] : List Value).toArray s 0 0 A) (F0 m 16 ls []) := by
    intro n
    induction n with
    | zero =>
      intro H locs ls ymr ymm ypc yha yca yfr yst z1 z2 z3 hP hD hS hl h
      exact (no_ne h).elim
    | succ n ih =>
      intro H locs ls ymr ymm ypc yha yca yfr yst z1 z2 z3 hP hD hS hl h
      have h : fn_M_run_B16 (fn_M_run_L16 n) ymr ymm ypc yha yca yfr yst ytk yta z1 z2 z3 = some o := h
      unfold fn_M_run_B16 at h
      refine lv_iload_n hx hb dX4_run_16 rfl (lv_at hl 3 rfl) ?_
      refine lv_iload_n hx hb dX4_run_17 rfl (lv_at hl 1 rfl) ?_
      refine lv_icmp_ge (tgt := 44) hx hb dX4_run_18 (by decide) (fun hc => ?_) (fun hc => ?_)
      · have h := if_y h hc
        refine lv_iload_n hx hb dX4_run_44 rfl (lv_at hl 2 rfl) ?_
        exact W.iret hx hb hr (fun t ht hW => ⟨⟨z2, (ymr, ymm, ypc, yha, yca, yfr, yst), rfl, h, by rw [ht]; exact hP, hD⟩, hS.F ht⟩) hS.2.2 dX4_run_45
      · have h := if_n h hc
        refine lv_aload_n hx hb dX4_run_21 rfl (lv_at hl 0 rfl) ?_
        refine va_get (D := (dC, dI)) (ci := 4) (v := .int yha) (C := RX4) (T := TX4) (N := 24) hx hb hts hinX4 hown hK hP 0 rfl rfl 3 (by decide) hf32 (fun _ h9 => h9) rfl dX4_run_22 ?_
        refine lv_if_ne (tgt := 38) hx hb dX4_run_25 (by decide) (fun hc => ?_) (fun hc => ?_)
        · have h := if_n h hc
          refine lv_iinc (k := 3) (v := (z3 + (1 : Int32))) hx hb dX4_run_38 hl rfl (ik_p1 _) (by decide) rfl (fun ls hl => ?_)
          have hl : lv_has ls 4 [(3, .int (z3 + (1 : Int32))), (0, .ref aM), (1, .int z1), (2, .int z2)] := hl
          refine lv_goto (tgt := 16) hx hb dX4_run_41 (by decide) ?_
          exact ih _ _ _ _ _ _ _ _ _ _ _ _ _ hP hD hS (lv_sub hl [1, 2, 3, 0] rfl) h
        · have h := if_y h hc
          refine lv_aload_n hx hb dX4_run_28 rfl (lv_at hl 0 rfl) ?_
          obtain ⟨v29, hv, h⟩ := bn_ex h
          have hPc := hP.sub (ws' := [(aM, .inr (4, [.ref amr, .ref amm, .int ypc, .int yha, .int yca, .int ysp, .int yfr, .int yst, .int yda, .int yer, .int yad, .ref apg, .ref atk, .ref ata, .int yse, .int yin, .ref arw, .int ywd, .int ytm, .int ybg, .int yan, .int ybs, .int yva, .int ynu])), (amr, .inl (kmr, 8, .inl ymr)), (amm, .inl (kmm, 64, .inl ymm)), (apg, .inl (kpg, 4, .inl ypg)), (atk, .inl (ktk, 2, .inl ytk)), (ata, .inl (kta, 2, .inl yta)), (arw, .inl (krw, 22, .inl yrw))]) [0, 1, 2, 3, 4, 5, 6] rfl
          have hDc := hD.sub (ws' := [(aM, .inr (4, [.ref amr, .ref amm, .int ypc, .int yha, .int yca, .int ysp, .int yfr, .int yst, .int yda, .int yer, .int yad, .ref apg, .ref atk, .ref ata, .int yse, .int yin, .ref arw, .int ywd, .int ytm, .int ybg, .int yan, .int ybs, .int yva, .int ynu])), (amr, .inl (kmr, 8, .inl ymr)), (amm, .inl (kmm, 64, .inl ymm)), (apg, .inl (kpg, 4, .inl ypg)), (atk, .inl (ktk, 2, .inl ytk)), (ata, .inl (kta, 2, .inl yta)), (arw, .inl (krw, 22, .inl yrw))]) [0, 1, 2, 3, 4, 5, 6] (by decide) rfl
          have hKc := hK.sub (tys' := [(kmr, .int), (kmm, .int), (kpg, .int), (ktk, .int), (kta, .int), (krw, .int)]) [0, 1, 2, 3, 4, 5] rfl
          have hFc := va_free (wc := [(aM, .inr (4, [.ref amr, .ref amm, .int ypc, .int yha, .int yca, .int ysp, .int yfr, .int yst, .int yda, .int yer, .int yad, .ref apg, .ref atk, .ref ata, .int yse, .int yin, .ref arw, .int ywd, .int ytm, .int ybg, .int yan, .int ybs, .int yva, .int ynu])), (amr, .inl (kmr, 8, .inl ymr)), (amm, .inl (kmm, 64, .inl ymm)), (apg, .inl (kpg, 4, .inl ypg)), (atk, .inl (ktk, 2, .inl ytk)), (ata, .inl (kta, 2, .inl yta)), (arw, .inl (krw, 22, .inl yrw))]) hD hS hA [0, 1, 2, 3, 4, 5, 6] rfl
          refine va_calli (va_runV (As := []) (rest := []) ⟨hx, hb, hml, hown, hts⟩ (ct_M_step l dC dI aM amr amm apg atk ata arw kmr kmm kpg ktk kta krw H.size ymr ymm ypc yha yca ysp yfr yst yda yer yad ypg ytk yta yse yin yrw ywd ytm ybg yan ybs yva ynu v29 hv) (cwV 0 hts gX4_run_X4_step rfl rfl rfl (by decide +kernel) ⟨Nat.le_of_ble_eq_true rfl, Nat.le_of_ble_eq_true rfl⟩) ⟨fun a U g mk q => by obtain ⟨q0, q1, qP, qK, qD⟩ := q; exact ⟨q0, q1, qP, va_K.moved (u := U) (U := U.calling g mk a) (Vm.Alike.refl U.vm) qK, qD⟩, va_recv (ci := 4) (q0 := 0) hK hP rfl rfl, fun U hU hW => ⟨rfl, by rw [hU], by rw [hU]; exact hPc, va_K.moved hW.alike hKc, hDc.weaken (fun _ _ _ _ => trivial)⟩⟩ rfl rfl hl.1 rfl (lv_room (Nat.le_of_ble_eq_true rfl)) dX4_run_29 ⟨Nat.zero_le _, Nat.zero_le _⟩) hS (fun q _ h => hFc q h) hFc (fun r u t H locs ht hvm hw hB hz1 hk1 hS => ?_)
          obtain ⟨rfl, rfl⟩ := pr_2 hw
          obtain ⟨hP1, hD1⟩ := hB
          rw [ht] at hP1
          obtain ⟨hP, hD⟩ := va_join (wr := []) (w1 := [(aM, .inr (4, [.ref amr, .ref amm, .int v29.2.2.2.1, .int v29.2.2.2.2.1, .int v29.2.2.2.2.2.1, .int ysp, .int v29.2.2.2.2.2.2.1, .int v29.2.2.2.2.2.2.2, .int yda, .int yer, .int yad, .ref apg, .ref atk, .ref ata, .int yse, .int yin, .ref arw, .int ywd, .int ytm, .int ybg, .int yan, .int ybs, .int yva, .int ynu])), (amr, .inl (kmr, 8, .inl v29.2.1)), (amm, .inl (kmm, 64, .inl v29.2.2.1)), (apg, .inl (kpg, 4, .inl ypg)), (atk, .inl (ktk, 2, .inl ytk)), (ata, .inl (kta, 2, .inl yta)), (arw, .inl (krw, 22, .inl yrw))]) hP hD [0, 1, 2, 3, 4, 5, 6] [] rfl rfl (by decide) (by decide) hk1 hFc hP1 hD1
          have hP : va_P (dC, dI) vwCl [(aM, .inr (4, [.ref amr, .ref amm, .int v29.2.2.2.1, .int v29.2.2.2.2.1, .int v29.2.2.2.2.2.1, .int ysp, .int v29.2.2.2.2.2.2.1, .int v29.2.2.2.2.2.2.2, .int yda, .int yer, .int yad, .ref apg, .ref atk, .ref ata, .int yse, .int yin, .ref arw, .int ywd, .int ytm, .int ybg, .int yan, .int ybs, .int yva, .int ynu])), (amr, .inl (kmr, 8, .inl v29.2.1)), (amm, .inl (kmm, 64, .inl v29.2.2.1)), (apg, .inl (kpg, 4, .inl ypg)), (atk, .inl (ktk, 2, .inl ytk)), (ata, .inl (kta, 2, .inl yta)), (arw, .inl (krw, 22, .inl yrw))] H := hP
          have hD : va_D A [(aM, .inr (4, [.ref amr, .ref amm, .int v29.2.2.2.1, .int v29.2.2.2.2.1, .int v29.2.2.2.2.2.1, .int ysp, .int v29.2.2.2.2.2.2.1, .int v29.2.2.2.2.2.2.2, .int yda, .int yer, .int yad, .ref apg, .ref atk, .ref ata, .int yse, .int yin, .ref arw, .int ywd, .int ytm, .int ybg, .int yan, .int ybs, .int yva, .int ynu])), (amr, .inl (kmr, 8, .inl v29.2.1)), (amm, .inl (kmm, 64, .inl v29.2.2.1)), (apg, .inl (kpg, 4, .inl ypg)), (atk, .inl (ktk, 2, .inl ytk)), (ata, .inl (kta, 2, .inl yta)), (arw, .inl (krw, 22, .inl yrw))] := hD
          refine lv_if_eq (tgt := 38) hx hb dX4_run_32 (by decide) (fun hc => ?_) (fun hc => ?_)
          · have h := if_y h hc
            refine lv_iinc (k := 3) (v := (z3 + (1 : Int32))) hx hb dX4_run_38 hl rfl (ik_p1 _) (by decide) rfl (fun ls hl => ?_)
            have hl : lv_has ls 4 [(3, .int (z3 + (1 : Int32))), (0, .ref aM), (1, .int z1), (2, .int z2)] := hl
            refine lv_goto (tgt := 16) hx hb dX4_run_41 (by decide) ?_
            exact ih _ _ _ _ _ _ _ _ _ _ _ _ _ hP hD hS (lv_sub hl [1, 2, 3, 0] rfl) h
          · have h := if_n h hc
            refine lv_iinc (k := 2) (v := (z2 + (1 : Int32))) hx hb dX4_run_35 hl rfl (ik_p1 _) (by decide) rfl (fun ls hl => ?_)
            have hl : lv_has ls 4 [(2, .int (z2 + (1 : Int32))), (0, .ref aM), (1, .int z1), (3, .int z3)] := hl
            refine lv_iinc (k := 3) (v := (z3 + (1 : Int32))) hx hb dX4_run_38 hl rfl (ik_p1 _) (by decide) rfl (fun ls hl => ?_)
            have hl : lv_has ls 4 [(3, .int (z3 + (1 : Int32))), (2, .int (z2 + (1 : Int32))), (0, .ref aM), (1, .int z1)] := hl
            refine lv_goto (tgt := 16) hx hb dX4_run_41 (by decide) ?_
            exact ih _ _ _ _ _ _ _ _ _ _ _ _ _ hP hD hS (lv_sub hl [2, 3, 1, 0] rfl) h
  have hl := lv_entry ([.ref aM, .int j1]) (n := 4) (Nat.le_of_ble_eq_true rfl)
  rw [lg_entry_eq]
  generalize (lg_sl ([.ref aM, .int j1]) ++ List.replicate (4 - (lg_sl ([.ref aM, .int j1])).length) Slot.unset).toArray = ls at hl ⊢
  have hl : lv_has ls 4 [(0, .ref aM), (1, .int j1)] := hl
  unfold fn_M_run at h
  refine lv_iload_n hx hb dX4_run_0 rfl (lv_at hl 1 rfl) ?_
  refine lv_iconst (v := (1 : Int32)) hx hb dX4_run_1 (by decide) ?_
  refine lv_bipush (v := (50 : Int32)) hx hb dX4_run_2 (by decide) ?_
  obtain ⟨v4, hv, h⟩ := bn_ex h
  have hPc := hP.sub (ws' := []) [] rfl
  have hDc := hD.sub (ws' := []) [] (by decide) rfl
  have hKc := hK.sub (tys' := []) [] rfl
  have hFc := va_free (wc := []) hD hS hA [] rfl
  refine va_calli (va_runS (As := [.int j1, .int (1 : Int32), .int (50 : Int32)]) (rest := []) ⟨hx, hb, hml, hown, hts⟩ (ct_M_in l dC dI  s.heap.size  j1 (1 : Int32) (50 : Int32) v4 hv) (cwS 3 hts gX4_run_X4_in rfl rfl rfl (by decide +kernel) ⟨Nat.le_of_ble_eq_true rfl, Nat.le_of_ble_eq_true rfl⟩) ⟨fun a U g mk q => by obtain ⟨q0, q1, qP, qK, qD⟩ := q; exact ⟨q0, q1, qP, va_K.moved (u := U) (U := U.calling g mk a) (Vm.Alike.refl U.vm) qK, qD⟩, fun U hU hW => ⟨rfl, by rw [hU], by rw [hU]; exact hPc, va_K.moved hW.alike hKc, hDc.weaken (fun _ _ _ _ => trivial)⟩⟩ rfl rfl hl.1 rfl (lv_room (Nat.le_of_ble_eq_true rfl)) dX4_run_4 ⟨Nat.zero_le _, Nat.zero_le _⟩) hS (fun q _ h => hFc q h) hFc (fun r u t H locs ht hvm hw hB hz1 hk1 hS => ?_)
  obtain rfl := pr_0 hw
  obtain ⟨hP1, hD1⟩ := hB
  rw [ht] at hP1
  obtain ⟨hP, hD⟩ := va_join (wr := [(aM, .inr (4, [.ref amr, .ref amm, .int ypc, .int yha, .int yca, .int ysp, .int yfr, .int yst, .int yda, .int yer, .int yad, .ref apg, .ref atk, .ref ata, .int yse, .int yin, .ref arw, .int ywd, .int ytm, .int ybg, .int yan, .int ybs, .int yva, .int ynu])), (amr, .inl (kmr, 8, .inl ymr)), (amm, .inl (kmm, 64, .inl ymm)), (apg, .inl (kpg, 4, .inl ypg)), (atk, .inl (ktk, 2, .inl ytk)), (ata, .inl (kta, 2, .inl yta)), (arw, .inl (krw, 22, .inl yrw))]) (w1 := []) hP hD [] [0, 1, 2, 3, 4, 5, 6] rfl rfl (by decide) (by decide) hk1 hFc hP1 hD1
  have hP : va_P (dC, dI) vwCl [(aM, .inr (4, [.ref amr, .ref amm, .int ypc, .int yha, .int yca, .int ysp, .int yfr, .int yst, .int yda, .int yer, .int yad, .ref apg, .ref atk, .ref ata, .int yse, .int yin, .ref arw, .int ywd, .int ytm, .int ybg, .int yan, .int ybs, .int yva, .int ynu])), (amr, .inl (kmr, 8, .inl ymr)), (amm, .inl (kmm, 64, .inl ymm)), (apg, .inl (kpg, 4, .inl ypg)), (atk, .inl (ktk, 2, .inl ytk)), (ata, .inl (kta, 2, .inl yta)), (arw, .inl (krw, 22, .inl yrw))] H := hP
  have hD : va_D A [(aM, .inr (4, [.ref amr, .ref amm, .int ypc, .int yha, .int yca, .int ysp, .int yfr, .int yst, .int yda, .int yer, .int yad, .ref apg, .ref atk, .ref ata, .int yse, .int yin, .ref arw, .int ywd, .int ytm, .int ybg, .int yan, .int ybs, .int yva, .int ynu])), (amr, .inl (kmr, 8, .inl ymr)), (amm, .inl (kmm, 64, .inl ymm)), (apg, .inl (kpg, 4, .inl ypg)), (atk, .inl (ktk, 2, .inl ytk)), (ata, .inl (kta, 2, .inl yta)), (arw, .inl (krw, 22, .inl yrw))] := hD
  refine lv_if_ne (tgt := 12) hx hb dX4_run_7 (by decide) (fun hc => ?_) (fun hc => ?_)
  · have h := if_n h hc
    refine lv_iconst (v := (0 : Int32)) hx hb dX4_run_12 (by decide) ?_
    refine lv_istore_n hx hb dX4_run_13 rfl hl (by decide) rfl (fun ls hl => ?_)
    have hl : lv_has ls 4 [(2, .int (0 : Int32)), (0, .ref aM), (1, .int j1)] := hl
    refine lv_iconst (v := (0 : Int32)) hx hb dX4_run_14 (by decide) ?_
    refine lv_istore_n hx hb dX4_run_15 rfl hl (by decide) rfl (fun ls hl => ?_)
    have hl : lv_has ls 4 [(3, .int (0 : Int32)), (2, .int (0 : Int32)), (0, .ref aM), (1, .int j1)] := hl
    exact k_16 64 _ _ _ _ _ _ _ _ _ _ _ _ _ hP hD hS (lv_sub hl [2, 3, 1, 0] rfl) h
  · have h := if_y h hc
    refine lv_iconst (v := (-1 : Int32)) hx hb dX4_run_10 (by decide) ?_
    exact W.iret hx hb hr (fun t ht hW => ⟨⟨(-1 : Int32), (ymr, ymm, ypc, yha, yca, yfr, yst), rfl, h, by rw [ht]; exact hP, hD⟩, hS.F ht⟩) hS.2.2 dX4_run_11
set_option maxHeartbeats 4000000 in
set_option maxRecDepth 100000 in
theorem ct_M_control (l : Launch) (dC : Nat → ClassId) (dI : Nat → Nat → Nat) (aM amr amm apg atk ata arw : Nat) (kmr kmm kpg ktk kta krw : ClassId) (sz : Nat) (ymr : (Nat → Int32)) (ymm : (Nat → Int32)) (ypc : Int32) (yha : Int32) (yca : Int32) (ysp : Int32) (yfr : Int32) (yst : Int32) (yda : Int32) (yer : Int32) (yad : Int32) (ypg : (Nat → Int32)) (ytk : (Nat → Int32)) (yta : (Nat → Int32)) (yse : Int32) (yin : Int32) (yrw : (Nat → Int32)) (ywd : Int32) (ytm : Int32) (ybg : Int32) (yan : Int32) (ybs : Int32) (yva : Int32) (ynu : Int32) (j1 : Int32) (o : (Nat → Int32) × (Nat → Int32) × Int32 × Int32 × Int32 × Int32 × Int32 × Int32) (h : fn_M_control ymr ymm ypc yha yca ysp yfr yst ytk yta j1 = some o) : Met l yX4_control wsX4_control ({ frames := 2, cells := 0, slots := 0, locals := 53 }) (va_Pc [.ref aM, .int j1] (fun U => U.heap.size = sz ∧ va_P (dC, dI) vwCl [(aM, .inr (4, [.ref amr, .ref amm, .int ypc, .int yha, .int yca, .int ysp, .int yfr, .int yst, .int yda, .int yer, .int yad, .ref apg, .ref atk, .ref ata, .int yse, .int yin, .ref arw, .int ywd, .int ytm, .int ybg, .int yan, .int ybs, .int yva, .int ynu])), (amr, .inl (kmr, 8, .inl ymr)), (amm, .inl (kmm, 64, .inl ymm)), (apg, .inl (kpg, 4, .inl ypg)), (atk, .inl (ktk, 2, .inl ytk)), (ata, .inl (kta, 2, .inl yta)), (arw, .inl (krw, 22, .inl yrw))] U.heap ∧ va_K (dC, dI) vwCl [(kmr, .int), (kmm, .int), (kpg, .int), (ktk, .int), (kta, .int), (krw, .int)] U ∧ va_D (fun _ => True) [(aM, .inr (4, [.ref amr, .ref amm, .int ypc, .int yha, .int yca, .int ysp, .int yfr, .int yst, .int yda, .int yer, .int yad, .ref apg, .ref atk, .ref ata, .int yse, .int yin, .ref arw, .int ywd, .int ytm, .int ybg, .int yan, .int ybs, .int yva, .int ynu])), (amr, .inl (kmr, 8, .inl ymr)), (amm, .inl (kmm, 64, .inl ymm)), (apg, .inl (kpg, 4, .inl ypg)), (atk, .inl (ktk, 2, .inl ytk)), (ata, .inl (kta, 2, .inl yta)), (arw, .inl (krw, 22, .inl yrw))])) (va_Qv (fun (u : (Nat → Int32) × (Nat → Int32) × Int32 × Int32 × Int32 × Int32 × Int32 × Int32) => some u = some o) (fun (u : (Nat → Int32) × (Nat → Int32) × Int32 × Int32 × Int32 × Int32 × Int32 × Int32) (t : State) => va_P (dC, dI) vwCl [(aM, .inr (4, [.ref amr, .ref amm, .int u.2.2.1, .int u.2.2.2.1, .int u.2.2.2.2.1, .int u.2.2.2.2.2.1, .int u.2.2.2.2.2.2.1, .int u.2.2.2.2.2.2.2, .int yda, .int yer, .int yad, .ref apg, .ref atk, .ref ata, .int yse, .int yin, .ref arw, .int ywd, .int ytm, .int ybg, .int yan, .int ybs, .int yva, .int ynu])), (amr, .inl (kmr, 8, .inl u.1)), (amm, .inl (kmm, 64, .inl u.2.1)), (apg, .inl (kpg, 4, .inl ypg)), (atk, .inl (ktk, 2, .inl ytk)), (ata, .inl (kta, 2, .inl yta)), (arw, .inl (krw, 22, .inl yrw))] t.heap ∧ va_D (va_A [(aM, .inr (4, [.ref amr, .ref amm, .int ypc, .int yha, .int yca, .int ysp, .int yfr, .int yst, .int yda, .int yer, .int yad, .ref apg, .ref atk, .ref ata, .int yse, .int yin, .ref arw, .int ywd, .int ytm, .int ybg, .int yan, .int ybs, .int yva, .int ynu])), (amr, .inl (kmr, 8, .inl ymr)), (amm, .inl (kmm, 64, .inl ymm)), (apg, .inl (kpg, 4, .inl ypg)), (atk, .inl (ktk, 2, .inl ytk)), (ata, .inl (kta, 2, .inl yta)), (arw, .inl (krw, 22, .inl yrw))] sz) [(aM, .inr (4, [.ref amr, .ref amm, .int u.2.2.1, .int u.2.2.2.1, .int u.2.2.2.2.1, .int u.2.2.2.2.2.1, .int u.2.2.2.2.2.2.1, .int u.2.2.2.2.2.2.2, .int yda, .int yer, .int yad, .ref apg, .ref atk, .ref ata, .int yse, .int yin, .ref arw, .int ywd, .int ytm, .int ybg, .int yan, .int ybs, .int yva, .int ynu])), (amr, .inl (kmr, 8, .inl u.1)), (amm, .inl (kmm, 64, .inl u.2.1)), (apg, .inl (kpg, 4, .inl ypg)), (atk, .inl (ktk, 2, .inl ytk)), (ata, .inl (kta, 2, .inl yta)), (arw, .inl (krw, 22, .inl yrw))]) (va_A [(aM, .inr (4, [.ref amr, .ref amm, .int ypc, .int yha, .int yca, .int ysp, .int yfr, .int yst, .int yda, .int yer, .int yad, .ref apg, .ref atk, .ref ata, .int yse, .int yin, .ref arw, .int ywd, .int ytm, .int ybg, .int yan, .int ybs, .int yva, .int ynu])), (amr, .inl (kmr, 8, .inl ymr)), (amm, .inl (kmm, 64, .inl ymm)), (apg, .inl (kpg, 4, .inl ypg)), (atk, .inl (ktk, 2, .inl ytk)), (ata, .inl (kta, 2, .inl yta)), (arw, .inl (krw, 22, .inl yrw))] sz)) 0 0 (va_A [(aM, .inr (4, [.ref amr, .ref amm, .int ypc, .int yha, .int yca, .int ysp, .int yfr, .int yst, .int yda, .int yer, .int yad, .ref apg, .ref atk, .ref ata, .int yse, .int yin, .ref arw, .int ywd, .int ytm, .int ybg, .int yan, .int ybs, .int yva, .int ynu])), (amr, .inl (kmr, 8, .inl ymr)), (amm, .inl (kmm, 64, .inl ymm)), (apg, .inl (kpg, 4, .inl ypg)), (atk, .inl (ktk, 2, .inl ytk)), (ata, .inl (kta, 2, .inl yta)), (arw, .inl (krw, 22, .inl yrw))] sz) := by
  refine Met.ofW (cc := cX4_control) (maxL := 2) (ret := none) (by decide) rfl ?_
  intro p e s m args below meth c s₁ B hml hv
  obtain ⟨rfl, hsz, hP, hK, hD0⟩ := hv
  have hx := B.exec
  have hb := B.bytes
  have hr := B.returns
  have hts := atoms_spec (ws := wsX4_control) B.pre
  have hown : s.vm.findClass RX4 = some m.cls := findClass_of_methodNamed B.named
  have hlocks := B.notSynchronized
  subst hsz
  have hD := hD0.self (sz := s.heap.size)
  generalize hAe : va_A [(aM, .inr (4, [.ref amr, .ref amm, .int ypc, .int yha, .int yca, .int ysp, .int yfr, .int yst, .int yda, .int yer, .int yad, .ref apg, .ref atk, .ref ata, .int yse, .int yin, .ref arw, .int ywd, .int ytm, .int ybg, .int yan, .int ybs, .int yva, .int ynu])), (amr, .inl (kmr, 8, .inl ymr)), (amm, .inl (kmm, 64, .inl ymm)), (apg, .inl (kpg, 4, .inl ypg)), (atk, .inl (ktk, 2, .inl ytk)), (ata, .inl (kta, 2, .inl yta)), (arw, .inl (krw, 22, .inl yrw))] s.heap.size = A at hD ⊢
  have hA : ∀ q : Nat, s.heap.size ≤ q → A q := fun q h => by rw [← hAe]; exact Or.inr h
  have hS : va_S A s.heap s.heap [] := va_S.rf
  have hP : va_P (dC, dI) vwCl [(aM, .inr (4, [.ref amr, .ref amm, .int ypc, .int yha, .int yca, .int ysp, .int yfr, .int yst, .int yda, .int yer, .int yad, .ref apg, .ref atk, .ref ata, .int yse, .int yin, .ref arw, .int ywd, .int ytm, .int ybg, .int yan, .int ybs, .int yva, .int ynu])), (amr, .inl (kmr, 8, .inl ymr)), (amm, .inl (kmm, 64, .inl ymm)), (apg, .inl (kpg, 4, .inl ypg)), (atk, .inl (ktk, 2, .inl ytk)), (ata, .inl (kta, 2, .inl yta)), (arw, .inl (krw, 22, .inl yrw))] s.heap := hP
  have hf32 := hts (.fieldLink RX4 32 "ProbeBenchModel" "halted" "Z") (by decide +kernel)
  have hf43 := hts (.fieldLink RX4 43 "ProbeBenchModel" "free" "Z") (by decide +kernel)
  have hf68 := hts (.fieldLink RX4 68 "ProbeBenchModel" "stepping" "Z") (by decide +kernel)
  have hinX4 : ∀ w ∈ u_ws RX4 TX4 24, w ∈ wsX4_control := by decide +kernel
  have k_12 : ∀ (H : Heap) (locs : List Loc) (ls : Array Slot) (ymr : (Nat → Int32)) (ymm : (Nat → Int32)) (ypc : Int32) (yha : Int32) (yca : Int32) (ysp : Int32) (yfr : Int32) (yst : Int32) (z1 : Int32) (w1 : Int32), va_P (dC, dI) vwCl [(aM, .inr (4, [.ref amr, .ref amm, .int ypc, .int yha, .int yca, .int ysp, .int yfr, .int yst, .int yda, .int yer, .int yad, .ref apg, .ref atk, .ref ata, .int yse, .int yin, .ref arw, .int ywd, .int ytm, .int ybg, .int yan, .int ybs, .int yva, .int ynu])), (amr, .inl (kmr, 8, .inl ymr)), (amm, .inl (kmm, 64, .inl ymm)), (apg, .inl (kpg, 4, .inl ypg)), (atk, .inl (ktk, 2, .inl ytk)), (ata, .inl (kta, 2, .inl yta)), (arw, .inl (krw, 22, .inl yrw))] H → va_D A [(aM, .inr (4, [.ref amr, .ref amm, .int ypc, .int yha, .int yca, .int ysp, .int yfr, .int yst, .int yda, .int yer, .int yad, .ref apg, .ref atk, .ref ata, .int yse, .int yin, .ref arw, .int ywd, .int ytm, .int ybg, .int yan, .int ybs, .int yva, .int ynu])), (amr, .inl (kmr, 8, .inl ymr)), (amm, .inl (kmm, 64, .inl ymm)), (apg, .inl (kpg, 4, .inl ypg)), (atk, .inl (ktk, 2, .inl ytk)), (ata, .inl (kta, 2, .inl yta)), (arw, .inl (krw, 22, .inl yrw))] → va_S A s.heap H locs → lv_has ls 2 [(0, .ref aM), (1, .int z1)] → fn_M_control_J12 ymr ymm ypc yha yca ysp yfr yst ytk yta z1 w1 = some o → W p l e (headSpec wsX4_control ({ frames := 2, cells := 0, slots := 0, locals := 53 })).room s m ([.ref aM, .int j1] : List Value).toArray below meth c H locs 0 0 (MQ below (va_Qv (fun (u : (Nat → Int32) × (Nat → Int32) × Int32 × Int32 × Int32 × Int32 × Int32 × Int32) => some u = some o) (fun (u : (Nat → Int32) × (Nat → Int32) × Int32 × Int32 × Int32 × Int32 × Int32 × Int32) (t : State) => va_P (dC, dI) vwCl [(aM, .inr (4, [.ref amr, .ref amm, .int u.2.2.1, .int u.2.2.2.1, .int u.2.2.2.2.1, .int u.2.2.2.2.2.1, .int u.2.2.2.2.2.2.1, .int u.2.2.2.2.2.2.2, .int yda, .int yer, .int yad, .ref apg, .ref atk, .ref ata, .int yse, .int yin, .ref arw, .int ywd, .int ytm, .int ybg, .int yan, .int ybs, .int yva, .int ynu])), (amr, .inl (kmr, 8, .inl u.1)), (amm, .inl (kmm, 64, .inl u.2.1)), (apg, .inl (kpg, 4, .inl ypg)), (atk, .inl (ktk, 2, .inl ytk)), (ata, .inl (kta, 2, .inl yta)), (arw, .inl (krw, 22, .inl yrw))] t.heap ∧ va_D A [(aM, .inr (4, [.ref amr, .ref amm, .int u.2.2.1, .int u.2.2.2.1, .int u.2.2.2.2.1, .int u.2.2.2.2.2.1, .int u.2.2.2.2.2.2.1, .int u.2.2.2.2.2.2.2, .int yda, .int yer, .int yad, .ref apg, .ref atk, .ref ata, .int yse, .int yin, .ref arw, .int ywd, .int ytm, .int ybg, .int yan, .int ybs, .int yva, .int ynu])), (amr, .inl (kmr, 8, .inl u.1)), (amm, .inl (kmm, 64, .inl u.2.1)), (apg, .inl (kpg, 4, .inl ypg)), (atk, .inl (ktk, 2, .inl ytk)), (ata, .inl (kta, 2, .inl yta)), (arw, .inl (krw, 22, .inl yrw))]) A) ([.ref aM, .int j1] : List Value).toArray s 0 0 A) (F0 m 12 ls [.int w1, .ref aM]) := by
    intro H locs ls ymr ymm ypc yha yca ysp yfr yst z1 w1 hP hD hS hl h
    unfold fn_M_control_J12 at h
    obtain ⟨hz, h⟩ := ckb_in h
    refine va_put (D := (dC, dI)) (ci := 4) (v := .int w1) (ty := .boolean) (C := RX4) (T := TX4) (N := 24) hx hb hts hinX4 tyX4 tyX4_ok nmX4 hown hK hP hD hS 0 rfl rfl 5 (by decide) hf68 (fun _ h9 => h9) rfl (by decide +kernel) (kb_n hz) (kb_f hz) (Nat.le_of_ble_eq_true rfl) dX4_control_12 (fun H locs hP hD hS => ?_)
    have hP : va_P (dC, dI) vwCl [(aM, .inr (4, [.ref amr, .ref amm, .int ypc, .int yha, .int yca, .int w1, .int yfr, .int yst, .int yda, .int yer, .int yad, .ref apg, .ref atk, .ref ata, .int yse, .int yin, .ref arw, .int ywd, .int ytm, .int ybg, .int yan, .int ybs, .int yva, .int ynu])), (amr, .inl (kmr, 8, .inl ymr)), (amm, .inl (kmm, 64, .inl ymm)), (apg, .inl (kpg, 4, .inl ypg)), (atk, .inl (ktk, 2, .inl ytk)), (ata, .inl (kta, 2, .inl yta)), (arw, .inl (krw, 22, .inl yrw))] H := hP
    have hD : va_D A [(aM, .inr (4, [.ref amr, .ref amm, .int ypc, .int yha, .int yca, .int w1, .int yfr, .int yst, .int yda, .int yer, .int yad, .ref apg, .ref atk, .ref ata, .int yse, .int yin, .ref arw, .int ywd, .int ytm, .int ybg, .int yan, .int ybs, .int yva, .int ynu])), (amr, .inl (kmr, 8, .inl ymr)), (amm, .inl (kmm, 64, .inl ymm)), (apg, .inl (kpg, 4, .inl ypg)), (atk, .inl (ktk, 2, .inl ytk)), (ata, .inl (kta, 2, .inl yta)), (arw, .inl (krw, 22, .inl yrw))] := hD
    refine lv_aload_n hx hb dX4_control_15 rfl (lv_at hl 0 rfl) ?_
    refine va_get (D := (dC, dI)) (ci := 4) (v := .int yha) (C := RX4) (T := TX4) (N := 24) hx hb hts hinX4 hown hK hP 0 rfl rfl 3 (by decide) hf32 (fun _ h9 => h9) rfl dX4_control_16 ?_
    refine lv_if_eq (tgt := 61) hx hb dX4_control_19 (by decide) (fun hc => ?_) (fun hc => ?_)
    · have h := if_y h hc
      refine lv_iload_n hx hb dX4_control_61 rfl (lv_at hl 1 rfl) ?_
      refine lv_iconst (v := (1 : Int32)) hx hb dX4_control_62 (by decide) ?_
      refine lv_iand hx hb dX4_control_63 ?_
      refine lv_if_eq (tgt := 72) hx hb dX4_control_64 (by decide) (fun hc => ?_) (fun hc => ?_)
      · have h := if_y h hc
        exact W.vret hx hb hr (fun t ht hW => ⟨⟨(ymr, ymm, ypc, yha, yca, w1, yfr, yst), rfl, h, by rw [ht]; exact hP, hD⟩, hS.F ht⟩) hS.2.2 dX4_control_72
      · have h := if_n h hc
        refine lv_aload_n hx hb dX4_control_67 rfl (lv_at hl 0 rfl) ?_
        refine lv_iconst (v := (3 : Int32)) hx hb dX4_control_68 (by decide) ?_
        obtain ⟨v69, hv, h⟩ := bn_ex h
        have hPc := hP.sub (ws' := [(aM, .inr (4, [.ref amr, .ref amm, .int ypc, .int yha, .int yca, .int w1, .int yfr, .int yst, .int yda, .int yer, .int yad, .ref apg, .ref atk, .ref ata, .int yse, .int yin, .ref arw, .int ywd, .int ytm, .int ybg, .int yan, .int ybs, .int yva, .int ynu])), (amr, .inl (kmr, 8, .inl ymr)), (amm, .inl (kmm, 64, .inl ymm)), (apg, .inl (kpg, 4, .inl ypg)), (atk, .inl (ktk, 2, .inl ytk)), (ata, .inl (kta, 2, .inl yta)), (arw, .inl (krw, 22, .inl yrw))]) [0, 1, 2, 3, 4, 5, 6] rfl
        have hDc := hD.sub (ws' := [(aM, .inr (4, [.ref amr, .ref amm, .int ypc, .int yha, .int yca, .int w1, .int yfr, .int yst, .int yda, .int yer, .int yad, .ref apg, .ref atk, .ref ata, .int yse, .int yin, .ref arw, .int ywd, .int ytm, .int ybg, .int yan, .int ybs, .int yva, .int ynu])), (amr, .inl (kmr, 8, .inl ymr)), (amm, .inl (kmm, 64, .inl ymm)), (apg, .inl (kpg, 4, .inl ypg)), (atk, .inl (ktk, 2, .inl ytk)), (ata, .inl (kta, 2, .inl yta)), (arw, .inl (krw, 22, .inl yrw))]) [0, 1, 2, 3, 4, 5, 6] (by decide) rfl
        have hKc := hK.sub (tys' := [(kmr, .int), (kmm, .int), (kpg, .int), (ktk, .int), (kta, .int), (krw, .int)]) [0, 1, 2, 3, 4, 5] rfl
        have hFc := va_free (wc := [(aM, .inr (4, [.ref amr, .ref amm, .int ypc, .int yha, .int yca, .int w1, .int yfr, .int yst, .int yda, .int yer, .int yad, .ref apg, .ref atk, .ref ata, .int yse, .int yin, .ref arw, .int ywd, .int ytm, .int ybg, .int yan, .int ybs, .int yva, .int ynu])), (amr, .inl (kmr, 8, .inl ymr)), (amm, .inl (kmm, 64, .inl ymm)), (apg, .inl (kpg, 4, .inl ypg)), (atk, .inl (ktk, 2, .inl ytk)), (ata, .inl (kta, 2, .inl yta)), (arw, .inl (krw, 22, .inl yrw))]) hD hS hA [0, 1, 2, 3, 4, 5, 6] rfl
        refine va_callv (va_runV (As := [.int (3 : Int32)]) (rest := []) ⟨hx, hb, hml, hown, hts⟩ (ct_M_halt l dC dI aM amr amm apg atk ata arw kmr kmm kpg ktk kta krw H.size ymr ymm ypc yha yca w1 yfr yst yda yer yad ypg ytk yta yse yin yrw ywd ytm ybg yan ybs yva ynu (3 : Int32) v69 hv) (cwV 1 hts gX4_control_X4_halt rfl rfl rfl (by decide +kernel) ⟨Nat.le_of_ble_eq_true rfl, Nat.le_of_ble_eq_true rfl⟩) ⟨fun a U g mk q => by obtain ⟨q0, q1, qP, qK, qD⟩ := q; exact ⟨q0, q1, qP, va_K.moved (u := U) (U := U.calling g mk a) (Vm.Alike.refl U.vm) qK, qD⟩, va_recv (ci := 4) (q0 := 0) hK hP rfl rfl, fun U hU hW => ⟨rfl, by rw [hU], by rw [hU]; exact hPc, va_K.moved hW.alike hKc, hDc.weaken (fun _ _ _ _ => trivial)⟩⟩ rfl rfl hl.1 rfl (lv_room (Nat.le_of_ble_eq_true rfl)) dX4_control_69 ⟨Nat.zero_le _, Nat.zero_le _⟩) hS (fun q _ h => hFc q h) hFc (fun u t H locs ht hvm hw hB hz1 hk1 hS => ?_)
        obtain rfl := pr_0 hw
        obtain ⟨hP1, hD1⟩ := hB
        rw [ht] at hP1
        obtain ⟨hP, hD⟩ := va_join (wr := []) (w1 := [(aM, .inr (4, [.ref amr, .ref amm, .int ypc, .int v69.1, .int v69.2, .int w1, .int yfr, .int yst, .int yda, .int yer, .int yad, .ref apg, .ref atk, .ref ata, .int yse, .int yin, .ref arw, .int ywd, .int ytm, .int ybg, .int yan, .int ybs, .int yva, .int ynu])), (amr, .inl (kmr, 8, .inl ymr)), (amm, .inl (kmm, 64, .inl ymm)), (apg, .inl (kpg, 4, .inl ypg)), (atk, .inl (ktk, 2, .inl ytk)), (ata, .inl (kta, 2, .inl yta)), (arw, .inl (krw, 22, .inl yrw))]) hP hD [0, 1, 2, 3, 4, 5, 6] [] rfl rfl (by decide) (by decide) hk1 hFc hP1 hD1
        have hP : va_P (dC, dI) vwCl [(aM, .inr (4, [.ref amr, .ref amm, .int ypc, .int v69.1, .int v69.2, .int w1, .int yfr, .int yst, .int yda, .int yer, .int yad, .ref apg, .ref atk, .ref ata, .int yse, .int yin, .ref arw, .int ywd, .int ytm, .int ybg, .int yan, .int ybs, .int yva, .int ynu])), (amr, .inl (kmr, 8, .inl ymr)), (amm, .inl (kmm, 64, .inl ymm)), (apg, .inl (kpg, 4, .inl ypg)), (atk, .inl (ktk, 2, .inl ytk)), (ata, .inl (kta, 2, .inl yta)), (arw, .inl (krw, 22, .inl yrw))] H := hP
        have hD : va_D A [(aM, .inr (4, [.ref amr, .ref amm, .int ypc, .int v69.1, .int v69.2, .int w1, .int yfr, .int yst, .int yda, .int yer, .int yad, .ref apg, .ref atk, .ref ata, .int yse, .int yin, .ref arw, .int ywd, .int ytm, .int ybg, .int yan, .int ybs, .int yva, .int ynu])), (amr, .inl (kmr, 8, .inl ymr)), (amm, .inl (kmm, 64, .inl ymm)), (apg, .inl (kpg, 4, .inl ypg)), (atk, .inl (ktk, 2, .inl ytk)), (ata, .inl (kta, 2, .inl yta)), (arw, .inl (krw, 22, .inl yrw))] := hD
        exact W.vret hx hb hr (fun t ht hW => ⟨⟨(ymr, ymm, ypc, v69.1, v69.2, w1, yfr, yst), rfl, h, by rw [ht]; exact hP, hD⟩, hS.F ht⟩) hS.2.2 dX4_control_72
    · have h := if_n h hc
      refine lv_iload_n hx hb dX4_control_22 rfl (lv_at hl 1 rfl) ?_
      refine lv_iconst (v := (2 : Int32)) hx hb dX4_control_23 (by decide) ?_
      refine lv_iand hx hb dX4_control_24 ?_
      refine lv_if_ne (tgt := 29) hx hb dX4_control_25 (by decide) (fun hc => ?_) (fun hc => ?_)
      · have h := if_n h hc
        refine lv_aload_n hx hb dX4_control_29 rfl (lv_at hl 0 rfl) ?_
        refine lv_iconst (v := (0 : Int32)) hx hb dX4_control_30 (by decide) ?_
        refine va_put (D := (dC, dI)) (ci := 4) (v := .int (0 : Int32)) (ty := .boolean) (C := RX4) (T := TX4) (N := 24) hx hb hts hinX4 tyX4 tyX4_ok nmX4 hown hK hP hD hS 0 rfl rfl 3 (by decide) hf32 (fun _ h9 => h9) rfl (by decide +kernel) (kb_n (Or.inl rfl)) (kb_f (Or.inl rfl)) (Nat.le_of_ble_eq_true rfl) dX4_control_31 (fun H locs hP hD hS => ?_)
        have hP : va_P (dC, dI) vwCl [(aM, .inr (4, [.ref amr, .ref amm, .int ypc, .int (0 : Int32), .int yca, .int w1, .int yfr, .int yst, .int yda, .int yer, .int yad, .ref apg, .ref atk, .ref ata, .int yse, .int yin, .ref arw, .int ywd, .int ytm, .int ybg, .int yan, .int ybs, .int yva, .int ynu])), (amr, .inl (kmr, 8, .inl ymr)), (amm, .inl (kmm, 64, .inl ymm)), (apg, .inl (kpg, 4, .inl ypg)), (atk, .inl (ktk, 2, .inl ytk)), (ata, .inl (kta, 2, .inl yta)), (arw, .inl (krw, 22, .inl yrw))] H := hP
        have hD : va_D A [(aM, .inr (4, [.ref amr, .ref amm, .int ypc, .int (0 : Int32), .int yca, .int w1, .int yfr, .int yst, .int yda, .int yer, .int yad, .ref apg, .ref atk, .ref ata, .int yse, .int yin, .ref arw, .int ywd, .int ytm, .int ybg, .int yan, .int ybs, .int yva, .int ynu])), (amr, .inl (kmr, 8, .inl ymr)), (amm, .inl (kmm, 64, .inl ymm)), (apg, .inl (kpg, 4, .inl ypg)), (atk, .inl (ktk, 2, .inl ytk)), (ata, .inl (kta, 2, .inl yta)), (arw, .inl (krw, 22, .inl yrw))] := hD
        refine lv_aload_n hx hb dX4_control_34 rfl (lv_at hl 0 rfl) ?_
        refine lv_iconst (v := (1 : Int32)) hx hb dX4_control_35 (by decide) ?_
        refine va_put (D := (dC, dI)) (ci := 4) (v := .int (1 : Int32)) (ty := .boolean) (C := RX4) (T := TX4) (N := 24) hx hb hts hinX4 tyX4 tyX4_ok nmX4 hown hK hP hD hS 0 rfl rfl 6 (by decide) hf43 (fun _ h9 => h9) rfl (by decide +kernel) (kb_n (Or.inr rfl)) (kb_f (Or.inr rfl)) (Nat.le_of_ble_eq_true rfl) dX4_control_36 (fun H locs hP hD hS => ?_)
        have hP : va_P (dC, dI) vwCl [(aM, .inr (4, [.ref amr, .ref amm, .int ypc, .int (0 : Int32), .int yca, .int w1, .int (1 : Int32), .int yst, .int yda, .int yer, .int yad, .ref apg, .ref atk, .ref ata, .int yse, .int yin, .ref arw, .int ywd, .int ytm, .int ybg, .int yan, .int ybs, .int yva, .int ynu])), (amr, .inl (kmr, 8, .inl ymr)), (amm, .inl (kmm, 64, .inl ymm)), (apg, .inl (kpg, 4, .inl ypg)), (atk, .inl (ktk, 2, .inl ytk)), (ata, .inl (kta, 2, .inl yta)), (arw, .inl (krw, 22, .inl yrw))] H := hP
        have hD : va_D A [(aM, .inr (4, [.ref amr, .ref amm, .int ypc, .int (0 : Int32), .int yca, .int w1, .int (1 : Int32), .int yst, .int yda, .int yer, .int yad, .ref apg, .ref atk, .ref ata, .int yse, .int yin, .ref arw, .int ywd, .int ytm, .int ybg, .int yan, .int ybs, .int yva, .int ynu])), (amr, .inl (kmr, 8, .inl ymr)), (amm, .inl (kmm, 64, .inl ymm)), (apg, .inl (kpg, 4, .inl ypg)), (atk, .inl (ktk, 2, .inl ytk)), (ata, .inl (kta, 2, .inl yta)), (arw, .inl (krw, 22, .inl yrw))] := hD
        refine lv_aload_n hx hb dX4_control_39 rfl (lv_at hl 0 rfl) ?_
        refine va_get (D := (dC, dI)) (ci := 4) (v := .int w1) (C := RX4) (T := TX4) (N := 24) hx hb hts hinX4 hown hK hP 0 rfl rfl 5 (by decide) hf68 (fun _ h9 => h9) rfl dX4_control_40 ?_
        refine lv_if_eq (tgt := 72) hx hb dX4_control_43 (by decide) (fun hc => ?_) (fun hc => ?_)
        · have h := if_y h hc
          exact W.vret hx hb hr (fun t ht hW => ⟨⟨(ymr, ymm, ypc, (0 : Int32), yca, w1, (1 : Int32), yst), rfl, h, by rw [ht]; exact hP, hD⟩, hS.F ht⟩) hS.2.2 dX4_control_72
        · have h := if_n h hc
          refine lv_aload_n hx hb dX4_control_46 rfl (lv_at hl 0 rfl) ?_
          obtain ⟨v47, hv, h⟩ := bn_ex h
          have hPc := hP.sub (ws' := [(aM, .inr (4, [.ref amr, .ref amm, .int ypc, .int (0 : Int32), .int yca, .int w1, .int (1 : Int32), .int yst, .int yda, .int yer, .int yad, .ref apg, .ref atk, .ref ata, .int yse, .int yin, .ref arw, .int ywd, .int ytm, .int ybg, .int yan, .int ybs, .int yva, .int ynu])), (amr, .inl (kmr, 8, .inl ymr)), (amm, .inl (kmm, 64, .inl ymm)), (apg, .inl (kpg, 4, .inl ypg)), (atk, .inl (ktk, 2, .inl ytk)), (ata, .inl (kta, 2, .inl yta)), (arw, .inl (krw, 22, .inl yrw))]) [0, 1, 2, 3, 4, 5, 6] rfl
          have hDc := hD.sub (ws' := [(aM, .inr (4, [.ref amr, .ref amm, .int ypc, .int (0 : Int32), .int yca, .int w1, .int (1 : Int32), .int yst, .int yda, .int yer, .int yad, .ref apg, .ref atk, .ref ata, .int yse, .int yin, .ref arw, .int ywd, .int ytm, .int ybg, .int yan, .int ybs, .int yva, .int ynu])), (amr, .inl (kmr, 8, .inl ymr)), (amm, .inl (kmm, 64, .inl ymm)), (apg, .inl (kpg, 4, .inl ypg)), (atk, .inl (ktk, 2, .inl ytk)), (ata, .inl (kta, 2, .inl yta)), (arw, .inl (krw, 22, .inl yrw))]) [0, 1, 2, 3, 4, 5, 6] (by decide) rfl
          have hKc := hK.sub (tys' := [(kmr, .int), (kmm, .int), (kpg, .int), (ktk, .int), (kta, .int), (krw, .int)]) [0, 1, 2, 3, 4, 5] rfl
          have hFc := va_free (wc := [(aM, .inr (4, [.ref amr, .ref amm, .int ypc, .int (0 : Int32), .int yca, .int w1, .int (1 : Int32), .int yst, .int yda, .int yer, .int yad, .ref apg, .ref atk, .ref ata, .int yse, .int yin, .ref arw, .int ywd, .int ytm, .int ybg, .int yan, .int ybs, .int yva, .int ynu])), (amr, .inl (kmr, 8, .inl ymr)), (amm, .inl (kmm, 64, .inl ymm)), (apg, .inl (kpg, 4, .inl ypg)), (atk, .inl (ktk, 2, .inl ytk)), (ata, .inl (kta, 2, .inl yta)), (arw, .inl (krw, 22, .inl yrw))]) hD hS hA [0, 1, 2, 3, 4, 5, 6] rfl
          refine va_calli (va_runV (As := []) (rest := []) ⟨hx, hb, hml, hown, hts⟩ (ct_M_step l dC dI aM amr amm apg atk ata arw kmr kmm kpg ktk kta krw H.size ymr ymm ypc (0 : Int32) yca w1 (1 : Int32) yst yda yer yad ypg ytk yta yse yin yrw ywd ytm ybg yan ybs yva ynu v47 hv) (cwV 0 hts gX4_control_X4_step rfl rfl rfl (by decide +kernel) ⟨Nat.le_of_ble_eq_true rfl, Nat.le_of_ble_eq_true rfl⟩) ⟨fun a U g mk q => by obtain ⟨q0, q1, qP, qK, qD⟩ := q; exact ⟨q0, q1, qP, va_K.moved (u := U) (U := U.calling g mk a) (Vm.Alike.refl U.vm) qK, qD⟩, va_recv (ci := 4) (q0 := 0) hK hP rfl rfl, fun U hU hW => ⟨rfl, by rw [hU], by rw [hU]; exact hPc, va_K.moved hW.alike hKc, hDc.weaken (fun _ _ _ _ => trivial)⟩⟩ rfl rfl hl.1 rfl (lv_room (Nat.le_of_ble_eq_true rfl)) dX4_control_47 ⟨Nat.zero_le _, Nat.zero_le _⟩) hS (fun q _ h => hFc q h) hFc (fun r u t H locs ht hvm hw hB hz1 hk1 hS => ?_)
          obtain ⟨rfl, rfl⟩ := pr_2 hw
          obtain ⟨hP1, hD1⟩ := hB
          rw [ht] at hP1
          obtain ⟨hP, hD⟩ := va_join (wr := []) (w1 := [(aM, .inr (4, [.ref amr, .ref amm, .int v47.2.2.2.1, .int v47.2.2.2.2.1, .int v47.2.2.2.2.2.1, .int w1, .int v47.2.2.2.2.2.2.1, .int v47.2.2.2.2.2.2.2, .int yda, .int yer, .int yad, .ref apg, .ref atk, .ref ata, .int yse, .int yin, .ref arw, .int ywd, .int ytm, .int ybg, .int yan, .int ybs, .int yva, .int ynu])), (amr, .inl (kmr, 8, .inl v47.2.1)), (amm, .inl (kmm, 64, .inl v47.2.2.1)), (apg, .inl (kpg, 4, .inl ypg)), (atk, .inl (ktk, 2, .inl ytk)), (ata, .inl (kta, 2, .inl yta)), (arw, .inl (krw, 22, .inl yrw))]) hP hD [0, 1, 2, 3, 4, 5, 6] [] rfl rfl (by decide) (by decide) hk1 hFc hP1 hD1
          have hP : va_P (dC, dI) vwCl [(aM, .inr (4, [.ref amr, .ref amm, .int v47.2.2.2.1, .int v47.2.2.2.2.1, .int v47.2.2.2.2.2.1, .int w1, .int v47.2.2.2.2.2.2.1, .int v47.2.2.2.2.2.2.2, .int yda, .int yer, .int yad, .ref apg, .ref atk, .ref ata, .int yse, .int yin, .ref arw, .int ywd, .int ytm, .int ybg, .int yan, .int ybs, .int yva, .int ynu])), (amr, .inl (kmr, 8, .inl v47.2.1)), (amm, .inl (kmm, 64, .inl v47.2.2.1)), (apg, .inl (kpg, 4, .inl ypg)), (atk, .inl (ktk, 2, .inl ytk)), (ata, .inl (kta, 2, .inl yta)), (arw, .inl (krw, 22, .inl yrw))] H := hP
          have hD : va_D A [(aM, .inr (4, [.ref amr, .ref amm, .int v47.2.2.2.1, .int v47.2.2.2.2.1, .int v47.2.2.2.2.2.1, .int w1, .int v47.2.2.2.2.2.2.1, .int v47.2.2.2.2.2.2.2, .int yda, .int yer, .int yad, .ref apg, .ref atk, .ref ata, .int yse, .int yin, .ref arw, .int ywd, .int ytm, .int ybg, .int yan, .int ybs, .int yva, .int ynu])), (amr, .inl (kmr, 8, .inl v47.2.1)), (amm, .inl (kmm, 64, .inl v47.2.2.1)), (apg, .inl (kpg, 4, .inl ypg)), (atk, .inl (ktk, 2, .inl ytk)), (ata, .inl (kta, 2, .inl yta)), (arw, .inl (krw, 22, .inl yrw))] := hD
          refine lv_if_eq (tgt := 72) hx hb dX4_control_50 (by decide) (fun hc => ?_) (fun hc => ?_)
          · have h := if_y h hc
            exact W.vret hx hb hr (fun t ht hW => ⟨⟨(v47.2.1, v47.2.2.1, v47.2.2.2.1, v47.2.2.2.2.1, v47.2.2.2.2.2.1, w1, v47.2.2.2.2.2.2.1, v47.2.2.2.2.2.2.2), rfl, h, by rw [ht]; exact hP, hD⟩, hS.F ht⟩) hS.2.2 dX4_control_72
          · have h := if_n h hc
            refine lv_aload_n hx hb dX4_control_53 rfl (lv_at hl 0 rfl) ?_
            refine lv_iconst (v := (4 : Int32)) hx hb dX4_control_54 (by decide) ?_
            obtain ⟨v55, hv, h⟩ := bn_ex h
            have hPc := hP.sub (ws' := [(aM, .inr (4, [.ref amr, .ref amm, .int v47.2.2.2.1, .int v47.2.2.2.2.1, .int v47.2.2.2.2.2.1, .int w1, .int v47.2.2.2.2.2.2.1, .int v47.2.2.2.2.2.2.2, .int yda, .int yer, .int yad, .ref apg, .ref atk, .ref ata, .int yse, .int yin, .ref arw, .int ywd, .int ytm, .int ybg, .int yan, .int ybs, .int yva, .int ynu])), (amr, .inl (kmr, 8, .inl v47.2.1)), (amm, .inl (kmm, 64, .inl v47.2.2.1)), (apg, .inl (kpg, 4, .inl ypg)), (atk, .inl (ktk, 2, .inl ytk)), (ata, .inl (kta, 2, .inl yta)), (arw, .inl (krw, 22, .inl yrw))]) [0, 1, 2, 3, 4, 5, 6] rfl
            have hDc := hD.sub (ws' := [(aM, .inr (4, [.ref amr, .ref amm, .int v47.2.2.2.1, .int v47.2.2.2.2.1, .int v47.2.2.2.2.2.1, .int w1, .int v47.2.2.2.2.2.2.1, .int v47.2.2.2.2.2.2.2, .int yda, .int yer, .int yad, .ref apg, .ref atk, .ref ata, .int yse, .int yin, .ref arw, .int ywd, .int ytm, .int ybg, .int yan, .int ybs, .int yva, .int ynu])), (amr, .inl (kmr, 8, .inl v47.2.1)), (amm, .inl (kmm, 64, .inl v47.2.2.1)), (apg, .inl (kpg, 4, .inl ypg)), (atk, .inl (ktk, 2, .inl ytk)), (ata, .inl (kta, 2, .inl yta)), (arw, .inl (krw, 22, .inl yrw))]) [0, 1, 2, 3, 4, 5, 6] (by decide) rfl
            have hKc := hK.sub (tys' := [(kmr, .int), (kmm, .int), (kpg, .int), (ktk, .int), (kta, .int), (krw, .int)]) [0, 1, 2, 3, 4, 5] rfl
            have hFc := va_free (wc := [(aM, .inr (4, [.ref amr, .ref amm, .int v47.2.2.2.1, .int v47.2.2.2.2.1, .int v47.2.2.2.2.2.1, .int w1, .int v47.2.2.2.2.2.2.1, .int v47.2.2.2.2.2.2.2, .int yda, .int yer, .int yad, .ref apg, .ref atk, .ref ata, .int yse, .int yin, .ref arw, .int ywd, .int ytm, .int ybg, .int yan, .int ybs, .int yva, .int ynu])), (amr, .inl (kmr, 8, .inl v47.2.1)), (amm, .inl (kmm, 64, .inl v47.2.2.1)), (apg, .inl (kpg, 4, .inl ypg)), (atk, .inl (ktk, 2, .inl ytk)), (ata, .inl (kta, 2, .inl yta)), (arw, .inl (krw, 22, .inl yrw))]) hD hS hA [0, 1, 2, 3, 4, 5, 6] rfl
            refine va_callv (va_runV (As := [.int (4 : Int32)]) (rest := []) ⟨hx, hb, hml, hown, hts⟩ (ct_M_halt l dC dI aM amr amm apg atk ata arw kmr kmm kpg ktk kta krw H.size v47.2.1 v47.2.2.1 v47.2.2.2.1 v47.2.2.2.2.1 v47.2.2.2.2.2.1 w1 v47.2.2.2.2.2.2.1 v47.2.2.2.2.2.2.2 yda yer yad ypg ytk yta yse yin yrw ywd ytm ybg yan ybs yva ynu (4 : Int32) v55 hv) (cwV 1 hts gX4_control_X4_halt rfl rfl rfl (by decide +kernel) ⟨Nat.le_of_ble_eq_true rfl, Nat.le_of_ble_eq_true rfl⟩) ⟨fun a U g mk q => by obtain ⟨q0, q1, qP, qK, qD⟩ := q; exact ⟨q0, q1, qP, va_K.moved (u := U) (U := U.calling g mk a) (Vm.Alike.refl U.vm) qK, qD⟩, va_recv (ci := 4) (q0 := 0) hK hP rfl rfl, fun U hU hW => ⟨rfl, by rw [hU], by rw [hU]; exact hPc, va_K.moved hW.alike hKc, hDc.weaken (fun _ _ _ _ => trivial)⟩⟩ rfl rfl hl.1 rfl (lv_room (Nat.le_of_ble_eq_true rfl)) dX4_control_55 ⟨Nat.zero_le _, Nat.zero_le _⟩) hS (fun q _ h => hFc q h) hFc (fun u t H locs ht hvm hw hB hz1 hk1 hS => ?_)
            obtain rfl := pr_0 hw
            obtain ⟨hP1, hD1⟩ := hB
            rw [ht] at hP1
            obtain ⟨hP, hD⟩ := va_join (wr := []) (w1 := [(aM, .inr (4, [.ref amr, .ref amm, .int v47.2.2.2.1, .int v55.1, .int v55.2, .int w1, .int v47.2.2.2.2.2.2.1, .int v47.2.2.2.2.2.2.2, .int yda, .int yer, .int yad, .ref apg, .ref atk, .ref ata, .int yse, .int yin, .ref arw, .int ywd, .int ytm, .int ybg, .int yan, .int ybs, .int yva, .int ynu])), (amr, .inl (kmr, 8, .inl v47.2.1)), (amm, .inl (kmm, 64, .inl v47.2.2.1)), (apg, .inl (kpg, 4, .inl ypg)), (atk, .inl (ktk, 2, .inl ytk)), (ata, .inl (kta, 2, .inl yta)), (arw, .inl (krw, 22, .inl yrw))]) hP hD [0, 1, 2, 3, 4, 5, 6] [] rfl rfl (by decide) (by decide) hk1 hFc hP1 hD1
            have hP : va_P (dC, dI) vwCl [(aM, .inr (4, [.ref amr, .ref amm, .int v47.2.2.2.1, .int v55.1, .int v55.2, .int w1, .int v47.2.2.2.2.2.2.1, .int v47.2.2.2.2.2.2.2, .int yda, .int yer, .int yad, .ref apg, .ref atk, .ref ata, .int yse, .int yin, .ref arw, .int ywd, .int ytm, .int ybg, .int yan, .int ybs, .int yva, .int ynu])), (amr, .inl (kmr, 8, .inl v47.2.1)), (amm, .inl (kmm, 64, .inl v47.2.2.1)), (apg, .inl (kpg, 4, .inl ypg)), (atk, .inl (ktk, 2, .inl ytk)), (ata, .inl (kta, 2, .inl yta)), (arw, .inl (krw, 22, .inl yrw))] H := hP
            have hD : va_D A [(aM, .inr (4, [.ref amr, .ref amm, .int v47.2.2.2.1, .int v55.1, .int v55.2, .int w1, .int v47.2.2.2.2.2.2.1, .int v47.2.2.2.2.2.2.2, .int yda, .int yer, .int yad, .ref apg, .ref atk, .ref ata, .int yse, .int yin, .ref arw, .int ywd, .int ytm, .int ybg, .int yan, .int ybs, .int yva, .int ynu])), (amr, .inl (kmr, 8, .inl v47.2.1)), (amm, .inl (kmm, 64, .inl v47.2.2.1)), (apg, .inl (kpg, 4, .inl ypg)), (atk, .inl (ktk, 2, .inl ytk)), (ata, .inl (kta, 2, .inl yta)), (arw, .inl (krw, 22, .inl yrw))] := hD
            refine lv_goto (tgt := 72) hx hb dX4_control_58 (by decide) ?_
            exact W.vret hx hb hr (fun t ht hW => ⟨⟨(v47.2.1, v47.2.2.1, v47.2.2.2.1, v55.1, v55.2, w1, v47.2.2.2.2.2.2.1, v47.2.2.2.2.2.2.2), rfl, h, by rw [ht]; exact hP, hD⟩, hS.F ht⟩) hS.2.2 dX4_control_72
      · have h := if_y h hc
        exact W.vret hx hb hr (fun t ht hW => ⟨⟨(ymr, ymm, ypc, yha, yca, w1, yfr, yst), rfl, h, by rw [ht]; exact hP, hD⟩, hS.F ht⟩) hS.2.2 dX4_control_28
  have hl := lv_entry ([.ref aM, .int j1]) (n := 2) (Nat.le_of_ble_eq_true rfl)
  rw [lg_entry_eq]
  generalize (lg_sl ([.ref aM, .int j1]) ++ List.replicate (2 - (lg_sl ([.ref aM, .int j1])).length) Slot.unset).toArray = ls at hl ⊢
  have hl : lv_has ls 2 [(0, .ref aM), (1, .int j1)] := hl
  unfold fn_M_control at h
  refine lv_aload_n hx hb dX4_control_0 rfl (lv_at hl 0 rfl) ?_
  refine lv_iload_n hx hb dX4_control_1 rfl (lv_at hl 1 rfl) ?_
  refine lv_iconst (v := (4 : Int32)) hx hb dX4_control_2 (by decide) ?_
  refine lv_iand hx hb dX4_control_3 ?_
  refine lv_if_eq (tgt := 11) hx hb dX4_control_4 (by decide) (fun hc => ?_) (fun hc => ?_)
  · have h := if_y h hc
    refine lv_iconst (v := (0 : Int32)) hx hb dX4_control_11 (by decide) ?_
    exact k_12 _ _ _ _ _ _ _ _ _ _ _ _ _ hP hD hS hl h
  · have h := if_n h hc
    refine lv_iconst (v := (1 : Int32)) hx hb dX4_control_7 (by decide) ?_
    refine lv_goto (tgt := 12) hx hb dX4_control_8 (by decide) ?_
    exact k_12 _ _ _ _ _ _ _ _ _ _ _ _ _ hP hD hS hl h
set_option maxHeartbeats 4000000 in
set_option maxRecDepth 100000 in
theorem ct_M_runProgram (l : Launch) (dC : Nat → ClassId) (dI : Nat → Nat → Nat) (aM amr amm apg atk ata arw : Nat) (kmr kmm kpg ktk kta krw : ClassId) (sz : Nat) (ymr : (Nat → Int32)) (ymm : (Nat → Int32)) (ypc : Int32) (yha : Int32) (yca : Int32) (ysp : Int32) (yfr : Int32) (yst : Int32) (yda : Int32) (yer : Int32) (yad : Int32) (ypg : (Nat → Int32)) (ytk : (Nat → Int32)) (yta : (Nat → Int32)) (yse : Int32) (yin : Int32) (yrw : (Nat → Int32)) (ywd : Int32) (ytm : Int32) (ybg : Int32) (yan : Int32) (ybs : Int32) (yva : Int32) (ynu : Int32) (o : (Nat → Int32) × (Nat → Int32) × Int32) (h : fn_M_runProgram ymr ymm yer ypg = some o) : Met l yX4_runProgram wsX4_runProgram ({ frames := 1, cells := 0, slots := 0, locals := 25 }) (va_Pc [.ref aM] (fun U => U.heap.size = sz ∧ va_P (dC, dI) vwCl [(aM, .inr (4, [.ref amr, .ref amm, .int ypc, .int yha, .int yca, .int ysp, .int yfr, .int yst, .int yda, .int yer, .int yad, .ref apg, .ref atk, .ref ata, .int yse, .int yin, .ref arw, .int ywd, .int ytm, .int ybg, .int yan, .int ybs, .int yva, .int ynu])), (amr, .inl (kmr, 8, .inl ymr)), (amm, .inl (kmm, 64, .inl ymm)), (apg, .inl (kpg, 4, .inl ypg)), (atk, .inl (ktk, 2, .inl ytk)), (ata, .inl (kta, 2, .inl yta)), (arw, .inl (krw, 22, .inl yrw))] U.heap ∧ va_K (dC, dI) vwCl [(kmr, .int), (kmm, .int), (kpg, .int), (ktk, .int), (kta, .int), (krw, .int)] U ∧ va_D (fun _ => True) [(aM, .inr (4, [.ref amr, .ref amm, .int ypc, .int yha, .int yca, .int ysp, .int yfr, .int yst, .int yda, .int yer, .int yad, .ref apg, .ref atk, .ref ata, .int yse, .int yin, .ref arw, .int ywd, .int ytm, .int ybg, .int yan, .int ybs, .int yva, .int ynu])), (amr, .inl (kmr, 8, .inl ymr)), (amm, .inl (kmm, 64, .inl ymm)), (apg, .inl (kpg, 4, .inl ypg)), (atk, .inl (ktk, 2, .inl ytk)), (ata, .inl (kta, 2, .inl yta)), (arw, .inl (krw, 22, .inl yrw))])) (va_Qv (fun (u : (Nat → Int32) × (Nat → Int32) × Int32) => some u = some o) (fun (u : (Nat → Int32) × (Nat → Int32) × Int32) (t : State) => va_P (dC, dI) vwCl [(aM, .inr (4, [.ref amr, .ref amm, .int ypc, .int yha, .int yca, .int ysp, .int yfr, .int yst, .int yda, .int u.2.2, .int yad, .ref apg, .ref atk, .ref ata, .int yse, .int yin, .ref arw, .int ywd, .int ytm, .int ybg, .int yan, .int ybs, .int yva, .int ynu])), (amr, .inl (kmr, 8, .inl u.1)), (amm, .inl (kmm, 64, .inl u.2.1)), (apg, .inl (kpg, 4, .inl ypg)), (atk, .inl (ktk, 2, .inl ytk)), (ata, .inl (kta, 2, .inl yta)), (arw, .inl (krw, 22, .inl yrw))] t.heap ∧ va_D (va_A [(aM, .inr (4, [.ref amr, .ref amm, .int ypc, .int yha, .int yca, .int ysp, .int yfr, .int yst, .int yda, .int yer, .int yad, .ref apg, .ref atk, .ref ata, .int yse, .int yin, .ref arw, .int ywd, .int ytm, .int ybg, .int yan, .int ybs, .int yva, .int ynu])), (amr, .inl (kmr, 8, .inl ymr)), (amm, .inl (kmm, 64, .inl ymm)), (apg, .inl (kpg, 4, .inl ypg)), (atk, .inl (ktk, 2, .inl ytk)), (ata, .inl (kta, 2, .inl yta)), (arw, .inl (krw, 22, .inl yrw))] sz) [(aM, .inr (4, [.ref amr, .ref amm, .int ypc, .int yha, .int yca, .int ysp, .int yfr, .int yst, .int yda, .int u.2.2, .int yad, .ref apg, .ref atk, .ref ata, .int yse, .int yin, .ref arw, .int ywd, .int ytm, .int ybg, .int yan, .int ybs, .int yva, .int ynu])), (amr, .inl (kmr, 8, .inl u.1)), (amm, .inl (kmm, 64, .inl u.2.1)), (apg, .inl (kpg, 4, .inl ypg)), (atk, .inl (ktk, 2, .inl ytk)), (ata, .inl (kta, 2, .inl yta)), (arw, .inl (krw, 22, .inl yrw))]) (va_A [(aM, .inr (4, [.ref amr, .ref amm, .int ypc, .int yha, .int yca, .int ysp, .int yfr, .int yst, .int yda, .int yer, .int yad, .ref apg, .ref atk, .ref ata, .int yse, .int yin, .ref arw, .int ywd, .int ytm, .int ybg, .int yan, .int ybs, .int yva, .int ynu])), (amr, .inl (kmr, 8, .inl ymr)), (amm, .inl (kmm, 64, .inl ymm)), (apg, .inl (kpg, 4, .inl ypg)), (atk, .inl (ktk, 2, .inl ytk)), (ata, .inl (kta, 2, .inl yta)), (arw, .inl (krw, 22, .inl yrw))] sz)) 0 0 (va_A [(aM, .inr (4, [.ref amr, .ref amm, .int ypc, .int yha, .int yca, .int ysp, .int yfr, .int yst, .int yda, .int yer, .int yad, .ref apg, .ref atk, .ref ata, .int yse, .int yin, .ref arw, .int ywd, .int ytm, .int ybg, .int yan, .int ybs, .int yva, .int ynu])), (amr, .inl (kmr, 8, .inl ymr)), (amm, .inl (kmm, 64, .inl ymm)), (apg, .inl (kpg, 4, .inl ypg)), (atk, .inl (ktk, 2, .inl ytk)), (ata, .inl (kta, 2, .inl yta)), (arw, .inl (krw, 22, .inl yrw))] sz) := by
  refine Met.ofW (cc := cX4_runProgram) (maxL := 3) (ret := none) (by decide) rfl ?_
  intro p e s m args below meth c s₁ B hml hv
  obtain ⟨rfl, hsz, hP, hK, hD0⟩ := hv
  have hx := B.exec
  have hb := B.bytes
  have hr := B.returns
  have hts := atoms_spec (ws := wsX4_runProgram) B.pre
  have hown : s.vm.findClass RX4 = some m.cls := findClass_of_methodNamed B.named
  have hlocks := B.notSynchronized
  subst hsz
  have hD := hD0.self (sz := s.heap.size)
  generalize hAe : va_A [(aM, .inr (4, [.ref amr, .ref amm, .int ypc, .int yha, .int yca, .int ysp, .int yfr, .int yst, .int yda, .int yer, .int yad, .ref apg, .ref atk, .ref ata, .int yse, .int yin, .ref arw, .int ywd, .int ytm, .int ybg, .int yan, .int ybs, .int yva, .int ynu])), (amr, .inl (kmr, 8, .inl ymr)), (amm, .inl (kmm, 64, .inl ymm)), (apg, .inl (kpg, 4, .inl ypg)), (atk, .inl (ktk, 2, .inl ytk)), (ata, .inl (kta, 2, .inl yta)), (arw, .inl (krw, 22, .inl yrw))] s.heap.size = A at hD ⊢
  have hA : ∀ q : Nat, s.heap.size ≤ q → A q := fun q h => by rw [← hAe]; exact Or.inr h
  have hS : va_S A s.heap s.heap [] := va_S.rf
  have hP : va_P (dC, dI) vwCl [(aM, .inr (4, [.ref amr, .ref amm, .int ypc, .int yha, .int yca, .int ysp, .int yfr, .int yst, .int yda, .int yer, .int yad, .ref apg, .ref atk, .ref ata, .int yse, .int yin, .ref arw, .int ywd, .int ytm, .int ybg, .int yan, .int ybs, .int yva, .int ynu])), (amr, .inl (kmr, 8, .inl ymr)), (amm, .inl (kmm, 64, .inl ymm)), (apg, .inl (kpg, 4, .inl ypg)), (atk, .inl (ktk, 2, .inl ytk)), (ata, .inl (kta, 2, .inl yta)), (arw, .inl (krw, 22, .inl yrw))] s.heap := hP
  have hf16 := hts (.fieldLink RX4 16 "ProbeBenchModel" "program" "[I") (by decide +kernel)
  have hf71 := hts (.fieldLink RX4 71 "ProbeBenchModel" "error" "I") (by decide +kernel)
  have hinX4 : ∀ w ∈ u_ws RX4 TX4 24, w ∈ wsX4_runProgram := by decide +kernel
  have k_2 : ∀ (n : Nat), ∀ (H : Heap) (locs : List Loc) (ls : Array Slot) (ymr : (Nat → Int32)) (ymm : (Nat → Int32)) (yer : Int32) (z1 : Int32), va_P (dC, dI) vwCl [(aM, .inr (4, [.ref amr, .ref amm, .int ypc, .int yha, .int yca, .int ysp, .int yfr, .int yst, .int yda, .int yer, .int yad, .ref apg, .ref atk, .ref ata, .int yse, .int yin, .ref arw, .int ywd, .int ytm, .int ybg, .int yan, .int ybs, .int yva, .int ynu])), (amr, .inl (kmr, 8, .inl ymr)), (amm, .inl (kmm, 64, .inl ymm)), (apg, .inl (kpg, 4, .inl ypg)), (atk, .inl (ktk, 2, .inl ytk)), (ata, .inl (kta, 2, .inl yta)), (arw, .inl (krw, 22, .inl yrw))] H → va_D A [(aM, .inr (4, [.ref amr, .ref amm, .int ypc, .int yha, .int yca, .int ysp, .int yfr, .int yst, .int yda, .int yer, .int yad, .ref apg, .ref atk, .ref ata, .int yse, .int yin, .ref arw, .int ywd, .int ytm, .int ybg, .int yan, .int ybs, .int yva, .int ynu])), (amr, .inl (kmr, 8, .inl ymr)), (amm, .inl (kmm, 64, .inl ymm)), (apg, .inl (kpg, 4, .inl ypg)), (atk, .inl (ktk, 2, .inl ytk)), (ata, .inl (kta, 2, .inl yta)), (arw, .inl (krw, 22, .inl yrw))] → va_S A s.heap H locs → lv_has ls 3 [(0, .ref aM), (1, .int z1)] → fn_M_runProgram_L2 n ymr ymm yer ypg z1 = some o → W p l e (headSpec wsX4_runProgram ({ frames := 1, cells := 0, slots := 0, locals := 25 })).room s m ([.ref aM] : List Value).toArray below meth c H locs 0 0 (MQ below (va_Qv (fun (u : (Nat → Int32) × (Nat → Int32) × Int32) => some u = some o) (fun (u : (Nat → Int32) × (Nat → Int32) × Int32) (t : State) => va_P (dC, dI) vwCl [(aM, .inr (4, [.ref amr, .ref amm, .int ypc, .int yha, .int yca, .int ysp, .int yfr, .int yst, .int yda, .int u.2.2, .int yad, .ref apg, .ref atk, .ref ata, .int yse, .int yin, .ref arw, .int ywd, .int ytm, .int ybg, .int yan, .int ybs, .int yva, .int ynu])), (amr, .inl (kmr, 8, .inl u.1)), (amm, .inl (kmm, 64, .inl u.2.1)), (apg, .inl (kpg, 4, .inl ypg)), (atk, .inl (ktk, 2, .inl ytk)), (ata, .inl (kta, 2, .inl yta)), (arw, .inl (krw, 22, .inl yrw))] t.heap ∧ va_D A [(aM, .inr (4, [.ref amr, .ref amm, .int ypc, .int yha, .int yca, .int ysp, .int yfr, .int yst, .int yda, .int u.2.2, .int yad, .ref apg, .ref atk, .ref ata, .int yse, .int yin, .ref arw, .int ywd, .int ytm, .int ybg, .int yan, .int ybs, .int yva, .int ynu])), (amr, .inl (kmr, 8, .inl u.1)), (amm, .inl (kmm, 64, .inl u.2.1)), (apg, .inl (kpg, 4, .inl ypg)), (atk, .inl (ktk, 2, .inl ytk)), (ata, .inl (kta, 2, .inl yta)), (arw, .inl (krw, 22, .inl yrw))]) A) ([.ref aM] : List Value).toArray s 0 0 A) (F0 m 2 ls []) := by
    intro n
    induction n with
    | zero =>
      intro H locs ls ymr ymm yer z1 hP hD hS hl h
      exact (no_ne h).elim
    | succ n ih =>
      intro H locs ls ymr ymm yer z1 hP hD hS hl h
      have h : fn_M_runProgram_B2 (fn_M_runProgram_L2 n) ymr ymm yer ypg z1 = some o := h
      unfold fn_M_runProgram_B2 at h
      refine lv_iload_n hx hb dX4_runProgram_2 rfl (lv_at hl 1 rfl) ?_
      refine lv_iconst (v := (4 : Int32)) hx hb dX4_runProgram_3 (by decide) ?_
      refine lv_icmp_ge (tgt := 57) hx hb dX4_runProgram_4 (by decide) (fun hc => ?_) (fun hc => ?_)
      · have h := if_y h hc
        exact W.vret hx hb hr (fun t ht hW => ⟨⟨(ymr, ymm, yer), rfl, h, by rw [ht]; exact hP, hD⟩, hS.F ht⟩) hS.2.2 dX4_runProgram_57
      · have h := if_n h hc
        refine lv_aload_n hx hb dX4_runProgram_7 rfl (lv_at hl 0 rfl) ?_
        refine va_get (D := (dC, dI)) (ci := 4) (v := .ref apg) (C := RX4) (T := TX4) (N := 24) hx hb hts hinX4 hown hK hP 0 rfl rfl 11 (by decide) hf16 (fun _ h9 => h9) rfl dX4_runProgram_8 ?_
        refine lv_iload_n hx hb dX4_runProgram_11 rfl (lv_at hl 1 rfl) ?_
        obtain ⟨hi, h⟩ := ck_in h
        refine va_iald hx hb hK hP 3 2 rfl rfl hi dX4_runProgram_12 ?_
        refine lv_bipush (v := (12 : Int32)) hx hb dX4_runProgram_13 (by decide) ?_
        refine lv_ishr hx hb dX4_runProgram_15 ?_
        refine lv_istore_n hx hb dX4_runProgram_16 rfl hl (by decide) rfl (fun ls hl => ?_)
        have hl : lv_has ls 3 [(2, .int ((ypg (Int32.toNatClampNeg z1)) >>> ((12 : Int32) &&& (31 : Int32)))), (0, .ref aM), (1, .int z1)] := hl
        refine lv_iload_n hx hb dX4_runProgram_17 rfl (lv_at hl 0 rfl) ?_
        refine lv_bipush (v := (10 : Int32)) hx hb dX4_runProgram_18 (by decide) ?_
        refine lv_icmp_ne (tgt := 24) hx hb dX4_runProgram_20 (by decide) (fun hc => ?_) (fun hc => ?_)
        · have h := if_n h hc
          refine lv_iload_n hx hb dX4_runProgram_24 rfl (lv_at hl 0 rfl) ?_
          refine lv_bipush (v := (6 : Int32)) hx hb dX4_runProgram_25 (by decide) ?_
          refine lv_bipush (v := (9 : Int32)) hx hb dX4_runProgram_27 (by decide) ?_
          obtain ⟨v29, hv, h⟩ := bn_ex h
          have hPc := hP.sub (ws' := []) [] rfl
          have hDc := hD.sub (ws' := []) [] (by decide) rfl
          have hKc := hK.sub (tys' := []) [] rfl
          have hFc := va_free (wc := []) hD hS hA [] rfl
          refine va_calli (va_runS (As := [.int ((ypg (Int32.toNatClampNeg z1)) >>> ((12 : Int32) &&& (31 : Int32))), .int (6 : Int32), .int (9 : Int32)]) (rest := []) ⟨hx, hb, hml, hown, hts⟩ (ct_M_in l dC dI  H.size  ((ypg (Int32.toNatClampNeg z1)) >>> ((12 : Int32) &&& (31 : Int32))) (6 : Int32) (9 : Int32) v29 hv) (cwS 3 hts gX4_runProgram_X4_in rfl rfl rfl (by decide +kernel) ⟨Nat.le_of_ble_eq_true rfl, Nat.le_of_ble_eq_true rfl⟩) ⟨fun a U g mk q => by obtain ⟨q0, q1, qP, qK, qD⟩ := q; exact ⟨q0, q1, qP, va_K.moved (u := U) (U := U.calling g mk a) (Vm.Alike.refl U.vm) qK, qD⟩, fun U hU hW => ⟨rfl, by rw [hU], by rw [hU]; exact hPc, va_K.moved hW.alike hKc, hDc.weaken (fun _ _ _ _ => trivial)⟩⟩ rfl rfl hl.1 rfl (lv_room (Nat.le_of_ble_eq_true rfl)) dX4_runProgram_29 ⟨Nat.zero_le _, Nat.zero_le _⟩) hS (fun q _ h => hFc q h) hFc (fun r u t H locs ht hvm hw hB hz1 hk1 hS => ?_)
          obtain rfl := pr_0 hw
          obtain ⟨hP1, hD1⟩ := hB
          rw [ht] at hP1
          obtain ⟨hP, hD⟩ := va_join (wr := [(aM, .inr (4, [.ref amr, .ref amm, .int ypc, .int yha, .int yca, .int ysp, .int yfr, .int yst, .int yda, .int yer, .int yad, .ref apg, .ref atk, .ref ata, .int yse, .int yin, .ref arw, .int ywd, .int ytm, .int ybg, .int yan, .int ybs, .int yva, .int ynu])), (amr, .inl (kmr, 8, .inl ymr)), (amm, .inl (kmm, 64, .inl ymm)), (apg, .inl (kpg, 4, .inl ypg)), (atk, .inl (ktk, 2, .inl ytk)), (ata, .inl (kta, 2, .inl yta)), (arw, .inl (krw, 22, .inl yrw))]) (w1 := []) hP hD [] [0, 1, 2, 3, 4, 5, 6] rfl rfl (by decide) (by decide) hk1 hFc hP1 hD1
          have hP : va_P (dC, dI) vwCl [(aM, .inr (4, [.ref amr, .ref amm, .int ypc, .int yha, .int yca, .int ysp, .int yfr, .int yst, .int yda, .int yer, .int yad, .ref apg, .ref atk, .ref ata, .int yse, .int yin, .ref arw, .int ywd, .int ytm, .int ybg, .int yan, .int ybs, .int yva, .int ynu])), (amr, .inl (kmr, 8, .inl ymr)), (amm, .inl (kmm, 64, .inl ymm)), (apg, .inl (kpg, 4, .inl ypg)), (atk, .inl (ktk, 2, .inl ytk)), (ata, .inl (kta, 2, .inl yta)), (arw, .inl (krw, 22, .inl yrw))] H := hP
          have hD : va_D A [(aM, .inr (4, [.ref amr, .ref amm, .int ypc, .int yha, .int yca, .int ysp, .int yfr, .int yst, .int yda, .int yer, .int yad, .ref apg, .ref atk, .ref ata, .int yse, .int yin, .ref arw, .int ywd, .int ytm, .int ybg, .int yan, .int ybs, .int yva, .int ynu])), (amr, .inl (kmr, 8, .inl ymr)), (amm, .inl (kmm, 64, .inl ymm)), (apg, .inl (kpg, 4, .inl ypg)), (atk, .inl (ktk, 2, .inl ytk)), (ata, .inl (kta, 2, .inl yta)), (arw, .inl (krw, 22, .inl yrw))] := hD
          refine lv_if_eq (tgt := 41) hx hb dX4_runProgram_32 (by decide) (fun hc => ?_) (fun hc => ?_)
          · have h := if_y h hc
            refine lv_aload_n hx hb dX4_runProgram_41 rfl (lv_at hl 1 rfl) ?_
            refine lv_aload_n hx hb dX4_runProgram_42 rfl (lv_at hl 1 rfl) ?_
            refine va_get (D := (dC, dI)) (ci := 4) (v := .ref apg) (C := RX4) (T := TX4) (N := 24) hx hb hts hinX4 hown hK hP 0 rfl rfl 11 (by decide) hf16 (fun _ h9 => h9) rfl dX4_runProgram_43 ?_
            refine lv_iload_n hx hb dX4_runProgram_46 rfl (lv_at hl 2 rfl) ?_
            obtain ⟨hi, h⟩ := ck_in h
            refine va_iald hx hb hK hP 3 2 rfl rfl hi dX4_runProgram_47 ?_
            obtain ⟨v48, hv, h⟩ := bn_ex h
            have hPc := hP.sub (ws' := [(aM, .inr (4, [.ref amr, .ref amm, .int ypc, .int yha, .int yca, .int ysp, .int yfr, .int yst, .int yda, .int yer, .int yad, .ref apg, .ref atk, .ref ata, .int yse, .int yin, .ref arw, .int ywd, .int ytm, .int ybg, .int yan, .int ybs, .int yva, .int ynu])), (amr, .inl (kmr, 8, .inl ymr)), (amm, .inl (kmm, 64, .inl ymm)), (apg, .inl (kpg, 4, .inl ypg)), (atk, .inl (ktk, 2, .inl ytk)), (ata, .inl (kta, 2, .inl yta)), (arw, .inl (krw, 22, .inl yrw))]) [0, 1, 2, 3, 4, 5, 6] rfl
            have hDc := hD.sub (ws' := [(aM, .inr (4, [.ref amr, .ref amm, .int ypc, .int yha, .int yca, .int ysp, .int yfr, .int yst, .int yda, .int yer, .int yad, .ref apg, .ref atk, .ref ata, .int yse, .int yin, .ref arw, .int ywd, .int ytm, .int ybg, .int yan, .int ybs, .int yva, .int ynu])), (amr, .inl (kmr, 8, .inl ymr)), (amm, .inl (kmm, 64, .inl ymm)), (apg, .inl (kpg, 4, .inl ypg)), (atk, .inl (ktk, 2, .inl ytk)), (ata, .inl (kta, 2, .inl yta)), (arw, .inl (krw, 22, .inl yrw))]) [0, 1, 2, 3, 4, 5, 6] (by decide) rfl
            have hKc := hK.sub (tys' := [(kmr, .int), (kmm, .int), (kpg, .int), (ktk, .int), (kta, .int), (krw, .int)]) [0, 1, 2, 3, 4, 5] rfl
            have hFc := va_free (wc := [(aM, .inr (4, [.ref amr, .ref amm, .int ypc, .int yha, .int yca, .int ysp, .int yfr, .int yst, .int yda, .int yer, .int yad, .ref apg, .ref atk, .ref ata, .int yse, .int yin, .ref arw, .int ywd, .int ytm, .int ybg, .int yan, .int ybs, .int yva, .int ynu])), (amr, .inl (kmr, 8, .inl ymr)), (amm, .inl (kmm, 64, .inl ymm)), (apg, .inl (kpg, 4, .inl ypg)), (atk, .inl (ktk, 2, .inl ytk)), (ata, .inl (kta, 2, .inl yta)), (arw, .inl (krw, 22, .inl yrw))]) hD hS hA [0, 1, 2, 3, 4, 5, 6] rfl
            refine va_callv (va_runV (As := [.int (ypg (Int32.toNatClampNeg z1))]) (rest := []) ⟨hx, hb, hml, hown, hts⟩ (ct_M_work l dC dI aM amr amm apg atk ata arw kmr kmm kpg ktk kta krw H.size ymr ymm ypc yha yca ysp yfr yst yda yer yad ypg ytk yta yse yin yrw ywd ytm ybg yan ybs yva ynu (ypg (Int32.toNatClampNeg z1)) v48 hv) (cwV 1 hts gX4_runProgram_X4_work rfl rfl rfl (by decide +kernel) ⟨Nat.le_of_ble_eq_true rfl, Nat.le_of_ble_eq_true rfl⟩) ⟨fun a U g mk q => by obtain ⟨q0, q1, qP, qK, qD⟩ := q; exact ⟨q0, q1, qP, va_K.moved (u := U) (U := U.calling g mk a) (Vm.Alike.refl U.vm) qK, qD⟩, va_recv (ci := 4) (q0 := 0) hK hP rfl rfl, fun U hU hW => ⟨rfl, by rw [hU], by rw [hU]; exact hPc, va_K.moved hW.alike hKc, hDc.weaken (fun _ _ _ _ => trivial)⟩⟩ rfl rfl hl.1 rfl (lv_room (Nat.le_of_ble_eq_true rfl)) dX4_runProgram_48 ⟨Nat.zero_le _, Nat.zero_le _⟩) hS (fun q _ h => hFc q h) hFc (fun u t H locs ht hvm hw hB hz1 hk1 hS => ?_)
            obtain rfl := pr_0 hw
            obtain ⟨hP1, hD1⟩ := hB
            rw [ht] at hP1
            obtain ⟨hP, hD⟩ := va_join (wr := []) (w1 := [(aM, .inr (4, [.ref amr, .ref amm, .int ypc, .int yha, .int yca, .int ysp, .int yfr, .int yst, .int yda, .int yer, .int yad, .ref apg, .ref atk, .ref ata, .int yse, .int yin, .ref arw, .int ywd, .int ytm, .int ybg, .int yan, .int ybs, .int yva, .int ynu])), (amr, .inl (kmr, 8, .inl v48.1)), (amm, .inl (kmm, 64, .inl v48.2)), (apg, .inl (kpg, 4, .inl ypg)), (atk, .inl (ktk, 2, .inl ytk)), (ata, .inl (kta, 2, .inl yta)), (arw, .inl (krw, 22, .inl yrw))]) hP hD [0, 1, 2, 3, 4, 5, 6] [] rfl rfl (by decide) (by decide) hk1 hFc hP1 hD1
            have hP : va_P (dC, dI) vwCl [(aM, .inr (4, [.ref amr, .ref amm, .int ypc, .int yha, .int yca, .int ysp, .int yfr, .int yst, .int yda, .int yer, .int yad, .ref apg, .ref atk, .ref ata, .int yse, .int yin, .ref arw, .int ywd, .int ytm, .int ybg, .int yan, .int ybs, .int yva, .int ynu])), (amr, .inl (kmr, 8, .inl v48.1)), (amm, .inl (kmm, 64, .inl v48.2)), (apg, .inl (kpg, 4, .inl ypg)), (atk, .inl (ktk, 2, .inl ytk)), (ata, .inl (kta, 2, .inl yta)), (arw, .inl (krw, 22, .inl yrw))] H := hP
            have hD : va_D A [(aM, .inr (4, [.ref amr, .ref amm, .int ypc, .int yha, .int yca, .int ysp, .int yfr, .int yst, .int yda, .int yer, .int yad, .ref apg, .ref atk, .ref ata, .int yse, .int yin, .ref arw, .int ywd, .int ytm, .int ybg, .int yan, .int ybs, .int yva, .int ynu])), (amr, .inl (kmr, 8, .inl v48.1)), (amm, .inl (kmm, 64, .inl v48.2)), (apg, .inl (kpg, 4, .inl ypg)), (atk, .inl (ktk, 2, .inl ytk)), (ata, .inl (kta, 2, .inl yta)), (arw, .inl (krw, 22, .inl yrw))] := hD
            refine lv_iinc (k := 2) (v := (z1 + (1 : Int32))) hx hb dX4_runProgram_51 hl rfl (ik_p1 _) (by decide) rfl (fun ls hl => ?_)
            have hl : lv_has ls 3 [(1, .int (z1 + (1 : Int32))), (2, .int ((ypg (Int32.toNatClampNeg z1)) >>> ((12 : Int32) &&& (31 : Int32)))), (0, .ref aM)] := hl
            refine lv_goto (tgt := 2) hx hb dX4_runProgram_54 (by decide) ?_
            exact ih _ _ _ _ _ _ _ hP hD hS (lv_sub hl [2, 0] rfl) h
          · have h := if_n h hc
            refine lv_aload_n hx hb dX4_runProgram_35 rfl (lv_at hl 1 rfl) ?_
            refine lv_iconst (v := (3 : Int32)) hx hb dX4_runProgram_36 (by decide) ?_
            refine va_put (D := (dC, dI)) (ci := 4) (v := .int (3 : Int32)) (ty := .int) (C := RX4) (T := TX4) (N := 24) hx hb hts hinX4 tyX4 tyX4_ok nmX4 hown hK hP hD hS 0 rfl rfl 9 (by decide) hf71 (fun _ h9 => h9) rfl (by decide +kernel) rfl rfl (Nat.le_of_ble_eq_true rfl) dX4_runProgram_37 (fun H locs hP hD hS => ?_)
            have hP : va_P (dC, dI) vwCl [(aM, .inr (4, [.ref amr, .ref amm, .int ypc, .int yha, .int yca, .int ysp, .int yfr, .int yst, .int yda, .int (3 : Int32), .int yad, .ref apg, .ref atk, .ref ata, .int yse, .int yin, .ref arw, .int ywd, .int ytm, .int ybg, .int yan, .int ybs, .int yva, .int ynu])), (amr, .inl (kmr, 8, .inl ymr)), (amm, .inl (kmm, 64, .inl ymm)), (apg, .inl (kpg, 4, .inl ypg)), (atk, .inl (ktk, 2, .inl ytk)), (ata, .inl (kta, 2, .inl yta)), (arw, .inl (krw, 22, .inl yrw))] H := hP
            have hD : va_D A [(aM, .inr (4, [.ref amr, .ref amm, .int ypc, .int yha, .int yca, .int ysp, .int yfr, .int yst, .int yda, .int (3 : Int32), .int yad, .ref apg, .ref atk, .ref ata, .int yse, .int yin, .ref arw, .int ywd, .int ytm, .int ybg, .int yan, .int ybs, .int yva, .int ynu])), (amr, .inl (kmr, 8, .inl ymr)), (amm, .inl (kmm, 64, .inl ymm)), (apg, .inl (kpg, 4, .inl ypg)), (atk, .inl (ktk, 2, .inl ytk)), (ata, .inl (kta, 2, .inl yta)), (arw, .inl (krw, 22, .inl yrw))] := hD
            exact W.vret hx hb hr (fun t ht hW => ⟨⟨(ymr, ymm, (3 : Int32)), rfl, h, by rw [ht]; exact hP, hD⟩, hS.F ht⟩) hS.2.2 dX4_runProgram_40
        · have h := if_y h hc
          exact W.vret hx hb hr (fun t ht hW => ⟨⟨(ymr, ymm, yer), rfl, h, by rw [ht]; exact hP, hD⟩, hS.F ht⟩) hS.2.2 dX4_runProgram_23
  have hl := lv_entry ([.ref aM]) (n := 3) (Nat.le_of_ble_eq_true rfl)
  rw [lg_entry_eq]
  generalize (lg_sl ([.ref aM]) ++ List.replicate (3 - (lg_sl ([.ref aM])).length) Slot.unset).toArray = ls at hl ⊢
  have hl : lv_has ls 3 [(0, .ref aM)] := hl
  unfold fn_M_runProgram at h
  refine lv_iconst (v := (0 : Int32)) hx hb dX4_runProgram_0 (by decide) ?_
  refine lv_istore_n hx hb dX4_runProgram_1 rfl hl (by decide) rfl (fun ls hl => ?_)
  have hl : lv_has ls 3 [(1, .int (0 : Int32)), (0, .ref aM)] := hl
  exact k_2 64 _ _ _ _ _ _ _ hP hD hS (lv_sub hl [1, 0] rfl) h
set_option maxHeartbeats 4000000 in
set_option maxRecDepth 100000 in
theorem ct_M_command (l : Launch) (dC : Nat → ClassId) (dI : Nat → Nat → Nat) (aM amr amm apg atk ata arw : Nat) (kmr kmm kpg ktk kta krw : ClassId) (sz : Nat) (ymr : (Nat → Int32)) (ymm : (Nat → Int32)) (ypc : Int32) (yha : Int32) (yca : Int32) (ysp : Int32) (yfr : Int32) (yst : Int32) (yda : Int32) (yer : Int32) (yad : Int32) (ypg : (Nat → Int32)) (ytk : (Nat → Int32)) (yta : (Nat → Int32)) (yse : Int32) (yin : Int32) (yrw : (Nat → Int32)) (ywd : Int32) (ytm : Int32) (ybg : Int32) (yan : Int32) (ybs : Int32) (yva : Int32) (ynu : Int32) (j1 : Int32) (o : (Nat → Int32) × (Nat → Int32) × Int32 × Int32 × Int32) (h : fn_M_command ymr ymm ypc yha yda yer ypg j1 = some o) : Met l yX4_command wsX4_command ({ frames := 2, cells := 0, slots := 0, locals := 47 }) (va_Pc [.ref aM, .int j1] (fun U => U.heap.size = sz ∧ va_P (dC, dI) vwCl [(aM, .inr (4, [.ref amr, .ref amm, .int ypc, .int yha, .int yca, .int ysp, .int yfr, .int yst, .int yda, .int yer, .int yad, .ref apg, .ref atk, .ref ata, .int yse, .int yin, .ref arw, .int ywd, .int ytm, .int ybg, .int yan, .int ybs, .int yva, .int ynu])), (amr, .inl (kmr, 8, .inl ymr)), (amm, .inl (kmm, 64, .inl ymm)), (apg, .inl (kpg, 4, .inl ypg)), (atk, .inl (ktk, 2, .inl ytk)), (ata, .inl (kta, 2, .inl yta)), (arw, .inl (krw, 22, .inl yrw))] U.heap ∧ va_K (dC, dI) vwCl [(kmr, .int), (kmm, .int), (kpg, .int), (ktk, .int), (kta, .int), (krw, .int)] U ∧ va_D (fun _ => True) [(aM, .inr (4, [.ref amr, .ref amm, .int ypc, .int yha, .int yca, .int ysp, .int yfr, .int yst, .int yda, .int yer, .int yad, .ref apg, .ref atk, .ref ata, .int yse, .int yin, .ref arw, .int ywd, .int ytm, .int ybg, .int yan, .int ybs, .int yva, .int ynu])), (amr, .inl (kmr, 8, .inl ymr)), (amm, .inl (kmm, 64, .inl ymm)), (apg, .inl (kpg, 4, .inl ypg)), (atk, .inl (ktk, 2, .inl ytk)), (ata, .inl (kta, 2, .inl yta)), (arw, .inl (krw, 22, .inl yrw))])) (va_Qv (fun (u : (Nat → Int32) × (Nat → Int32) × Int32 × Int32 × Int32) => some u = some o) (fun (u : (Nat → Int32) × (Nat → Int32) × Int32 × Int32 × Int32) (t : State) => va_P (dC, dI) vwCl [(aM, .inr (4, [.ref amr, .ref amm, .int u.2.2.1, .int yha, .int yca, .int ysp, .int yfr, .int yst, .int u.2.2.2.1, .int u.2.2.2.2, .int yad, .ref apg, .ref atk, .ref ata, .int yse, .int yin, .ref arw, .int ywd, .int ytm, .int ybg, .int yan, .int ybs, .int yva, .int ynu])), (amr, .inl (kmr, 8, .inl u.1)), (amm, .inl (kmm, 64, .inl u.2.1)), (apg, .inl (kpg, 4, .inl ypg)), (atk, .inl (ktk, 2, .inl ytk)), (ata, .inl (kta, 2, .inl yta)), (arw, .inl (krw, 22, .inl yrw))] t.heap ∧ va_D (va_A [(aM, .inr (4, [.ref amr, .ref amm, .int ypc, .int yha, .int yca, .int ysp, .int yfr, .int yst, .int yda, .int yer, .int yad, .ref apg, .ref atk, .ref ata, .int yse, .int yin, .ref arw, .int ywd, .int ytm, .int ybg, .int yan, .int ybs, .int yva, .int ynu])), (amr, .inl (kmr, 8, .inl ymr)), (amm, .inl (kmm, 64, .inl ymm)), (apg, .inl (kpg, 4, .inl ypg)), (atk, .inl (ktk, 2, .inl ytk)), (ata, .inl (kta, 2, .inl yta)), (arw, .inl (krw, 22, .inl yrw))] sz) [(aM, .inr (4, [.ref amr, .ref amm, .int u.2.2.1, .int yha, .int yca, .int ysp, .int yfr, .int yst, .int u.2.2.2.1, .int u.2.2.2.2, .int yad, .ref apg, .ref atk, .ref ata, .int yse, .int yin, .ref arw, .int ywd, .int ytm, .int ybg, .int yan, .int ybs, .int yva, .int ynu])), (amr, .inl (kmr, 8, .inl u.1)), (amm, .inl (kmm, 64, .inl u.2.1)), (apg, .inl (kpg, 4, .inl ypg)), (atk, .inl (ktk, 2, .inl ytk)), (ata, .inl (kta, 2, .inl yta)), (arw, .inl (krw, 22, .inl yrw))]) (va_A [(aM, .inr (4, [.ref amr, .ref amm, .int ypc, .int yha, .int yca, .int ysp, .int yfr, .int yst, .int yda, .int yer, .int yad, .ref apg, .ref atk, .ref ata, .int yse, .int yin, .ref arw, .int ywd, .int ytm, .int ybg, .int yan, .int ybs, .int yva, .int ynu])), (amr, .inl (kmr, 8, .inl ymr)), (amm, .inl (kmm, 64, .inl ymm)), (apg, .inl (kpg, 4, .inl ypg)), (atk, .inl (ktk, 2, .inl ytk)), (ata, .inl (kta, 2, .inl yta)), (arw, .inl (krw, 22, .inl yrw))] sz)) 0 0 (va_A [(aM, .inr (4, [.ref amr, .ref amm, .int ypc, .int yha, .int yca, .int ysp, .int yfr, .int yst, .int yda, .int yer, .int yad, .ref apg, .ref atk, .ref ata, .int yse, .int yin, .ref arw, .int ywd, .int ytm, .int ybg, .int yan, .int ybs, .int yva, .int ynu])), (amr, .inl (kmr, 8, .inl ymr)), (amm, .inl (kmm, 64, .inl ymm)), (apg, .inl (kpg, 4, .inl ypg)), (atk, .inl (ktk, 2, .inl ytk)), (ata, .inl (kta, 2, .inl yta)), (arw, .inl (krw, 22, .inl yrw))] sz) := by
  refine Met.ofW (cc := cX4_command) (maxL := 4) (ret := none) (by decide) rfl ?_
  intro p e s m args below meth c s₁ B hml hv
  obtain ⟨rfl, hsz, hP, hK, hD0⟩ := hv
  have hx := B.exec
  have hb := B.bytes
  have hr := B.returns
  have hts := atoms_spec (ws := wsX4_command) B.pre
  have hown : s.vm.findClass RX4 = some m.cls := findClass_of_methodNamed B.named
  have hlocks := B.notSynchronized
  subst hsz
  have hD := hD0.self (sz := s.heap.size)
  generalize hAe : va_A [(aM, .inr (4, [.ref amr, .ref amm, .int ypc, .int yha, .int yca, .int ysp, .int yfr, .int yst, .int yda, .int yer, .int yad, .ref apg, .ref atk, .ref ata, .int yse, .int yin, .ref arw, .int ywd, .int ytm, .int ybg, .int yan, .int ybs, .int yva, .int ynu])), (amr, .inl (kmr, 8, .inl ymr)), (amm, .inl (kmm, 64, .inl ymm)), (apg, .inl (kpg, 4, .inl ypg)), (atk, .inl (ktk, 2, .inl ytk)), (ata, .inl (kta, 2, .inl yta)), (arw, .inl (krw, 22, .inl yrw))] s.heap.size = A at hD ⊢
  have hA : ∀ q : Nat, s.heap.size ≤ q → A q := fun q h => by rw [← hAe]; exact Or.inr h
  have hS : va_S A s.heap s.heap [] := va_S.rf
  have hP : va_P (dC, dI) vwCl [(aM, .inr (4, [.ref amr, .ref amm, .int ypc, .int yha, .int yca, .int ysp, .int yfr, .int yst, .int yda, .int yer, .int yad, .ref apg, .ref atk, .ref ata, .int yse, .int yin, .ref arw, .int ywd, .int ytm, .int ybg, .int yan, .int ybs, .int yva, .int ynu])), (amr, .inl (kmr, 8, .inl ymr)), (amm, .inl (kmm, 64, .inl ymm)), (apg, .inl (kpg, 4, .inl ypg)), (atk, .inl (ktk, 2, .inl ytk)), (ata, .inl (kta, 2, .inl yta)), (arw, .inl (krw, 22, .inl yrw))] s.heap := hP
  have hf32 := hts (.fieldLink RX4 32 "ProbeBenchModel" "halted" "Z") (by decide +kernel)
  have hf40 := hts (.fieldLink RX4 40 "ProbeBenchModel" "pc" "I") (by decide +kernel)
  have hf7 := hts (.fieldLink RX4 7 "ProbeBenchModel" "register" "[I") (by decide +kernel)
  have hf71 := hts (.fieldLink RX4 71 "ProbeBenchModel" "error" "I") (by decide +kernel)
  have hf74 := hts (.fieldLink RX4 74 "ProbeBenchModel" "data" "I") (by decide +kernel)
  have hinX4 : ∀ w ∈ u_ws RX4 TX4 24, w ∈ wsX4_command := by decide +kernel
  have hl := lv_entry ([.ref aM, .int j1]) (n := 4) (Nat.le_of_ble_eq_true rfl)
  rw [lg_entry_eq]
  generalize (lg_sl ([.ref aM, .int j1]) ++ List.replicate (4 - (lg_sl ([.ref aM, .int j1])).length) Slot.unset).toArray = ls at hl ⊢
  have hl : lv_has ls 4 [(0, .ref aM), (1, .int j1)] := hl
  unfold fn_M_command at h
  refine lv_aload_n hx hb dX4_command_0 rfl (lv_at hl 0 rfl) ?_
  refine va_get (D := (dC, dI)) (ci := 4) (v := .int yer) (C := RX4) (T := TX4) (N := 24) hx hb hts hinX4 hown hK hP 0 rfl rfl 9 (by decide) hf71 (fun _ h9 => h9) rfl dX4_command_1 ?_
  refine lv_if_eq (tgt := 8) hx hb dX4_command_4 (by decide) (fun hc => ?_) (fun hc => ?_)
  · have h := if_y h hc
    refine lv_iload_n hx hb dX4_command_8 rfl (lv_at hl 1 rfl) ?_
    refine lv_bipush (v := (8 : Int32)) hx hb dX4_command_9 (by decide) ?_
    refine lv_ishr hx hb dX4_command_11 ?_
    refine lv_bipush (v := (7 : Int32)) hx hb dX4_command_12 (by decide) ?_
    refine lv_iand hx hb dX4_command_14 ?_
    refine lv_istore_n hx hb dX4_command_15 rfl hl (by decide) rfl (fun ls hl => ?_)
    have hl : lv_has ls 4 [(2, .int ((j1 >>> ((8 : Int32) &&& (31 : Int32))) &&& (7 : Int32))), (0, .ref aM), (1, .int j1)] := hl
    refine lv_iload_n hx hb dX4_command_16 rfl (lv_at hl 2 rfl) ?_
    refine lv_bipush (v := (7 : Int32)) hx hb dX4_command_17 (by decide) ?_
    refine lv_iand hx hb dX4_command_19 ?_
    refine lv_istore_n hx hb dX4_command_20 rfl hl (by decide) rfl (fun ls hl => ?_)
    have hl : lv_has ls 4 [(3, .int (j1 &&& (7 : Int32))), (2, .int ((j1 >>> ((8 : Int32) &&& (31 : Int32))) &&& (7 : Int32))), (0, .ref aM), (1, .int j1)] := hl
    refine lv_aload_n hx hb dX4_command_21 rfl (lv_at hl 2 rfl) ?_
    refine va_get (D := (dC, dI)) (ci := 4) (v := .int yha) (C := RX4) (T := TX4) (N := 24) hx hb hts hinX4 hown hK hP 0 rfl rfl 3 (by decide) hf32 (fun _ h9 => h9) rfl dX4_command_22 ?_
    refine lv_if_ne (tgt := 36) hx hb dX4_command_25 (by decide) (fun hc => ?_) (fun hc => ?_)
    · have h := if_n h hc
      refine lv_iload_n hx hb dX4_command_36 rfl (lv_at hl 1 rfl) ?_
      refine lv_if_ne (tgt := 53) hx hb dX4_command_37 (by decide) (fun hc => ?_) (fun hc => ?_)
      · have h := if_n h hc
        refine lv_iload_n hx hb dX4_command_53 rfl (lv_at hl 1 rfl) ?_
        refine lv_iconst (v := (1 : Int32)) hx hb dX4_command_54 (by decide) ?_
        refine lv_icmp_ne (tgt := 71) hx hb dX4_command_55 (by decide) (fun hc => ?_) (fun hc => ?_)
        · have h := if_n h hc
          refine lv_iload_n hx hb dX4_command_71 rfl (lv_at hl 1 rfl) ?_
          refine lv_iconst (v := (2 : Int32)) hx hb dX4_command_72 (by decide) ?_
          refine lv_icmp_ne (tgt := 87) hx hb dX4_command_73 (by decide) (fun hc => ?_) (fun hc => ?_)
          · have h := if_n h hc
            refine lv_iload_n hx hb dX4_command_87 rfl (lv_at hl 1 rfl) ?_
            refine lv_iconst (v := (3 : Int32)) hx hb dX4_command_88 (by decide) ?_
            refine lv_icmp_ne (tgt := 106) hx hb dX4_command_89 (by decide) (fun hc => ?_) (fun hc => ?_)
            · have h := if_n h hc
              refine lv_iload_n hx hb dX4_command_106 rfl (lv_at hl 1 rfl) ?_
              refine lv_iconst (v := (4 : Int32)) hx hb dX4_command_107 (by decide) ?_
              refine lv_icmp_ne (tgt := 118) hx hb dX4_command_108 (by decide) (fun hc => ?_) (fun hc => ?_)
              · have h := if_n h hc
                refine lv_aload_n hx hb dX4_command_118 rfl (lv_at hl 2 rfl) ?_
                refine lv_iconst (v := (2 : Int32)) hx hb dX4_command_119 (by decide) ?_
                refine va_put (D := (dC, dI)) (ci := 4) (v := .int (2 : Int32)) (ty := .int) (C := RX4) (T := TX4) (N := 24) hx hb hts hinX4 tyX4 tyX4_ok nmX4 hown hK hP hD hS 0 rfl rfl 9 (by decide) hf71 (fun _ h9 => h9) rfl (by decide +kernel) rfl rfl (Nat.le_of_ble_eq_true rfl) dX4_command_120 (fun H locs hP hD hS => ?_)
                have hP : va_P (dC, dI) vwCl [(aM, .inr (4, [.ref amr, .ref amm, .int ypc, .int yha, .int yca, .int ysp, .int yfr, .int yst, .int yda, .int (2 : Int32), .int yad, .ref apg, .ref atk, .ref ata, .int yse, .int yin, .ref arw, .int ywd, .int ytm, .int ybg, .int yan, .int ybs, .int yva, .int ynu])), (amr, .inl (kmr, 8, .inl ymr)), (amm, .inl (kmm, 64, .inl ymm)), (apg, .inl (kpg, 4, .inl ypg)), (atk, .inl (ktk, 2, .inl ytk)), (ata, .inl (kta, 2, .inl yta)), (arw, .inl (krw, 22, .inl yrw))] H := hP
                have hD : va_D A [(aM, .inr (4, [.ref amr, .ref amm, .int ypc, .int yha, .int yca, .int ysp, .int yfr, .int yst, .int yda, .int (2 : Int32), .int yad, .ref apg, .ref atk, .ref ata, .int yse, .int yin, .ref arw, .int ywd, .int ytm, .int ybg, .int yan, .int ybs, .int yva, .int ynu])), (amr, .inl (kmr, 8, .inl ymr)), (amm, .inl (kmm, 64, .inl ymm)), (apg, .inl (kpg, 4, .inl ypg)), (atk, .inl (ktk, 2, .inl ytk)), (ata, .inl (kta, 2, .inl yta)), (arw, .inl (krw, 22, .inl yrw))] := hD
                exact W.vret hx hb hr (fun t ht hW => ⟨⟨(ymr, ymm, ypc, yda, (2 : Int32)), rfl, h, by rw [ht]; exact hP, hD⟩, hS.F ht⟩) hS.2.2 dX4_command_123
              · have h := if_y h hc
                refine lv_aload_n hx hb dX4_command_111 rfl (lv_at hl 2 rfl) ?_
                obtain ⟨v112, hv, h⟩ := bn_ex h
                have hPc := hP.sub (ws' := [(aM, .inr (4, [.ref amr, .ref amm, .int ypc, .int yha, .int yca, .int ysp, .int yfr, .int yst, .int yda, .int yer, .int yad, .ref apg, .ref atk, .ref ata, .int yse, .int yin, .ref arw, .int ywd, .int ytm, .int ybg, .int yan, .int ybs, .int yva, .int ynu])), (amr, .inl (kmr, 8, .inl ymr)), (amm, .inl (kmm, 64, .inl ymm)), (apg, .inl (kpg, 4, .inl ypg)), (atk, .inl (ktk, 2, .inl ytk)), (ata, .inl (kta, 2, .inl yta)), (arw, .inl (krw, 22, .inl yrw))]) [0, 1, 2, 3, 4, 5, 6] rfl
                have hDc := hD.sub (ws' := [(aM, .inr (4, [.ref amr, .ref amm, .int ypc, .int yha, .int yca, .int ysp, .int yfr, .int yst, .int yda, .int yer, .int yad, .ref apg, .ref atk, .ref ata, .int yse, .int yin, .ref arw, .int ywd, .int ytm, .int ybg, .int yan, .int ybs, .int yva, .int ynu])), (amr, .inl (kmr, 8, .inl ymr)), (amm, .inl (kmm, 64, .inl ymm)), (apg, .inl (kpg, 4, .inl ypg)), (atk, .inl (ktk, 2, .inl ytk)), (ata, .inl (kta, 2, .inl yta)), (arw, .inl (krw, 22, .inl yrw))]) [0, 1, 2, 3, 4, 5, 6] (by decide) rfl
                have hKc := hK.sub (tys' := [(kmr, .int), (kmm, .int), (kpg, .int), (ktk, .int), (kta, .int), (krw, .int)]) [0, 1, 2, 3, 4, 5] rfl
                have hFc := va_free (wc := [(aM, .inr (4, [.ref amr, .ref amm, .int ypc, .int yha, .int yca, .int ysp, .int yfr, .int yst, .int yda, .int yer, .int yad, .ref apg, .ref atk, .ref ata, .int yse, .int yin, .ref arw, .int ywd, .int ytm, .int ybg, .int yan, .int ybs, .int yva, .int ynu])), (amr, .inl (kmr, 8, .inl ymr)), (amm, .inl (kmm, 64, .inl ymm)), (apg, .inl (kpg, 4, .inl ypg)), (atk, .inl (ktk, 2, .inl ytk)), (ata, .inl (kta, 2, .inl yta)), (arw, .inl (krw, 22, .inl yrw))]) hD hS hA [0, 1, 2, 3, 4, 5, 6] rfl
                refine va_callv (va_runV (As := []) (rest := []) ⟨hx, hb, hml, hown, hts⟩ (ct_M_runProgram l dC dI aM amr amm apg atk ata arw kmr kmm kpg ktk kta krw s.heap.size ymr ymm ypc yha yca ysp yfr yst yda yer yad ypg ytk yta yse yin yrw ywd ytm ybg yan ybs yva ynu v112 hv) (cwV 0 hts gX4_command_X4_runProgram rfl rfl rfl (by decide +kernel) ⟨Nat.le_of_ble_eq_true rfl, Nat.le_of_ble_eq_true rfl⟩) ⟨fun a U g mk q => by obtain ⟨q0, q1, qP, qK, qD⟩ := q; exact ⟨q0, q1, qP, va_K.moved (u := U) (U := U.calling g mk a) (Vm.Alike.refl U.vm) qK, qD⟩, va_recv (ci := 4) (q0 := 0) hK hP rfl rfl, fun U hU hW => ⟨rfl, by rw [hU], by rw [hU]; exact hPc, va_K.moved hW.alike hKc, hDc.weaken (fun _ _ _ _ => trivial)⟩⟩ rfl rfl hl.1 rfl (lv_room (Nat.le_of_ble_eq_true rfl)) dX4_command_112 ⟨Nat.zero_le _, Nat.zero_le _⟩) hS (fun q _ h => hFc q h) hFc (fun u t H locs ht hvm hw hB hz1 hk1 hS => ?_)
                obtain rfl := pr_0 hw
                obtain ⟨hP1, hD1⟩ := hB
                rw [ht] at hP1
                obtain ⟨hP, hD⟩ := va_join (wr := []) (w1 := [(aM, .inr (4, [.ref amr, .ref amm, .int ypc, .int yha, .int yca, .int ysp, .int yfr, .int yst, .int yda, .int v112.2.2, .int yad, .ref apg, .ref atk, .ref ata, .int yse, .int yin, .ref arw, .int ywd, .int ytm, .int ybg, .int yan, .int ybs, .int yva, .int ynu])), (amr, .inl (kmr, 8, .inl v112.1)), (amm, .inl (kmm, 64, .inl v112.2.1)), (apg, .inl (kpg, 4, .inl ypg)), (atk, .inl (ktk, 2, .inl ytk)), (ata, .inl (kta, 2, .inl yta)), (arw, .inl (krw, 22, .inl yrw))]) hP hD [0, 1, 2, 3, 4, 5, 6] [] rfl rfl (by decide) (by decide) hk1 hFc hP1 hD1
                have hP : va_P (dC, dI) vwCl [(aM, .inr (4, [.ref amr, .ref amm, .int ypc, .int yha, .int yca, .int ysp, .int yfr, .int yst, .int yda, .int v112.2.2, .int yad, .ref apg, .ref atk, .ref ata, .int yse, .int yin, .ref arw, .int ywd, .int ytm, .int ybg, .int yan, .int ybs, .int yva, .int ynu])), (amr, .inl (kmr, 8, .inl v112.1)), (amm, .inl (kmm, 64, .inl v112.2.1)), (apg, .inl (kpg, 4, .inl ypg)), (atk, .inl (ktk, 2, .inl ytk)), (ata, .inl (kta, 2, .inl yta)), (arw, .inl (krw, 22, .inl yrw))] H := hP
                have hD : va_D A [(aM, .inr (4, [.ref amr, .ref amm, .int ypc, .int yha, .int yca, .int ysp, .int yfr, .int yst, .int yda, .int v112.2.2, .int yad, .ref apg, .ref atk, .ref ata, .int yse, .int yin, .ref arw, .int ywd, .int ytm, .int ybg, .int yan, .int ybs, .int yva, .int ynu])), (amr, .inl (kmr, 8, .inl v112.1)), (amm, .inl (kmm, 64, .inl v112.2.1)), (apg, .inl (kpg, 4, .inl ypg)), (atk, .inl (ktk, 2, .inl ytk)), (ata, .inl (kta, 2, .inl yta)), (arw, .inl (krw, 22, .inl yrw))] := hD
                refine lv_goto (tgt := 123) hx hb dX4_command_115 (by decide) ?_
                exact W.vret hx hb hr (fun t ht hW => ⟨⟨(v112.1, v112.2.1, ypc, yda, v112.2.2), rfl, h, by rw [ht]; exact hP, hD⟩, hS.F ht⟩) hS.2.2 dX4_command_123
            · have h := if_y h hc
              refine lv_aload_n hx hb dX4_command_92 rfl (lv_at hl 2 rfl) ?_
              refine lv_aload_n hx hb dX4_command_93 rfl (lv_at hl 2 rfl) ?_
              refine va_get (D := (dC, dI)) (ci := 4) (v := .int yda) (C := RX4) (T := TX4) (N := 24) hx hb hts hinX4 hown hK hP 0 rfl rfl 8 (by decide) hf74 (fun _ h9 => h9) rfl dX4_command_94 ?_
              refine lv_bipush (v := (64 : Int32)) hx hb dX4_command_97 (by decide) ?_
              refine lv_irem hx hb dX4_command_99 (by decide) ?_
              refine va_put (D := (dC, dI)) (ci := 4) (v := .int (yda - yda / (64 : Int32) * (64 : Int32))) (ty := .int) (C := RX4) (T := TX4) (N := 24) hx hb hts hinX4 tyX4 tyX4_ok nmX4 hown hK hP hD hS 0 rfl rfl 2 (by decide) hf40 (fun _ h9 => h9) rfl (by decide +kernel) rfl rfl (Nat.le_of_ble_eq_true rfl) dX4_command_100 (fun H locs hP hD hS => ?_)
              have hP : va_P (dC, dI) vwCl [(aM, .inr (4, [.ref amr, .ref amm, .int (yda - yda / (64 : Int32) * (64 : Int32)), .int yha, .int yca, .int ysp, .int yfr, .int yst, .int yda, .int yer, .int yad, .ref apg, .ref atk, .ref ata, .int yse, .int yin, .ref arw, .int ywd, .int ytm, .int ybg, .int yan, .int ybs, .int yva, .int ynu])), (amr, .inl (kmr, 8, .inl ymr)), (amm, .inl (kmm, 64, .inl ymm)), (apg, .inl (kpg, 4, .inl ypg)), (atk, .inl (ktk, 2, .inl ytk)), (ata, .inl (kta, 2, .inl yta)), (arw, .inl (krw, 22, .inl yrw))] H := hP
              have hD : va_D A [(aM, .inr (4, [.ref amr, .ref amm, .int (yda - yda / (64 : Int32) * (64 : Int32)), .int yha, .int yca, .int ysp, .int yfr, .int yst, .int yda, .int yer, .int yad, .ref apg, .ref atk, .ref ata, .int yse, .int yin, .ref arw, .int ywd, .int ytm, .int ybg, .int yan, .int ybs, .int yva, .int ynu])), (amr, .inl (kmr, 8, .inl ymr)), (amm, .inl (kmm, 64, .inl ymm)), (apg, .inl (kpg, 4, .inl ypg)), (atk, .inl (ktk, 2, .inl ytk)), (ata, .inl (kta, 2, .inl yta)), (arw, .inl (krw, 22, .inl yrw))] := hD
              refine lv_goto (tgt := 123) hx hb dX4_command_103 (by decide) ?_
              exact W.vret hx hb hr (fun t ht hW => ⟨⟨(ymr, ymm, (yda - yda / (64 : Int32) * (64 : Int32)), yda, yer), rfl, h, by rw [ht]; exact hP, hD⟩, hS.F ht⟩) hS.2.2 dX4_command_123
          · have h := if_y h hc
            refine lv_aload_n hx hb dX4_command_76 rfl (lv_at hl 2 rfl) ?_
            refine lv_aload_n hx hb dX4_command_77 rfl (lv_at hl 2 rfl) ?_
            refine va_get (D := (dC, dI)) (ci := 4) (v := .int ypc) (C := RX4) (T := TX4) (N := 24) hx hb hts hinX4 hown hK hP 0 rfl rfl 2 (by decide) hf40 (fun _ h9 => h9) rfl dX4_command_78 ?_
            refine va_put (D := (dC, dI)) (ci := 4) (v := .int ypc) (ty := .int) (C := RX4) (T := TX4) (N := 24) hx hb hts hinX4 tyX4 tyX4_ok nmX4 hown hK hP hD hS 0 rfl rfl 8 (by decide) hf74 (fun _ h9 => h9) rfl (by decide +kernel) rfl rfl (Nat.le_of_ble_eq_true rfl) dX4_command_81 (fun H locs hP hD hS => ?_)
            have hP : va_P (dC, dI) vwCl [(aM, .inr (4, [.ref amr, .ref amm, .int ypc, .int yha, .int yca, .int ysp, .int yfr, .int yst, .int ypc, .int yer, .int yad, .ref apg, .ref atk, .ref ata, .int yse, .int yin, .ref arw, .int ywd, .int ytm, .int ybg, .int yan, .int ybs, .int yva, .int ynu])), (amr, .inl (kmr, 8, .inl ymr)), (amm, .inl (kmm, 64, .inl ymm)), (apg, .inl (kpg, 4, .inl ypg)), (atk, .inl (ktk, 2, .inl ytk)), (ata, .inl (kta, 2, .inl yta)), (arw, .inl (krw, 22, .inl yrw))] H := hP
            have hD : va_D A [(aM, .inr (4, [.ref amr, .ref amm, .int ypc, .int yha, .int yca, .int ysp, .int yfr, .int yst, .int ypc, .int yer, .int yad, .ref apg, .ref atk, .ref ata, .int yse, .int yin, .ref arw, .int ywd, .int ytm, .int ybg, .int yan, .int ybs, .int yva, .int ynu])), (amr, .inl (kmr, 8, .inl ymr)), (amm, .inl (kmm, 64, .inl ymm)), (apg, .inl (kpg, 4, .inl ypg)), (atk, .inl (ktk, 2, .inl ytk)), (ata, .inl (kta, 2, .inl yta)), (arw, .inl (krw, 22, .inl yrw))] := hD
            refine lv_goto (tgt := 123) hx hb dX4_command_84 (by decide) ?_
            exact W.vret hx hb hr (fun t ht hW => ⟨⟨(ymr, ymm, ypc, ypc, yer), rfl, h, by rw [ht]; exact hP, hD⟩, hS.F ht⟩) hS.2.2 dX4_command_123
        · have h := if_y h hc
          refine lv_aload_n hx hb dX4_command_58 rfl (lv_at hl 2 rfl) ?_
          refine va_get (D := (dC, dI)) (ci := 4) (v := .ref amr) (C := RX4) (T := TX4) (N := 24) hx hb hts hinX4 hown hK hP 0 rfl rfl 0 (by decide) hf7 (fun _ h9 => h9) rfl dX4_command_59 ?_
          refine lv_iload_n hx hb dX4_command_62 rfl (lv_at hl 0 rfl) ?_
          refine lv_aload_n hx hb dX4_command_63 rfl (lv_at hl 2 rfl) ?_
          refine va_get (D := (dC, dI)) (ci := 4) (v := .int yda) (C := RX4) (T := TX4) (N := 24) hx hb hts hinX4 hown hK hP 0 rfl rfl 8 (by decide) hf74 (fun _ h9 => h9) rfl dX4_command_64 ?_
          obtain ⟨hi, h⟩ := ck_in h
          refine va_iast hx hb hK hP hD hS 1 0 rfl rfl hi dX4_command_67 (fun H locs hP hD hS => ?_)
          have hP : va_P (dC, dI) vwCl [(aM, .inr (4, [.ref amr, .ref amm, .int ypc, .int yha, .int yca, .int ysp, .int yfr, .int yst, .int yda, .int yer, .int yad, .ref apg, .ref atk, .ref ata, .int yse, .int yin, .ref arw, .int ywd, .int ytm, .int ybg, .int yan, .int ybs, .int yva, .int ynu])), (amr, .inl (kmr, 8, .inl (upd ymr (Int32.toNatClampNeg (j1 &&& (7 : Int32))) yda))), (amm, .inl (kmm, 64, .inl ymm)), (apg, .inl (kpg, 4, .inl ypg)), (atk, .inl (ktk, 2, .inl ytk)), (ata, .inl (kta, 2, .inl yta)), (arw, .inl (krw, 22, .inl yrw))] H := hP
          have hD : va_D A [(aM, .inr (4, [.ref amr, .ref amm, .int ypc, .int yha, .int yca, .int ysp, .int yfr, .int yst, .int yda, .int yer, .int yad, .ref apg, .ref atk, .ref ata, .int yse, .int yin, .ref arw, .int ywd, .int ytm, .int ybg, .int yan, .int ybs, .int yva, .int ynu])), (amr, .inl (kmr, 8, .inl (upd ymr (Int32.toNatClampNeg (j1 &&& (7 : Int32))) yda))), (amm, .inl (kmm, 64, .inl ymm)), (apg, .inl (kpg, 4, .inl ypg)), (atk, .inl (ktk, 2, .inl ytk)), (ata, .inl (kta, 2, .inl yta)), (arw, .inl (krw, 22, .inl yrw))] := hD
          refine lv_goto (tgt := 123) hx hb dX4_command_68 (by decide) ?_
          exact W.vret hx hb hr (fun t ht hW => ⟨⟨((upd ymr (Int32.toNatClampNeg (j1 &&& (7 : Int32))) yda), ymm, ypc, yda, yer), rfl, h, by rw [ht]; exact hP, hD⟩, hS.F ht⟩) hS.2.2 dX4_command_123
      · have h := if_y h hc
        refine lv_aload_n hx hb dX4_command_40 rfl (lv_at hl 2 rfl) ?_
        refine lv_aload_n hx hb dX4_command_41 rfl (lv_at hl 2 rfl) ?_
        refine va_get (D := (dC, dI)) (ci := 4) (v := .ref amr) (C := RX4) (T := TX4) (N := 24) hx hb hts hinX4 hown hK hP 0 rfl rfl 0 (by decide) hf7 (fun _ h9 => h9) rfl dX4_command_42 ?_
        refine lv_iload_n hx hb dX4_command_45 rfl (lv_at hl 0 rfl) ?_
        obtain ⟨hi, h⟩ := ck_in h
        refine va_iald hx hb hK hP 1 0 rfl rfl hi dX4_command_46 ?_
        refine va_put (D := (dC, dI)) (ci := 4) (v := .int (ymr (Int32.toNatClampNeg (j1 &&& (7 : Int32))))) (ty := .int) (C := RX4) (T := TX4) (N := 24) hx hb hts hinX4 tyX4 tyX4_ok nmX4 hown hK hP hD hS 0 rfl rfl 8 (by decide) hf74 (fun _ h9 => h9) rfl (by decide +kernel) rfl rfl (Nat.le_of_ble_eq_true rfl) dX4_command_47 (fun H locs hP hD hS => ?_)
        have hP : va_P (dC, dI) vwCl [(aM, .inr (4, [.ref amr, .ref amm, .int ypc, .int yha, .int yca, .int ysp, .int yfr, .int yst, .int (ymr (Int32.toNatClampNeg (j1 &&& (7 : Int32)))), .int yer, .int yad, .ref apg, .ref atk, .ref ata, .int yse, .int yin, .ref arw, .int ywd, .int ytm, .int ybg, .int yan, .int ybs, .int yva, .int ynu])), (amr, .inl (kmr, 8, .inl ymr)), (amm, .inl (kmm, 64, .inl ymm)), (apg, .inl (kpg, 4, .inl ypg)), (atk, .inl (ktk, 2, .inl ytk)), (ata, .inl (kta, 2, .inl yta)), (arw, .inl (krw, 22, .inl yrw))] H := hP
        have hD : va_D A [(aM, .inr (4, [.ref amr, .ref amm, .int ypc, .int yha, .int yca, .int ysp, .int yfr, .int yst, .int (ymr (Int32.toNatClampNeg (j1 &&& (7 : Int32)))), .int yer, .int yad, .ref apg, .ref atk, .ref ata, .int yse, .int yin, .ref arw, .int ywd, .int ytm, .int ybg, .int yan, .int ybs, .int yva, .int ynu])), (amr, .inl (kmr, 8, .inl ymr)), (amm, .inl (kmm, 64, .inl ymm)), (apg, .inl (kpg, 4, .inl ypg)), (atk, .inl (ktk, 2, .inl ytk)), (ata, .inl (kta, 2, .inl yta)), (arw, .inl (krw, 22, .inl yrw))] := hD
        refine lv_goto (tgt := 123) hx hb dX4_command_50 (by decide) ?_
        exact W.vret hx hb hr (fun t ht hW => ⟨⟨(ymr, ymm, ypc, (ymr (Int32.toNatClampNeg (j1 &&& (7 : Int32)))), yer), rfl, h, by rw [ht]; exact hP, hD⟩, hS.F ht⟩) hS.2.2 dX4_command_123
    · have h := if_y h hc
      refine lv_aload_n hx hb dX4_command_28 rfl (lv_at hl 2 rfl) ?_
      refine lv_iconst (v := (1 : Int32)) hx hb dX4_command_29 (by decide) ?_
      refine va_put (D := (dC, dI)) (ci := 4) (v := .int (1 : Int32)) (ty := .int) (C := RX4) (T := TX4) (N := 24) hx hb hts hinX4 tyX4 tyX4_ok nmX4 hown hK hP hD hS 0 rfl rfl 9 (by decide) hf71 (fun _ h9 => h9) rfl (by decide +kernel) rfl rfl (Nat.le_of_ble_eq_true rfl) dX4_command_30 (fun H locs hP hD hS => ?_)
      have hP : va_P (dC, dI) vwCl [(aM, .inr (4, [.ref amr, .ref amm, .int ypc, .int yha, .int yca, .int ysp, .int yfr, .int yst, .int yda, .int (1 : Int32), .int yad, .ref apg, .ref atk, .ref ata, .int yse, .int yin, .ref arw, .int ywd, .int ytm, .int ybg, .int yan, .int ybs, .int yva, .int ynu])), (amr, .inl (kmr, 8, .inl ymr)), (amm, .inl (kmm, 64, .inl ymm)), (apg, .inl (kpg, 4, .inl ypg)), (atk, .inl (ktk, 2, .inl ytk)), (ata, .inl (kta, 2, .inl yta)), (arw, .inl (krw, 22, .inl yrw))] H := hP
      have hD : va_D A [(aM, .inr (4, [.ref amr, .ref amm, .int ypc, .int yha, .int yca, .int ysp, .int yfr, .int yst, .int yda, .int (1 : Int32), .int yad, .ref apg, .ref atk, .ref ata, .int yse, .int yin, .ref arw, .int ywd, .int ytm, .int ybg, .int yan, .int ybs, .int yva, .int ynu])), (amr, .inl (kmr, 8, .inl ymr)), (amm, .inl (kmm, 64, .inl ymm)), (apg, .inl (kpg, 4, .inl ypg)), (atk, .inl (ktk, 2, .inl ytk)), (ata, .inl (kta, 2, .inl yta)), (arw, .inl (krw, 22, .inl yrw))] := hD
      refine lv_goto (tgt := 123) hx hb dX4_command_33 (by decide) ?_
      exact W.vret hx hb hr (fun t ht hW => ⟨⟨(ymr, ymm, ypc, yda, (1 : Int32)), rfl, h, by rw [ht]; exact hP, hD⟩, hS.F ht⟩) hS.2.2 dX4_command_123
  · have h := if_n h hc
    exact W.vret hx hb hr (fun t ht hW => ⟨⟨(ymr, ymm, ypc, yda, yer), rfl, h, by rw [ht]; exact hP, hD⟩, hS.F ht⟩) hS.2.2 dX4_command_7
set_option maxHeartbeats 4000000 in
set_option maxRecDepth 100000 in
theorem ct_M_next (l : Launch) (dC : Nat → ClassId) (dI : Nat → Nat → Nat) (aM amr amm apg atk ata arw : Nat) (kmr kmm kpg ktk kta krw : ClassId) (sz : Nat) (ymr : (Nat → Int32)) (ymm : (Nat → Int32)) (ypc : Int32) (yha : Int32) (yca : Int32) (ysp : Int32) (yfr : Int32) (yst : Int32) (yda : Int32) (yer : Int32) (yad : Int32) (ypg : (Nat → Int32)) (ytk : (Nat → Int32)) (yta : (Nat → Int32)) (yse : Int32) (yin : Int32) (yrw : (Nat → Int32)) (ywd : Int32) (ytm : Int32) (ybg : Int32) (yan : Int32) (ybs : Int32) (yva : Int32) (ynu : Int32) (o : Int32 × Int32) (h : fn_M_next yad = some o) : Met l yX4_next wsX4_next ({ frames := 0, cells := 0, slots := 0, locals := 0 }) (va_Pc [.ref aM] (fun U => U.heap.size = sz ∧ va_P (dC, dI) vwCl [(aM, .inr (4, [.ref amr, .ref amm, .int ypc, .int yha, .int yca, .int ysp, .int yfr, .int yst, .int yda, .int yer, .int yad, .ref apg, .ref atk, .ref ata, .int yse, .int yin, .ref arw, .int ywd, .int ytm, .int ybg, .int yan, .int ybs, .int yva, .int ynu])), (amr, .inl (kmr, 8, .inl ymr)), (amm, .inl (kmm, 64, .inl ymm)), (apg, .inl (kpg, 4, .inl ypg)), (atk, .inl (ktk, 2, .inl ytk)), (ata, .inl (kta, 2, .inl yta)), (arw, .inl (krw, 22, .inl yrw))] U.heap ∧ va_K (dC, dI) vwCl [(kmr, .int), (kmm, .int), (kpg, .int), (ktk, .int), (kta, .int), (krw, .int)] U ∧ va_D (fun _ => True) [(aM, .inr (4, [.ref amr, .ref amm, .int ypc, .int yha, .int yca, .int ysp, .int yfr, .int yst, .int yda, .int yer, .int yad, .ref apg, .ref atk, .ref ata, .int yse, .int yin, .ref arw, .int ywd, .int ytm, .int ybg, .int yan, .int ybs, .int yva, .int ynu])), (amr, .inl (kmr, 8, .inl ymr)), (amm, .inl (kmm, 64, .inl ymm)), (apg, .inl (kpg, 4, .inl ypg)), (atk, .inl (ktk, 2, .inl ytk)), (ata, .inl (kta, 2, .inl yta)), (arw, .inl (krw, 22, .inl yrw))])) (va_Qi (fun (r : Int32) (u : Int32) => some (r, u) = some o) (fun (u : Int32) (t : State) => va_P (dC, dI) vwCl [(aM, .inr (4, [.ref amr, .ref amm, .int ypc, .int yha, .int yca, .int ysp, .int yfr, .int yst, .int yda, .int yer, .int u, .ref apg, .ref atk, .ref ata, .int yse, .int yin, .ref arw, .int ywd, .int ytm, .int ybg, .int yan, .int ybs, .int yva, .int ynu])), (amr, .inl (kmr, 8, .inl ymr)), (amm, .inl (kmm, 64, .inl ymm)), (apg, .inl (kpg, 4, .inl ypg)), (atk, .inl (ktk, 2, .inl ytk)), (ata, .inl (kta, 2, .inl yta)), (arw, .inl (krw, 22, .inl yrw))] t.heap ∧ va_D (va_A [(aM, .inr (4, [.ref amr, .ref amm, .int ypc, .int yha, .int yca, .int ysp, .int yfr, .int yst, .int yda, .int yer, .int yad, .ref apg, .ref atk, .ref ata, .int yse, .int yin, .ref arw, .int ywd, .int ytm, .int ybg, .int yan, .int ybs, .int yva, .int ynu])), (amr, .inl (kmr, 8, .inl ymr)), (amm, .inl (kmm, 64, .inl ymm)), (apg, .inl (kpg, 4, .inl ypg)), (atk, .inl (ktk, 2, .inl ytk)), (ata, .inl (kta, 2, .inl yta)), (arw, .inl (krw, 22, .inl yrw))] sz) [(aM, .inr (4, [.ref amr, .ref amm, .int ypc, .int yha, .int yca, .int ysp, .int yfr, .int yst, .int yda, .int yer, .int u, .ref apg, .ref atk, .ref ata, .int yse, .int yin, .ref arw, .int ywd, .int ytm, .int ybg, .int yan, .int ybs, .int yva, .int ynu])), (amr, .inl (kmr, 8, .inl ymr)), (amm, .inl (kmm, 64, .inl ymm)), (apg, .inl (kpg, 4, .inl ypg)), (atk, .inl (ktk, 2, .inl ytk)), (ata, .inl (kta, 2, .inl yta)), (arw, .inl (krw, 22, .inl yrw))]) (va_A [(aM, .inr (4, [.ref amr, .ref amm, .int ypc, .int yha, .int yca, .int ysp, .int yfr, .int yst, .int yda, .int yer, .int yad, .ref apg, .ref atk, .ref ata, .int yse, .int yin, .ref arw, .int ywd, .int ytm, .int ybg, .int yan, .int ybs, .int yva, .int ynu])), (amr, .inl (kmr, 8, .inl ymr)), (amm, .inl (kmm, 64, .inl ymm)), (apg, .inl (kpg, 4, .inl ypg)), (atk, .inl (ktk, 2, .inl ytk)), (ata, .inl (kta, 2, .inl yta)), (arw, .inl (krw, 22, .inl yrw))] sz)) 0 0 (va_A [(aM, .inr (4, [.ref amr, .ref amm, .int ypc, .int yha, .int yca, .int ysp, .int yfr, .int yst, .int yda, .int yer, .int yad, .ref apg, .ref atk, .ref ata, .int yse, .int yin, .ref arw, .int ywd, .int ytm, .int ybg, .int yan, .int ybs, .int yva, .int ynu])), (amr, .inl (kmr, 8, .inl ymr)), (amm, .inl (kmm, 64, .inl ymm)), (apg, .inl (kpg, 4, .inl ypg)), (atk, .inl (ktk, 2, .inl ytk)), (ata, .inl (kta, 2, .inl yta)), (arw, .inl (krw, 22, .inl yrw))] sz) := by
  refine Met.ofW (cc := cX4_next) (maxL := 2) (ret := (some .int)) (by decide) rfl ?_
  intro p e s m args below meth c s₁ B hml hv
  obtain ⟨rfl, hsz, hP, hK, hD0⟩ := hv
  have hx := B.exec
  have hb := B.bytes
  have hr := B.returns
  have hts := atoms_spec (ws := wsX4_next) B.pre
  have hown : s.vm.findClass RX4 = some m.cls := findClass_of_methodNamed B.named
  have hlocks := B.notSynchronized
  subst hsz
  have hD := hD0.self (sz := s.heap.size)
  generalize hAe : va_A [(aM, .inr (4, [.ref amr, .ref amm, .int ypc, .int yha, .int yca, .int ysp, .int yfr, .int yst, .int yda, .int yer, .int yad, .ref apg, .ref atk, .ref ata, .int yse, .int yin, .ref arw, .int ywd, .int ytm, .int ybg, .int yan, .int ybs, .int yva, .int ynu])), (amr, .inl (kmr, 8, .inl ymr)), (amm, .inl (kmm, 64, .inl ymm)), (apg, .inl (kpg, 4, .inl ypg)), (atk, .inl (ktk, 2, .inl ytk)), (ata, .inl (kta, 2, .inl yta)), (arw, .inl (krw, 22, .inl yrw))] s.heap.size = A at hD ⊢
  have hA : ∀ q : Nat, s.heap.size ≤ q → A q := fun q h => by rw [← hAe]; exact Or.inr h
  have hS : va_S A s.heap s.heap [] := va_S.rf
  have hP : va_P (dC, dI) vwCl [(aM, .inr (4, [.ref amr, .ref amm, .int ypc, .int yha, .int yca, .int ysp, .int yfr, .int yst, .int yda, .int yer, .int yad, .ref apg, .ref atk, .ref ata, .int yse, .int yin, .ref arw, .int ywd, .int ytm, .int ybg, .int yan, .int ybs, .int yva, .int ynu])), (amr, .inl (kmr, 8, .inl ymr)), (amm, .inl (kmm, 64, .inl ymm)), (apg, .inl (kpg, 4, .inl ypg)), (atk, .inl (ktk, 2, .inl ytk)), (ata, .inl (kta, 2, .inl yta)), (arw, .inl (krw, 22, .inl yrw))] s.heap := hP
  have hf80 := hts (.fieldLink RX4 80 "ProbeBenchModel" "address" "I") (by decide +kernel)
  have hinX4 : ∀ w ∈ u_ws RX4 TX4 24, w ∈ wsX4_next := by decide +kernel
  have hl := lv_entry ([.ref aM]) (n := 2) (Nat.le_of_ble_eq_true rfl)
  rw [lg_entry_eq]
  generalize (lg_sl ([.ref aM]) ++ List.replicate (2 - (lg_sl ([.ref aM])).length) Slot.unset).toArray = ls at hl ⊢
  have hl : lv_has ls 2 [(0, .ref aM)] := hl
  unfold fn_M_next at h
  refine lv_aload_n hx hb dX4_next_0 rfl (lv_at hl 0 rfl) ?_
  refine va_get (D := (dC, dI)) (ci := 4) (v := .int yad) (C := RX4) (T := TX4) (N := 24) hx hb hts hinX4 hown hK hP 0 rfl rfl 10 (by decide) hf80 (fun _ h9 => h9) rfl dX4_next_1 ?_
  refine lv_istore_n hx hb dX4_next_4 rfl hl (by decide) rfl (fun ls hl => ?_)
  have hl : lv_has ls 2 [(1, .int yad), (0, .ref aM)] := hl
  refine lv_aload_n hx hb dX4_next_5 rfl (lv_at hl 1 rfl) ?_
  refine lv_aload_n hx hb dX4_next_6 rfl (lv_at hl 1 rfl) ?_
  refine va_get (D := (dC, dI)) (ci := 4) (v := .int yad) (C := RX4) (T := TX4) (N := 24) hx hb hts hinX4 hown hK hP 0 rfl rfl 10 (by decide) hf80 (fun _ h9 => h9) rfl dX4_next_7 ?_
  refine lv_iconst (v := (1 : Int32)) hx hb dX4_next_10 (by decide) ?_
  refine lv_iadd hx hb dX4_next_11 ?_
  refine lv_bipush (v := (64 : Int32)) hx hb dX4_next_12 (by decide) ?_
  refine lv_irem hx hb dX4_next_14 (by decide) ?_
  refine va_put (D := (dC, dI)) (ci := 4) (v := .int ((yad + (1 : Int32)) - (yad + (1 : Int32)) / (64 : Int32) * (64 : Int32))) (ty := .int) (C := RX4) (T := TX4) (N := 24) hx hb hts hinX4 tyX4 tyX4_ok nmX4 hown hK hP hD hS 0 rfl rfl 10 (by decide) hf80 (fun _ h9 => h9) rfl (by decide +kernel) rfl rfl (Nat.le_of_ble_eq_true rfl) dX4_next_15 (fun H locs hP hD hS => ?_)
  have hP : va_P (dC, dI) vwCl [(aM, .inr (4, [.ref amr, .ref amm, .int ypc, .int yha, .int yca, .int ysp, .int yfr, .int yst, .int yda, .int yer, .int ((yad + (1 : Int32)) - (yad + (1 : Int32)) / (64 : Int32) * (64 : Int32)), .ref apg, .ref atk, .ref ata, .int yse, .int yin, .ref arw, .int ywd, .int ytm, .int ybg, .int yan, .int ybs, .int yva, .int ynu])), (amr, .inl (kmr, 8, .inl ymr)), (amm, .inl (kmm, 64, .inl ymm)), (apg, .inl (kpg, 4, .inl ypg)), (atk, .inl (ktk, 2, .inl ytk)), (ata, .inl (kta, 2, .inl yta)), (arw, .inl (krw, 22, .inl yrw))] H := hP
  have hD : va_D A [(aM, .inr (4, [.ref amr, .ref amm, .int ypc, .int yha, .int yca, .int ysp, .int yfr, .int yst, .int yda, .int yer, .int ((yad + (1 : Int32)) - (yad + (1 : Int32)) / (64 : Int32) * (64 : Int32)), .ref apg, .ref atk, .ref ata, .int yse, .int yin, .ref arw, .int ywd, .int ytm, .int ybg, .int yan, .int ybs, .int yva, .int ynu])), (amr, .inl (kmr, 8, .inl ymr)), (amm, .inl (kmm, 64, .inl ymm)), (apg, .inl (kpg, 4, .inl ypg)), (atk, .inl (ktk, 2, .inl ytk)), (ata, .inl (kta, 2, .inl yta)), (arw, .inl (krw, 22, .inl yrw))] := hD
  refine lv_iload_n hx hb dX4_next_18 rfl (lv_at hl 0 rfl) ?_
  exact W.iret hx hb hr (fun t ht hW => ⟨⟨yad, ((yad + (1 : Int32)) - (yad + (1 : Int32)) / (64 : Int32) * (64 : Int32)), rfl, h, by rw [ht]; exact hP, hD⟩, hS.F ht⟩) hS.2.2 dX4_next_19
