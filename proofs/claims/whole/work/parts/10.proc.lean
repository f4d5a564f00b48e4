set_option maxHeartbeats 4000000 in
set_option maxRecDepth 100000 in
theorem ct_P_halt (l : Launch) (dC : Nat → ClassId) (dI : Nat → Nat → Nat) (aP apr apw apt : Nat) (kpr kpw kpt : ClassId) (sz : Nat) (xpr : (Nat → Int32)) (xpw : (Nat → Int32)) (xpt : (Nat → Int32)) (xpc : Int32) (xrn : Int32) (xca : Int32) (xst : Int32) (xps : Int32) (j1 : Int32) (o : Int32 × Int32) (h : fn_P_halt xrn xca j1 = some o) : Met l yX2_halt wsX2_halt ({ frames := 0, cells := 0, slots := 0, locals := 0 }) (va_Pc [.ref aP, .int j1] (fun U => U.heap.size = sz ∧ va_P (dC, dI) vwCl [(aP, .inr (2, [.ref apr, .ref apw, .ref apt, .int xpc, .int xrn, .int xca, .int xst, .int xps])), (apr, .inl (kpr, 8, .inl xpr)), (apw, .inl (kpw, 64, .inl xpw)), (apt, .inl (kpt, 2, .inl xpt))] U.heap ∧ va_K (dC, dI) vwCl [(kpr, .int), (kpw, .int), (kpt, .int)] U ∧ va_D (fun _ => True) [(aP, .inr (2, [.ref apr, .ref apw, .ref apt, .int xpc, .int xrn, .int xca, .int xst, .int xps])), (apr, .inl (kpr, 8, .inl xpr)), (apw, .inl (kpw, 64, .inl xpw)), (apt, .inl (kpt, 2, .inl xpt))])) (va_Qv (fun (u : Int32 × Int32) => some u = some o) (fun (u : Int32 × Int32) (t : State) => va_P (dC, dI) vwCl [(aP, .inr (2, [.ref apr, .ref apw, .ref apt, .int xpc, .int u.1, .int u.2, .int xst, .int xps])), (apr, .inl (kpr, 8, .inl xpr)), (apw, .inl (kpw, 64, .inl xpw)), (apt, .inl (kpt, 2, .inl xpt))] t.heap ∧ va_D (va_A [(aP, .inr (2, [.ref apr, .ref apw, .ref apt, .int xpc, .int xrn, .int xca, .int xst, .int xps])), (apr, .inl (kpr, 8, .inl xpr)), (apw, .inl (kpw, 64, .inl xpw)), (apt, .inl (kpt, 2, .inl xpt))] sz) [(aP, .inr (2, [.ref apr, .ref apw, .ref apt, .int xpc, .int u.1, .int u.2, .int xst, .int xps])), (apr, .inl (kpr, 8, .inl xpr)), (apw, .inl (kpw, 64, .inl xpw)), (apt, .inl (kpt, 2, .inl xpt))]) (va_A [(aP, .inr (2, [.ref apr, .ref apw, .ref apt, .int xpc, .int xrn, .int xca, .int xst, .int xps])), (apr, .inl (kpr, 8, .inl xpr)), (apw, .inl (kpw, 64, .inl xpw)), (apt, .inl (kpt, 2, .inl xpt))] sz)) 0 0 (va_A [(aP, .inr (2, [.ref apr, .ref apw, .ref apt, .int xpc, .int xrn, .int xca, .int xst, .int xps])), (apr, .inl (kpr, 8, .inl xpr)), (apw, .inl (kpw, 64, .inl xpw)), (apt, .inl (kpt, 2, .inl xpt))] sz) := by
  refine Met.ofW (cc := cX2_halt) (maxL := 2) (ret := none) (by decide) rfl ?_
  intro p e s m args below meth c s₁ B hml hv
  obtain ⟨rfl, hsz, hP, hK, hD0⟩ := hv
  have hx := B.exec
  have hb := B.bytes
  have hr := B.returns
  have hts := atoms_spec (ws := wsX2_halt) B.pre
  have hown : s.vm.findClass RX2 = some m.cls := findClass_of_methodNamed B.named
  have hlocks := B.notSynchronized
  subst hsz
  have hD := hD0.self (sz := s.heap.size)
  generalize hAe : va_A [(aP, .inr (2, [.ref apr, .ref apw, .ref apt, .int xpc, .int xrn, .int xca, .int xst, .int xps])), (apr, .inl (kpr, 8, .inl xpr)), (apw, .inl (kpw, 64, .inl xpw)), (apt, .inl (kpt, 2, .inl xpt))] s.heap.size = A at hD ⊢
  have hA : ∀ q : Nat, s.heap.size ≤ q → A q := fun q h => by rw [← hAe]; exact Or.inr h
  have hS : va_S A s.heap s.heap [] := va_S.rf
  have hP : va_P (dC, dI) vwCl [(aP, .inr (2, [.ref apr, .ref apw, .ref apt, .int xpc, .int xrn, .int xca, .int xst, .int xps])), (apr, .inl (kpr, 8, .inl xpr)), (apw, .inl (kpw, 64, .inl xpw)), (apt, .inl (kpt, 2, .inl xpt))] s.heap := hP
  have hf25 := hts (.fieldLink RX2 25 "ProbeBench$Processor" "running" "Z") (by decide +kernel)
  have hf29 := hts (.fieldLink RX2 29 "ProbeBench$Processor" "cause" "I") (by decide +kernel)
  have hinX2 : ∀ w ∈ u_ws RX2 TX2 8, w ∈ wsX2_halt := by decide +kernel
  have hl := lv_entry ([.ref aP, .int j1]) (n := 2) (Nat.le_of_ble_eq_true rfl)
  rw [lg_entry_eq]
  generalize (lg_sl ([.ref aP, .int j1]) ++ List.replicate (2 - (lg_sl ([.ref aP, .int j1])).length) Slot.unset).toArray = ls at hl ⊢
  have hl : lv_has ls 2 [(0, .ref aP), (1, .int j1)] := hl
  unfold fn_P_halt at h
  refine lv_aload_n hx hb dX2_halt_0 rfl (lv_at hl 0 rfl) ?_
  refine lv_iconst (v := (0 : Int32)) hx hb dX2_halt_1 (by decide) ?_
  refine va_put (D := (dC, dI)) (ci := 2) (v := .int (0 : Int32)) (ty := .boolean) (C := RX2) (T := TX2) (N := 8) hx hb hts hinX2 tyX2 tyX2_ok nmX2 hown hK hP hD hS 0 rfl rfl 4 (by decide) hf25 (fun _ h9 => h9) rfl (by decide +kernel) (kb_n (Or.inl rfl)) (kb_f (Or.inl rfl)) (Nat.le_of_ble_eq_true rfl) dX2_halt_2 (fun H locs hP hD hS => ?_)
  have hP : va_P (dC, dI) vwCl [(aP, .inr (2, [.ref apr, .ref apw, .ref apt, .int xpc, .int (0 : Int32), .int xca, .int xst, .int xps])), (apr, .inl (kpr, 8, .inl xpr)), (apw, .inl (kpw, 64, .inl xpw)), (apt, .inl (kpt, 2, .inl xpt))] H := hP
  have hD : va_D A [(aP, .inr (2, [.ref apr, .ref apw, .ref apt, .int xpc, .int (0 : Int32), .int xca, .int xst, .int xps])), (apr, .inl (kpr, 8, .inl xpr)), (apw, .inl (kpw, 64, .inl xpw)), (apt, .inl (kpt, 2, .inl xpt))] := hD
  refine lv_aload_n hx hb dX2_halt_5 rfl (lv_at hl 0 rfl) ?_
  refine lv_iload_n hx hb dX2_halt_6 rfl (lv_at hl 1 rfl) ?_
  refine va_put (D := (dC, dI)) (ci := 2) (v := .int j1) (ty := .int) (C := RX2) (T := TX2) (N := 8) hx hb hts hinX2 tyX2 tyX2_ok nmX2 hown hK hP hD hS 0 rfl rfl 5 (by decide) hf29 (fun _ h9 => h9) rfl (by decide +kernel) rfl rfl (Nat.le_of_ble_eq_true rfl) dX2_halt_7 (fun H locs hP hD hS => ?_)
  have hP : va_P (dC, dI) vwCl [(aP, .inr (2, [.ref apr, .ref apw, .ref apt, .int xpc, .int (0 : Int32), .int j1, .int xst, .int xps])), (apr, .inl (kpr, 8, .inl xpr)), (apw, .inl (kpw, 64, .inl xpw)), (apt, .inl (kpt, 2, .inl xpt))] H := hP
  have hD : va_D A [(aP, .inr (2, [.ref apr, .ref apw, .ref apt, .int xpc, .int (0 : Int32), .int j1, .int xst, .int xps])), (apr, .inl (kpr, 8, .inl xpr)), (apw, .inl (kpw, 64, .inl xpw)), (apt, .inl (kpt, 2, .inl xpt))] := hD
  exact W.vret hx hb hr (fun t ht hW => ⟨⟨((0 : Int32), j1), rfl, h, by rw [ht]; exact hP, hD⟩, hS.F ht⟩) hS.2.2 dX2_halt_10
set_option maxHeartbeats 4000000 in
set_option maxRecDepth 100000 in
theorem ct_P_resume (l : Launch) (dC : Nat → ClassId) (dI : Nat → Nat → Nat) (aP apr apw apt : Nat) (kpr kpw kpt : ClassId) (sz : Nat) (xpr : (Nat → Int32)) (xpw : (Nat → Int32)) (xpt : (Nat → Int32)) (xpc : Int32) (xrn : Int32) (xca : Int32) (xst : Int32) (xps : Int32) (o : Int32 × Int32) (h : fn_P_resume xrn xps = some o) : Met l yX2_resume wsX2_resume ({ frames := 0, cells := 0, slots := 0, locals := 0 }) (va_Pc [.ref aP] (fun U => U.heap.size = sz ∧ va_P (dC, dI) vwCl [(aP, .inr (2, [.ref apr, .ref apw, .ref apt, .int xpc, .int xrn, .int xca, .int xst, .int xps])), (apr, .inl (kpr, 8, .inl xpr)), (apw, .inl (kpw, 64, .inl xpw)), (apt, .inl (kpt, 2, .inl xpt))] U.heap ∧ va_K (dC, dI) vwCl [(kpr, .int), (kpw, .int), (kpt, .int)] U ∧ va_D (fun _ => True) [(aP, .inr (2, [.ref apr, .ref apw, .ref apt, .int xpc, .int xrn, .int xca, .int xst, .int xps])), (apr, .inl (kpr, 8, .inl xpr)), (apw, .inl (kpw, 64, .inl xpw)), (apt, .inl (kpt, 2, .inl xpt))])) (va_Qv (fun (u : Int32 × Int32) => some u = some o) (fun (u : Int32 × Int32) (t : State) => va_P (dC, dI) vwCl [(aP, .inr (2, [.ref apr, .ref apw, .ref apt, .int xpc, .int u.1, .int xca, .int xst, .int u.2])), (apr, .inl (kpr, 8, .inl xpr)), (apw, .inl (kpw, 64, .inl xpw)), (apt, .inl (kpt, 2, .inl xpt))] t.heap ∧ va_D (va_A [(aP, .inr (2, [.ref apr, .ref apw, .ref apt, .int xpc, .int xrn, .int xca, .int xst, .int xps])), (apr, .inl (kpr, 8, .inl xpr)), (apw, .inl (kpw, 64, .inl xpw)), (apt, .inl (kpt, 2, .inl xpt))] sz) [(aP, .inr (2, [.ref apr, .ref apw, .ref apt, .int xpc, .int u.1, .int xca, .int xst, .int u.2])), (apr, .inl (kpr, 8, .inl xpr)), (apw, .inl (kpw, 64, .inl xpw)), (apt, .inl (kpt, 2, .inl xpt))]) (va_A [(aP, .inr (2, [.ref apr, .ref apw, .ref apt, .int xpc, .int xrn, .int xca, .int xst, .int xps])), (apr, .inl (kpr, 8, .inl xpr)), (apw, .inl (kpw, 64, .inl xpw)), (apt, .inl (kpt, 2, .inl xpt))] sz)) 0 0 (va_A [(aP, .inr (2, [.ref apr, .ref apw, .ref apt, .int xpc, .int xrn, .int xca, .int xst, .int xps])), (apr, .inl (kpr, 8, .inl xpr)), (apw, .inl (kpw, 64, .inl xpw)), (apt, .inl (kpt, 2, .inl xpt))] sz) := by
  refine Met.ofW (cc := cX2_resume) (maxL := 1) (ret := none) (by decide) rfl ?_
  intro p e s m args below meth c s₁ B hml hv
  obtain ⟨rfl, hsz, hP, hK, hD0⟩ := hv
  have hx := B.exec
  have hb := B.bytes
  have hr := B.returns
  have hts := atoms_spec (ws := wsX2_resume) B.pre
  have hown : s.vm.findClass RX2 = some m.cls := findClass_of_methodNamed B.named
  have hlocks := B.notSynchronized
  subst hsz
  have hD := hD0.self (sz := s.heap.size)
  generalize hAe : va_A [(aP, .inr (2, [.ref apr, .ref apw, .ref apt, .int xpc, .int xrn, .int xca, .int xst, .int xps])), (apr, .inl (kpr, 8, .inl xpr)), (apw, .inl (kpw, 64, .inl xpw)), (apt, .inl (kpt, 2, .inl xpt))] s.heap.size = A at hD ⊢
  have hA : ∀ q : Nat, s.heap.size ≤ q → A q := fun q h => by rw [← hAe]; exact Or.inr h
  have hS : va_S A s.heap s.heap [] := va_S.rf
  have hP : va_P (dC, dI) vwCl [(aP, .inr (2, [.ref apr, .ref apw, .ref apt, .int xpc, .int xrn, .int xca, .int xst, .int xps])), (apr, .inl (kpr, 8, .inl xpr)), (apw, .inl (kpw, 64, .inl xpw)), (apt, .inl (kpt, 2, .inl xpt))] s.heap := hP
  have hf25 := hts (.fieldLink RX2 25 "ProbeBench$Processor" "running" "Z") (by decide +kernel)
  have hf35 := hts (.fieldLink RX2 35 "ProbeBench$Processor" "passesTrap" "Z") (by decide +kernel)
  have hinX2 : ∀ w ∈ u_ws RX2 TX2 8, w ∈ wsX2_resume := by decide +kernel
  have hl := lv_entry ([.ref aP]) (n := 1) (Nat.le_of_ble_eq_true rfl)
  rw [lg_entry_eq]
  generalize (lg_sl ([.ref aP]) ++ List.replicate (1 - (lg_sl ([.ref aP])).length) Slot.unset).toArray = ls at hl ⊢
  have hl : lv_has ls 1 [(0, .ref aP)] := hl
  unfold fn_P_resume at h
  refine lv_aload_n hx hb dX2_resume_0 rfl (lv_at hl 0 rfl) ?_
  refine lv_iconst (v := (1 : Int32)) hx hb dX2_resume_1 (by decide) ?_
  refine va_put (D := (dC, dI)) (ci := 2) (v := .int (1 : Int32)) (ty := .boolean) (C := RX2) (T := TX2) (N := 8) hx hb hts hinX2 tyX2 tyX2_ok nmX2 hown hK hP hD hS 0 rfl rfl 4 (by decide) hf25 (fun _ h9 => h9) rfl (by decide +kernel) (kb_n (Or.inr rfl)) (kb_f (Or.inr rfl)) (Nat.le_of_ble_eq_true rfl) dX2_resume_2 (fun H locs hP hD hS => ?_)
  have hP : va_P (dC, dI) vwCl [(aP, .inr (2, [.ref apr, .ref apw, .ref apt, .int xpc, .int (1 : Int32), .int xca, .int xst, .int xps])), (apr, .inl (kpr, 8, .inl xpr)), (apw, .inl (kpw, 64, .inl xpw)), (apt, .inl (kpt, 2, .inl xpt))] H := hP
  have hD : va_D A [(aP, .inr (2, [.ref apr, .ref apw, .ref apt, .int xpc, .int (1 : Int32), .int xca, .int xst, .int xps])), (apr, .inl (kpr, 8, .inl xpr)), (apw, .inl (kpw, 64, .inl xpw)), (apt, .inl (kpt, 2, .inl xpt))] := hD
  refine lv_aload_n hx hb dX2_resume_5 rfl (lv_at hl 0 rfl) ?_
  refine lv_iconst (v := (1 : Int32)) hx hb dX2_resume_6 (by decide) ?_
  refine va_put (D := (dC, dI)) (ci := 2) (v := .int (1 : Int32)) (ty := .boolean) (C := RX2) (T := TX2) (N := 8) hx hb hts hinX2 tyX2 tyX2_ok nmX2 hown hK hP hD hS 0 rfl rfl 7 (by decide) hf35 (fun _ h9 => h9) rfl (by decide +kernel) (kb_n (Or.inr rfl)) (kb_f (Or.inr rfl)) (Nat.le_of_ble_eq_true rfl) dX2_resume_7 (fun H locs hP hD hS => ?_)
  have hP : va_P (dC, dI) vwCl [(aP, .inr (2, [.ref apr, .ref apw, .ref apt, .int xpc, .int (1 : Int32), .int xca, .int xst, .int (1 : Int32)])), (apr, .inl (kpr, 8, .inl xpr)), (apw, .inl (kpw, 64, .inl xpw)), (apt, .inl (kpt, 2, .inl xpt))] H := hP
  have hD : va_D A [(aP, .inr (2, [.ref apr, .ref apw, .ref apt, .int xpc, .int (1 : Int32), .int xca, .int xst, .int (1 : Int32)])), (apr, .inl (kpr, 8, .inl xpr)), (apw, .inl (kpw, 64, .inl xpw)), (apt, .inl (kpt, 2, .inl xpt))] := hD
  exact W.vret hx hb hr (fun t ht hW => ⟨⟨((1 : Int32), (1 : Int32)), rfl, h, by rw [ht]; exact hP, hD⟩, hS.F ht⟩) hS.2.2 dX2_resume_10
set_option maxHeartbeats 4000000 in
set_option maxRecDepth 100000 in
theorem ct_P_setTrap (l : Launch) (dC : Nat → ClassId) (dI : Nat → Nat → Nat) (aP apr apw apt : Nat) (kpr kpw kpt : ClassId) (sz : Nat) (xpr : (Nat → Int32)) (xpw : (Nat → Int32)) (xpt : (Nat → Int32)) (xpc : Int32) (xrn : Int32) (xca : Int32) (xst : Int32) (xps : Int32) (j1 j2 : Int32) (o : (Nat → Int32)) (h : fn_P_setTrap xpt j1 j2 = some o) : Met l yX2_setTrap wsX2_setTrap ({ frames := 0, cells := 0, slots := 0, locals := 0 }) (va_Pc [.ref aP, .int j1, .int j2] (fun U => U.heap.size = sz ∧ va_P (dC, dI) vwCl [(aP, .inr (2, [.ref apr, .ref apw, .ref apt, .int xpc, .int xrn, .int xca, .int xst, .int xps])), (apr, .inl (kpr, 8, .inl xpr)), (apw, .inl (kpw, 64, .inl xpw)), (apt, .inl (kpt, 2, .inl xpt))] U.heap ∧ va_K (dC, dI) vwCl [(kpr, .int), (kpw, .int), (kpt, .int)] U ∧ va_D (fun _ => True) [(aP, .inr (2, [.ref apr, .ref apw, .ref apt, .int xpc, .int xrn, .int xca, .int xst, .int xps])), (apr, .inl (kpr, 8, .inl xpr)), (apw, .inl (kpw, 64, .inl xpw)), (apt, .inl (kpt, 2, .inl xpt))])) (va_Qv (fun (u : (Nat → Int32)) => some u = some o) (fun (u : (Nat → Int32)) (t : State) => va_P (dC, dI) vwCl [(aP, .inr (2, [.ref apr, .ref apw, .ref apt, .int xpc, .int xrn, .int xca, .int xst, .int xps])), (apr, .inl (kpr, 8, .inl xpr)), (apw, .inl (kpw, 64, .inl xpw)), (apt, .inl (kpt, 2, .inl u))] t.heap ∧ va_D (va_A [(aP, .inr (2, [.ref apr, .ref apw, .ref apt, .int xpc, .int xrn, .int xca, .int xst, .int xps])), (apr, .inl (kpr, 8, .inl xpr)), (apw, .inl (kpw, 64, .inl xpw)), (apt, .inl (kpt, 2, .inl xpt))] sz) [(aP, .inr (2, [.ref apr, .ref apw, .ref apt, .int xpc, .int xrn, .int xca, .int xst, .int xps])), (apr, .inl (kpr, 8, .inl xpr)), (apw, .inl (kpw, 64, .inl xpw)), (apt, .inl (kpt, 2, .inl u))]) (va_A [(aP, .inr (2, [.ref apr, .ref apw, .ref apt, .int xpc, .int xrn, .int xca, .int xst, .int xps])), (apr, .inl (kpr, 8, .inl xpr)), (apw, .inl (kpw, 64, .inl xpw)), (apt, .inl (kpt, 2, .inl xpt))] sz)) 0 0 (va_A [(aP, .inr (2, [.ref apr, .ref apw, .ref apt, .int xpc, .int xrn, .int xca, .int xst, .int xps])), (apr, .inl (kpr, 8, .inl xpr)), (apw, .inl (kpw, 64, .inl xpw)), (apt, .inl (kpt, 2, .inl xpt))] sz) := by
  refine Met.ofW (cc := cX2_setTrap) (maxL := 4) (ret := none) (by decide) rfl ?_
  intro p e s m args below meth c s₁ B hml hv
  obtain ⟨rfl, hsz, hP, hK, hD0⟩ := hv
  have hx := B.exec
  have hb := B.bytes
  have hr := B.returns
  have hts := atoms_spec (ws := wsX2_setTrap) B.pre
  have hown : s.vm.findClass RX2 = some m.cls := findClass_of_methodNamed B.named
  have hlocks := B.notSynchronized
  subst hsz
  have hD := hD0.self (sz := s.heap.size)
  generalize hAe : va_A [(aP, .inr (2, [.ref apr, .ref apw, .ref apt, .int xpc, .int xrn, .int xca, .int xst, .int xps])), (apr, .inl (kpr, 8, .inl xpr)), (apw, .inl (kpw, 64, .inl xpw)), (apt, .inl (kpt, 2, .inl xpt))] s.heap.size = A at hD ⊢
  have hA : ∀ q : Nat, s.heap.size ≤ q → A q := fun q h => by rw [← hAe]; exact Or.inr h
  have hS : va_S A s.heap s.heap [] := va_S.rf
  have hP : va_P (dC, dI) vwCl [(aP, .inr (2, [.ref apr, .ref apw, .ref apt, .int xpc, .int xrn, .int xca, .int xst, .int xps])), (apr, .inl (kpr, 8, .inl xpr)), (apw, .inl (kpw, 64, .inl xpw)), (apt, .inl (kpt, 2, .inl xpt))] s.heap := hP
  have hf18 := hts (.fieldLink RX2 18 "ProbeBench$Processor" "traps" "[I") (by decide +kernel)
  have hinX2 : ∀ w ∈ u_ws RX2 TX2 8, w ∈ wsX2_setTrap := by decide +kernel
  have hl := lv_entry ([.ref aP, .int j1, .int j2]) (n := 4) (Nat.le_of_ble_eq_true rfl)
  rw [lg_entry_eq]
  generalize (lg_sl ([.ref aP, .int j1, .int j2]) ++ List.replicate (4 - (lg_sl ([.ref aP, .int j1, .int j2])).length) Slot.unset).toArray = ls at hl ⊢
  have hl : lv_has ls 4 [(0, .ref aP), (1, .int j1), (2, .int j2)] := hl
  unfold fn_P_setTrap at h
  refine lv_iload_n hx hb dX2_setTrap_0 rfl (lv_at hl 2 rfl) ?_
  refine lv_sipush (v := (192 : Int32)) hx hb dX2_setTrap_1 (by decide) ?_
  refine lv_iand hx hb dX2_setTrap_4 ?_
  refine lv_sipush (v := (192 : Int32)) hx hb dX2_setTrap_5 (by decide) ?_
  refine lv_icmp_ne (tgt := 15) hx hb dX2_setTrap_8 (by decide) (fun hc => ?_) (fun hc => ?_)
  · have h := if_n h hc
    refine lv_iconst (v := (0 : Int32)) hx hb dX2_setTrap_15 (by decide) ?_
    refine lv_istore_n hx hb dX2_setTrap_16 rfl hl (by decide) rfl (fun ls hl => ?_)
    have hl : lv_has ls 4 [(3, .int (0 : Int32)), (0, .ref aP), (1, .int j1), (2, .int j2)] := hl
    refine lv_aload_n hx hb dX2_setTrap_17 rfl (lv_at hl 1 rfl) ?_
    refine va_get (D := (dC, dI)) (ci := 2) (v := .ref apt) (C := RX2) (T := TX2) (N := 8) hx hb hts hinX2 hown hK hP 0 rfl rfl 2 (by decide) hf18 (fun _ h9 => h9) rfl dX2_setTrap_18 ?_
    refine lv_iload_n hx hb dX2_setTrap_21 rfl (lv_at hl 2 rfl) ?_
    refine lv_iload_n hx hb dX2_setTrap_22 rfl (lv_at hl 3 rfl) ?_
    refine lv_iload_n hx hb dX2_setTrap_23 rfl (lv_at hl 0 rfl) ?_
    refine lv_if_eq (tgt := 32) hx hb dX2_setTrap_24 (by decide) (fun hc => ?_) (fun hc => ?_)
    · refine lv_sipush (v := (255 : Int32)) hx hb dX2_setTrap_32 (by decide) ?_
      refine lv_iand hx hb dX2_setTrap_35 ?_
      obtain ⟨hi, h⟩ := ck_in h
      refine va_iast hx hb hK hP hD hS 3 2 rfl rfl hi dX2_setTrap_36 (fun H locs hP hD hS => ?_)
      have hP : va_P (dC, dI) vwCl [(aP, .inr (2, [.ref apr, .ref apw, .ref apt, .int xpc, .int xrn, .int xca, .int xst, .int xps])), (apr, .inl (kpr, 8, .inl xpr)), (apw, .inl (kpw, 64, .inl xpw)), (apt, .inl (kpt, 2, .inl (upd xpt (Int32.toNatClampNeg j1) (j2 &&& (255 : Int32)))))] H := hP
      have hD : va_D A [(aP, .inr (2, [.ref apr, .ref apw, .ref apt, .int xpc, .int xrn, .int xca, .int xst, .int xps])), (apr, .inl (kpr, 8, .inl xpr)), (apw, .inl (kpw, 64, .inl xpw)), (apt, .inl (kpt, 2, .inl (upd xpt (Int32.toNatClampNeg j1) (j2 &&& (255 : Int32)))))] := hD
      exact W.vret hx hb hr (fun t ht hW => ⟨⟨(upd xpt (Int32.toNatClampNeg j1) (j2 &&& (255 : Int32))), rfl, h, by rw [ht]; exact hP, hD⟩, hS.F ht⟩) hS.2.2 dX2_setTrap_37
    · exact absurd hc (by decide)
  · have h := if_y h hc
    refine lv_iconst (v := (1 : Int32)) hx hb dX2_setTrap_11 (by decide) ?_
    refine lv_goto (tgt := 16) hx hb dX2_setTrap_12 (by decide) ?_
    refine lv_istore_n hx hb dX2_setTrap_16 rfl hl (by decide) rfl (fun ls hl => ?_)
    have hl : lv_has ls 4 [(3, .int (1 : Int32)), (0, .ref aP), (1, .int j1), (2, .int j2)] := hl
    refine lv_aload_n hx hb dX2_setTrap_17 rfl (lv_at hl 1 rfl) ?_
    refine va_get (D := (dC, dI)) (ci := 2) (v := .ref apt) (C := RX2) (T := TX2) (N := 8) hx hb hts hinX2 hown hK hP 0 rfl rfl 2 (by decide) hf18 (fun _ h9 => h9) rfl dX2_setTrap_18 ?_
    refine lv_iload_n hx hb dX2_setTrap_21 rfl (lv_at hl 2 rfl) ?_
    refine lv_iload_n hx hb dX2_setTrap_22 rfl (lv_at hl 3 rfl) ?_
    refine lv_iload_n hx hb dX2_setTrap_23 rfl (lv_at hl 0 rfl) ?_
    refine lv_if_eq (tgt := 32) hx hb dX2_setTrap_24 (by decide) (fun hc => ?_) (fun hc => ?_)
    · exact absurd hc (by decide)
    · refine lv_bipush (v := (63 : Int32)) hx hb dX2_setTrap_27 (by decide) ?_
      refine lv_goto (tgt := 35) hx hb dX2_setTrap_29 (by decide) ?_
      refine lv_iand hx hb dX2_setTrap_35 ?_
      obtain ⟨hi, h⟩ := ck_in h
      refine va_iast hx hb hK hP hD hS 3 2 rfl rfl hi dX2_setTrap_36 (fun H locs hP hD hS => ?_)
      have hP : va_P (dC, dI) vwCl [(aP, .inr (2, [.ref apr, .ref apw, .ref apt, .int xpc, .int xrn, .int xca, .int xst, .int xps])), (apr, .inl (kpr, 8, .inl xpr)), (apw, .inl (kpw, 64, .inl xpw)), (apt, .inl (kpt, 2, .inl (upd xpt (Int32.toNatClampNeg j1) (j2 &&& (63 : Int32)))))] H := hP
      have hD : va_D A [(aP, .inr (2, [.ref apr, .ref apw, .ref apt, .int xpc, .int xrn, .int xca, .int xst, .int xps])), (apr, .inl (kpr, 8, .inl xpr)), (apw, .inl (kpw, 64, .inl xpw)), (apt, .inl (kpt, 2, .inl (upd xpt (Int32.toNatClampNeg j1) (j2 &&& (63 : Int32)))))] := hD
      exact W.vret hx hb hr (fun t ht hW => ⟨⟨(upd xpt (Int32.toNatClampNeg j1) (j2 &&& (63 : Int32))), rfl, h, by rw [ht]; exact hP, hD⟩, hS.F ht⟩) hS.2.2 dX2_setTrap_37
set_option maxHeartbeats 4000000 in
set_option maxRecDepth 100000 in
theorem ct_P_status (l : Launch) (dC : Nat → ClassId) (dI : Nat → Nat → Nat) (aP apr apw apt : Nat) (kpr kpw kpt : ClassId) (sz : Nat) (xpr : (Nat → Int32)) (xpw : (Nat → Int32)) (xpt : (Nat → Int32)) (xpc : Int32) (xrn : Int32) (xca : Int32) (xst : Int32) (xps : Int32) (o : Int32) (h : fn_P_status xpc xrn xca = some o) : Met l yX2_status wsX2_status ({ frames := 0, cells := 0, slots := 0, locals := 0 }) (va_Pc [.ref aP] (fun U => U.heap.size = sz ∧ va_P (dC, dI) vwCl [(aP, .inr (2, [.ref apr, .ref apw, .ref apt, .int xpc, .int xrn, .int xca, .int xst, .int xps])), (apr, .inl (kpr, 8, .inl xpr)), (apw, .inl (kpw, 64, .inl xpw)), (apt, .inl (kpt, 2, .inl xpt))] U.heap ∧ va_K (dC, dI) vwCl [(kpr, .int), (kpw, .int), (kpt, .int)] U ∧ va_D (fun _ => True) [(aP, .inr (2, [.ref apr, .ref apw, .ref apt, .int xpc, .int xrn, .int xca, .int xst, .int xps])), (apr, .inl (kpr, 8, .inl xpr)), (apw, .inl (kpw, 64, .inl xpw)), (apt, .inl (kpt, 2, .inl xpt))])) (va_Qi (fun (r : Int32) (_ : Unit) => some r = some o) (fun (u : Unit) (t : State) => va_P (dC, dI) vwCl [(aP, .inr (2, [.ref apr, .ref apw, .ref apt, .int xpc, .int xrn, .int xca, .int xst, .int xps])), (apr, .inl (kpr, 8, .inl xpr)), (apw, .inl (kpw, 64, .inl xpw)), (apt, .inl (kpt, 2, .inl xpt))] t.heap ∧ va_D (va_A [(aP, .inr (2, [.ref apr, .ref apw, .ref apt, .int xpc, .int xrn, .int xca, .int xst, .int xps])), (apr, .inl (kpr, 8, .inl xpr)), (apw, .inl (kpw, 64, .inl xpw)), (apt, .inl (kpt, 2, .inl xpt))] sz) [(aP, .inr (2, [.ref apr, .ref apw, .ref apt, .int xpc, .int xrn, .int xca, .int xst, .int xps])), (apr, .inl (kpr, 8, .inl xpr)), (apw, .inl (kpw, 64, .inl xpw)), (apt, .inl (kpt, 2, .inl xpt))]) (va_A [(aP, .inr (2, [.ref apr, .ref apw, .ref apt, .int xpc, .int xrn, .int xca, .int xst, .int xps])), (apr, .inl (kpr, 8, .inl xpr)), (apw, .inl (kpw, 64, .inl xpw)), (apt, .inl (kpt, 2, .inl xpt))] sz)) 0 0 (va_A [(aP, .inr (2, [.ref apr, .ref apw, .ref apt, .int xpc, .int xrn, .int xca, .int xst, .int xps])), (apr, .inl (kpr, 8, .inl xpr)), (apw, .inl (kpw, 64, .inl xpw)), (apt, .inl (kpt, 2, .inl xpt))] sz) := by
  refine Met.ofW (cc := cX2_status) (maxL := 1) (ret := (some .int)) (by decide) rfl ?_
  intro p e s m args below meth c s₁ B hml hv
  obtain ⟨rfl, hsz, hP, hK, hD0⟩ := hv
  have hx := B.exec
  have hb := B.bytes
  have hr := B.returns
  have hts := atoms_spec (ws := wsX2_status) B.pre
  have hown : s.vm.findClass RX2 = some m.cls := findClass_of_methodNamed B.named
  have hlocks := B.notSynchronized
  subst hsz
  have hD := hD0.self (sz := s.heap.size)
  generalize hAe : va_A [(aP, .inr (2, [.ref apr, .ref apw, .ref apt, .int xpc, .int xrn, .int xca, .int xst, .int xps])), (apr, .inl (kpr, 8, .inl xpr)), (apw, .inl (kpw, 64, .inl xpw)), (apt, .inl (kpt, 2, .inl xpt))] s.heap.size = A at hD ⊢
  have hA : ∀ q : Nat, s.heap.size ≤ q → A q := fun q h => by rw [← hAe]; exact Or.inr h
  have hS : va_S A s.heap s.heap [] := va_S.rf
  have hP : va_P (dC, dI) vwCl [(aP, .inr (2, [.ref apr, .ref apw, .ref apt, .int xpc, .int xrn, .int xca, .int xst, .int xps])), (apr, .inl (kpr, 8, .inl xpr)), (apw, .inl (kpw, 64, .inl xpw)), (apt, .inl (kpt, 2, .inl xpt))] s.heap := hP
  have hf21 := hts (.fieldLink RX2 21 "ProbeBench$Processor" "counter" "I") (by decide +kernel)
  have hf25 := hts (.fieldLink RX2 25 "ProbeBench$Processor" "running" "Z") (by decide +kernel)
  have hf29 := hts (.fieldLink RX2 29 "ProbeBench$Processor" "cause" "I") (by decide +kernel)
  have hinX2 : ∀ w ∈ u_ws RX2 TX2 8, w ∈ wsX2_status := by decide +kernel
  have hl := lv_entry ([.ref aP]) (n := 1) (Nat.le_of_ble_eq_true rfl)
  rw [lg_entry_eq]
  generalize (lg_sl ([.ref aP]) ++ List.replicate (1 - (lg_sl ([.ref aP])).length) Slot.unset).toArray = ls at hl ⊢
  have hl : lv_has ls 1 [(0, .ref aP)] := hl
  unfold fn_P_status at h
  refine lv_aload_n hx hb dX2_status_0 rfl (lv_at hl 0 rfl) ?_
  refine va_get (D := (dC, dI)) (ci := 2) (v := .int xrn) (C := RX2) (T := TX2) (N := 8) hx hb hts hinX2 hown hK hP 0 rfl rfl 4 (by decide) hf25 (fun _ h9 => h9) rfl dX2_status_1 ?_
  refine lv_if_eq (tgt := 11) hx hb dX2_status_4 (by decide) (fun hc => ?_) (fun hc => ?_)
  · have h := if_y h hc
    refine lv_iconst (v := (1 : Int32)) hx hb dX2_status_11 (by decide) ?_
    refine lv_aload_n hx hb dX2_status_12 rfl (lv_at hl 0 rfl) ?_
    refine va_get (D := (dC, dI)) (ci := 2) (v := .int xca) (C := RX2) (T := TX2) (N := 8) hx hb hts hinX2 hown hK hP 0 rfl rfl 5 (by decide) hf29 (fun _ h9 => h9) rfl dX2_status_13 ?_
    refine lv_iconst (v := (1 : Int32)) hx hb dX2_status_16 (by decide) ?_
    refine lv_ishl hx hb dX2_status_17 ?_
    refine lv_ior hx hb dX2_status_18 ?_
    refine lv_aload_n hx hb dX2_status_19 rfl (lv_at hl 0 rfl) ?_
    refine va_get (D := (dC, dI)) (ci := 2) (v := .int xpc) (C := RX2) (T := TX2) (N := 8) hx hb hts hinX2 hown hK hP 0 rfl rfl 3 (by decide) hf21 (fun _ h9 => h9) rfl dX2_status_20 ?_
    refine lv_iconst (v := (4 : Int32)) hx hb dX2_status_23 (by decide) ?_
    refine lv_ishl hx hb dX2_status_24 ?_
    refine lv_ior hx hb dX2_status_25 ?_
    exact W.iret hx hb hr (fun t ht hW => ⟨⟨(((1 : Int32) ||| (xca <<< ((1 : Int32) &&& (31 : Int32)))) ||| (xpc <<< ((4 : Int32) &&& (31 : Int32)))), (), rfl, h, by rw [ht]; exact hP, hD⟩, hS.F ht⟩) hS.2.2 dX2_status_26
  · have h := if_n h hc
    refine lv_iconst (v := (0 : Int32)) hx hb dX2_status_7 (by decide) ?_
    refine lv_goto (tgt := 12) hx hb dX2_status_8 (by decide) ?_
    refine lv_aload_n hx hb dX2_status_12 rfl (lv_at hl 0 rfl) ?_
    refine va_get (D := (dC, dI)) (ci := 2) (v := .int xca) (C := RX2) (T := TX2) (N := 8) hx hb hts hinX2 hown hK hP 0 rfl rfl 5 (by decide) hf29 (fun _ h9 => h9) rfl dX2_status_13 ?_
    refine lv_iconst (v := (1 : Int32)) hx hb dX2_status_16 (by decide) ?_
    refine lv_ishl hx hb dX2_status_17 ?_
    refine lv_ior hx hb dX2_status_18 ?_
    refine lv_aload_n hx hb dX2_status_19 rfl (lv_at hl 0 rfl) ?_
    refine va_get (D := (dC, dI)) (ci := 2) (v := .int xpc) (C := RX2) (T := TX2) (N := 8) hx hb hts hinX2 hown hK hP 0 rfl rfl 3 (by decide) hf21 (fun _ h9 => h9) rfl dX2_status_20 ?_
    refine lv_iconst (v := (4 : Int32)) hx hb dX2_status_23 (by decide) ?_
    refine lv_ishl hx hb dX2_status_24 ?_
    refine lv_ior hx hb dX2_status_25 ?_
    exact W.iret hx hb hr (fun t ht hW => ⟨⟨(((0 : Int32) ||| (xca <<< ((1 : Int32) &&& (31 : Int32)))) ||| (xpc <<< ((4 : Int32) &&& (31 : Int32)))), (), rfl, h, by rw [ht]; exact hP, hD⟩, hS.F ht⟩) hS.2.2 dX2_status_26
set_option maxHeartbeats 4000000 in
set_option maxRecDepth 100000 in
theorem ct_P_isTrapped (l : Launch) (dC : Nat → ClassId) (dI : Nat → Nat → Nat) (aP apr apw apt : Nat) (kpr kpw kpt : ClassId) (sz : Nat) (xpr : (Nat → Int32)) (xpw : (Nat → Int32)) (xpt : (Nat → Int32)) (xpc : Int32) (xrn : Int32) (xca : Int32) (xst : Int32) (xps : Int32) (j1 : Int32) (o : Int32) (h : fn_P_isTrapped xpr xpt xpc xps j1 = some o) : Met l yX2_isTrapped wsX2_isTrapped ({ frames := 0, cells := 0, slots := 0, locals := 0 }) (va_Pc [.ref aP, .int j1] (fun U => U.heap.size = sz ∧ va_P (dC, dI) vwCl [(aP, .inr (2, [.ref apr, .ref apw, .ref apt, .int xpc, .int xrn, .int xca, .int xst, .int xps])), (apr, .inl (kpr, 8, .inl xpr)), (apw, .inl (kpw, 64, .inl xpw)), (apt, .inl (kpt, 2, .inl xpt))] U.heap ∧ va_K (dC, dI) vwCl [(kpr, .int), (kpw, .int), (kpt, .int)] U ∧ va_D (fun _ => True) [(aP, .inr (2, [.ref apr, .ref apw, .ref apt, .int xpc, .int xrn, .int xca, .int xst, .int xps])), (apr, .inl (kpr, 8, .inl xpr)), (apw, .inl (kpw, 64, .inl xpw)), (apt, .inl (kpt, 2, .inl xpt))])) (va_Qi (fun (r : Int32) (_ : Unit) => some r = some o) (fun (u : Unit) (t : State) => va_P (dC, dI) vwCl [(aP, .inr (2, [.ref apr, .ref apw, .ref apt, .int xpc, .int xrn, .int xca, .int xst, .int xps])), (apr, .inl (kpr, 8, .inl xpr)), (apw, .inl (kpw, 64, .inl xpw)), (apt, .inl (kpt, 2, .inl xpt))] t.heap ∧ va_D (va_A [(aP, .inr (2, [.ref apr, .ref apw, .ref apt, .int xpc, .int xrn, .int xca, .int xst, .int xps])), (apr, .inl (kpr, 8, .inl xpr)), (apw, .inl (kpw, 64, .inl xpw)), (apt, .inl (kpt, 2, .inl xpt))] sz) [(aP, .inr (2, [.ref apr, .ref apw, .ref apt, .int xpc, .int xrn, .int xca, .int xst, .int xps])), (apr, .inl (kpr, 8, .inl xpr)), (apw, .inl (kpw, 64, .inl xpw)), (apt, .inl (kpt, 2, .inl xpt))]) (va_A [(aP, .inr (2, [.ref apr, .ref apw, .ref apt, .int xpc, .int xrn, .int xca, .int xst, .int xps])), (apr, .inl (kpr, 8, .inl xpr)), (apw, .inl (kpw, 64, .inl xpw)), (apt, .inl (kpt, 2, .inl xpt))] sz)) 0 0 (va_A [(aP, .inr (2, [.ref apr, .ref apw, .ref apt, .int xpc, .int xrn, .int xca, .int xst, .int xps])), (apr, .inl (kpr, 8, .inl xpr)), (apw, .inl (kpw, 64, .inl xpw)), (apt, .inl (kpt, 2, .inl xpt))] sz) := by
  refine Met.ofW (cc := cX2_isTrapped) (maxL := 5) (ret := (some .boolean)) (by decide) rfl ?_
  intro p e s m args below meth c s₁ B hml hv
  obtain ⟨rfl, hsz, hP, hK, hD0⟩ := hv
  have hx := B.exec
  have hb := B.bytes
  have hr := B.returns
  have hts := atoms_spec (ws := wsX2_isTrapped) B.pre
  have hown : s.vm.findClass RX2 = some m.cls := findClass_of_methodNamed B.named
  have hlocks := B.notSynchronized
  subst hsz
  have hD := hD0.self (sz := s.heap.size)
  generalize hAe : va_A [(aP, .inr (2, [.ref apr, .ref apw, .ref apt, .int xpc, .int xrn, .int xca, .int xst, .int xps])), (apr, .inl (kpr, 8, .inl xpr)), (apw, .inl (kpw, 64, .inl xpw)), (apt, .inl (kpt, 2, .inl xpt))] s.heap.size = A at hD ⊢
  have hA : ∀ q : Nat, s.heap.size ≤ q → A q := fun q h => by rw [← hAe]; exact Or.inr h
  have hS : va_S A s.heap s.heap [] := va_S.rf
  have hP : va_P (dC, dI) vwCl [(aP, .inr (2, [.ref apr, .ref apw, .ref apt, .int xpc, .int xrn, .int xca, .int xst, .int xps])), (apr, .inl (kpr, 8, .inl xpr)), (apw, .inl (kpw, 64, .inl xpw)), (apt, .inl (kpt, 2, .inl xpt))] s.heap := hP
  have hf11 := hts (.fieldLink RX2 11 "ProbeBench$Processor" "registers" "[I") (by decide +kernel)
  have hf18 := hts (.fieldLink RX2 18 "ProbeBench$Processor" "traps" "[I") (by decide +kernel)
  have hf21 := hts (.fieldLink RX2 21 "ProbeBench$Processor" "counter" "I") (by decide +kernel)
  have hf35 := hts (.fieldLink RX2 35 "ProbeBench$Processor" "passesTrap" "Z") (by decide +kernel)
  have hinX2 : ∀ w ∈ u_ws RX2 TX2 8, w ∈ wsX2_isTrapped := by decide +kernel
  have k_35 : ∀ (n : Nat), ∀ (H : Heap) (locs : List Loc) (ls : Array Slot) (z2 : Int32) (z3 : Int32) (z4 : Int32), va_P (dC, dI) vwCl [(aP, .inr (2, [.ref apr, .ref apw, .ref apt, .int xpc, .int xrn, .int xca, .int xst, .int xps])), (apr, .inl (kpr, 8, .inl xpr)), (apw, .inl (kpw, 64, .inl xpw)), (apt, .inl (kpt, 2, .inl xpt))] H → va_D A [(aP, .inr (2, [.ref apr, .ref apw, .ref apt, .int xpc, .int xrn, .int xca, .int xst, .int xps])), (apr, .inl (kpr, 8, .inl xpr)), (apw, .inl (kpw, 64, .inl xpw)), (apt, .inl (kpt, 2, .inl xpt))] → va_S A s.heap H locs → lv_has ls 5 [(0, .ref aP), (2, .int z2), (3, .int z3), (4, .int z4)] → fn_P_isTrapped_L35 n xpr xpt xpc xps z2 z3 z4 = some o → W p l e (headSpec wsX2_isTrapped ({ frames := 0, cells := 0, slots := 0, locals := 0 })).room s m ([.ref aP, .int j1] : List Value).toArray below meth c H locs 0 0 (MQ below (va_Qi (fun (r : Int32) (_ : Unit) => some r = some o) (fun (u : Unit) (t : State) => va_P (dC, dI) vwCl [(aP, .inr (2, [.ref apr, .ref apw, .ref apt, .int xpc, .int xrn, .int xca, .int xst, .int xps])), (apr, .inl (kpr, 8, .inl xpr)), (apw, .inl (kpw, 64, .inl xpw)), (apt, .inl (kpt, 2, .inl xpt))] t.heap ∧ va_D A [(aP, .inr (2, [.ref apr, .ref apw, .ref apt, .int xpc, .int xrn, .int xca, .int xst, .int xps])), (apr, .inl (kpr, 8, .inl xpr)), (apw, .inl (kpw, 64, .inl xpw)), (apt, .inl (kpt, 2, .inl xpt))]) A) ([.ref aP, .int j1] : List Value).toArray s 0 0 A) (F0 m 35 ls []) := by
    intro n
    induction n with
    | zero =>
      intro H locs ls z2 z3 z4 hP hD hS hl h
      exact (no_ne h).elim
    | succ n ih =>
      have k_67 : ∀ (H : Heap) (locs : List Loc) (ls : Array Slot) (z2 : Int32) (z3 : Int32) (z4 : Int32), va_P (dC, dI) vwCl [(aP, .inr (2, [.ref apr, .ref apw, .ref apt, .int xpc, .int xrn, .int xca, .int xst, .int xps])), (apr, .inl (kpr, 8, .inl xpr)), (apw, .inl (kpw, 64, .inl xpw)), (apt, .inl (kpt, 2, .inl xpt))] H → va_D A [(aP, .inr (2, [.ref apr, .ref apw, .ref apt, .int xpc, .int xrn, .int xca, .int xst, .int xps])), (apr, .inl (kpr, 8, .inl xpr)), (apw, .inl (kpw, 64, .inl xpw)), (apt, .inl (kpt, 2, .inl xpt))] → va_S A s.heap H locs → lv_has ls 5 [(0, .ref aP), (2, .int z2), (3, .int z3), (4, .int z4)] → fn_P_isTrapped_J67 (fn_P_isTrapped_L35 n) xpr xpt xpc xps z2 z3 z4 = some o → W p l e (headSpec wsX2_isTrapped ({ frames := 0, cells := 0, slots := 0, locals := 0 })).room s m ([.ref aP, .int j1] : List Value).toArray below meth c H locs 0 0 (MQ below (va_Qi (fun (r : Int32) (_ : Unit) => some r = some o) (fun (u : Unit) (t : State) => va_P (dC, dI) vwCl [(aP, .inr (2, [.ref apr, .ref apw, .ref apt, .int xpc, .int xrn, .int xca, .int xst, .int xps])), (apr, .inl (kpr, 8, .inl xpr)), (apw, .inl (kpw, 64, .inl xpw)), (apt, .inl (kpt, 2, .inl xpt))] t.heap ∧ va_D A [(aP, .inr (2, [.ref apr, .ref apw, .ref apt, .int xpc, .int xrn, .int xca, .int xst, .int xps])), (apr, .inl (kpr, 8, .inl xpr)), (apw, .inl (kpw, 64, .inl xpw)), (apt, .inl (kpt, 2, .inl xpt))]) A) ([.ref aP, .int j1] : List Value).toArray s 0 0 A) (F0 m 67 ls []) := by
        intro H locs ls z2 z3 z4 hP hD hS hl h
        unfold fn_P_isTrapped_J67 at h
        refine lv_iload_n hx hb dX2_isTrapped_67 rfl (lv_at hl 2 rfl) ?_
        refine lv_if_eq (tgt := 88) hx hb dX2_isTrapped_68 (by decide) (fun hc => ?_) (fun hc => ?_)
        · have h := if_y h hc
          refine lv_iinc (k := 3) (v := (z4 + (1 : Int32))) hx hb dX2_isTrapped_88 hl rfl (ik_p1 _) (by decide) rfl (fun ls hl => ?_)
          have hl : lv_has ls 5 [(4, .int (z4 + (1 : Int32))), (0, .ref aP), (2, .int z2), (3, .int z3)] := hl
          refine lv_goto (tgt := 35) hx hb dX2_isTrapped_91 (by decide) ?_
          exact ih _ _ _ _ _ _ hP hD hS (lv_sub hl [1, 2, 3, 0] rfl) h
        · have h := if_n h hc
          refine lv_aload_n hx hb dX2_isTrapped_71 rfl (lv_at hl 0 rfl) ?_
          refine va_get (D := (dC, dI)) (ci := 2) (v := .ref apt) (C := RX2) (T := TX2) (N := 8) hx hb hts hinX2 hown hK hP 0 rfl rfl 2 (by decide) hf18 (fun _ h9 => h9) rfl dX2_isTrapped_72 ?_
          refine lv_iload hx hb dX2_isTrapped_75 (lv_at hl 3 rfl) ?_
          obtain ⟨hi, h⟩ := ck_in h
          refine va_iald hx hb hK hP 3 2 rfl rfl hi dX2_isTrapped_77 ?_
          refine lv_sipush (v := (128 : Int32)) hx hb dX2_isTrapped_78 (by decide) ?_
          refine lv_iload_n hx hb dX2_isTrapped_81 rfl (lv_at hl 1 rfl) ?_
          refine lv_iadd hx hb dX2_isTrapped_82 ?_
          refine lv_icmp_ne (tgt := 88) hx hb dX2_isTrapped_83 (by decide) (fun hc => ?_) (fun hc => ?_)
          · have h := if_n h hc
            refine lv_iinc (k := 3) (v := (z4 + (1 : Int32))) hx hb dX2_isTrapped_88 hl rfl (ik_p1 _) (by decide) rfl (fun ls hl => ?_)
            have hl : lv_has ls 5 [(4, .int (z4 + (1 : Int32))), (0, .ref aP), (2, .int z2), (3, .int z3)] := hl
            refine lv_goto (tgt := 35) hx hb dX2_isTrapped_91 (by decide) ?_
            exact ih _ _ _ _ _ _ hP hD hS (lv_sub hl [1, 2, 3, 0] rfl) h
          · have h := if_y h hc
            refine lv_iconst (v := (1 : Int32)) hx hb dX2_isTrapped_86 (by decide) ?_
            exact W.zret hx hb hr (kb_n (Or.inr rfl)) (fun t ht hW => ⟨⟨(1 : Int32), (), rfl, h, by rw [ht]; exact hP, hD⟩, hS.F ht⟩) hS.2.2 dX2_isTrapped_87
      intro H locs ls z2 z3 z4 hP hD hS hl h
      have h : fn_P_isTrapped_B35 (fn_P_isTrapped_L35 n) xpr xpt xpc xps z2 z3 z4 = some o := h
      unfold fn_P_isTrapped_B35 at h
      refine lv_iload hx hb dX2_isTrapped_35 (lv_at hl 3 rfl) ?_
      refine lv_iconst (v := (2 : Int32)) hx hb dX2_isTrapped_37 (by decide) ?_
      refine lv_icmp_ge (tgt := 94) hx hb dX2_isTrapped_38 (by decide) (fun hc => ?_) (fun hc => ?_)
      · have h := if_y h hc
        refine lv_iconst (v := (0 : Int32)) hx hb dX2_isTrapped_94 (by decide) ?_
        exact W.zret hx hb hr (kb_n (Or.inl rfl)) (fun t ht hW => ⟨⟨(0 : Int32), (), rfl, h, by rw [ht]; exact hP, hD⟩, hS.F ht⟩) hS.2.2 dX2_isTrapped_95
      · have h := if_n h hc
        refine lv_aload_n hx hb dX2_isTrapped_41 rfl (lv_at hl 0 rfl) ?_
        refine va_get (D := (dC, dI)) (ci := 2) (v := .int xps) (C := RX2) (T := TX2) (N := 8) hx hb hts hinX2 hown hK hP 0 rfl rfl 7 (by decide) hf35 (fun _ h9 => h9) rfl dX2_isTrapped_42 ?_
        refine lv_if_ne (tgt := 67) hx hb dX2_isTrapped_45 (by decide) (fun hc => ?_) (fun hc => ?_)
        · have h := if_n h hc
          exact k_67 _ _ _ _ _ _ hP hD hS hl h
        · have h := if_y h hc
          refine lv_aload_n hx hb dX2_isTrapped_48 rfl (lv_at hl 0 rfl) ?_
          refine va_get (D := (dC, dI)) (ci := 2) (v := .ref apt) (C := RX2) (T := TX2) (N := 8) hx hb hts hinX2 hown hK hP 0 rfl rfl 2 (by decide) hf18 (fun _ h9 => h9) rfl dX2_isTrapped_49 ?_
          refine lv_iload hx hb dX2_isTrapped_52 (lv_at hl 3 rfl) ?_
          obtain ⟨hi, h⟩ := ck_in h
          refine va_iald hx hb hK hP 3 2 rfl rfl hi dX2_isTrapped_54 ?_
          refine lv_bipush (v := (64 : Int32)) hx hb dX2_isTrapped_55 (by decide) ?_
          refine lv_aload_n hx hb dX2_isTrapped_57 rfl (lv_at hl 0 rfl) ?_
          refine va_get (D := (dC, dI)) (ci := 2) (v := .int xpc) (C := RX2) (T := TX2) (N := 8) hx hb hts hinX2 hown hK hP 0 rfl rfl 3 (by decide) hf21 (fun _ h9 => h9) rfl dX2_isTrapped_58 ?_
          refine lv_iadd hx hb dX2_isTrapped_61 ?_
          refine lv_icmp_ne (tgt := 67) hx hb dX2_isTrapped_62 (by decide) (fun hc => ?_) (fun hc => ?_)
          · have h := if_n h hc
            exact k_67 _ _ _ _ _ _ hP hD hS hl h
          · have h := if_y h hc
            refine lv_iconst (v := (1 : Int32)) hx hb dX2_isTrapped_65 (by decide) ?_
            exact W.zret hx hb hr (kb_n (Or.inr rfl)) (fun t ht hW => ⟨⟨(1 : Int32), (), rfl, h, by rw [ht]; exact hP, hD⟩, hS.F ht⟩) hS.2.2 dX2_isTrapped_66
  have hl := lv_entry ([.ref aP, .int j1]) (n := 5) (Nat.le_of_ble_eq_true rfl)
  rw [lg_entry_eq]
  generalize (lg_sl ([.ref aP, .int j1]) ++ List.replicate (5 - (lg_sl ([.ref aP, .int j1])).length) Slot.unset).toArray = ls at hl ⊢
  have hl : lv_has ls 5 [(0, .ref aP), (1, .int j1)] := hl
  unfold fn_P_isTrapped at h
  refine lv_aload_n hx hb dX2_isTrapped_0 rfl (lv_at hl 0 rfl) ?_
  refine va_get (D := (dC, dI)) (ci := 2) (v := .ref apr) (C := RX2) (T := TX2) (N := 8) hx hb hts hinX2 hown hK hP 0 rfl rfl 0 (by decide) hf11 (fun _ h9 => h9) rfl dX2_isTrapped_1 ?_
  refine lv_iload_n hx hb dX2_isTrapped_4 rfl (lv_at hl 1 rfl) ?_
  refine lv_bipush (v := (6 : Int32)) hx hb dX2_isTrapped_5 (by decide) ?_
  refine lv_ishr hx hb dX2_isTrapped_7 ?_
  refine lv_bipush (v := (7 : Int32)) hx hb dX2_isTrapped_8 (by decide) ?_
  refine lv_iand hx hb dX2_isTrapped_10 ?_
  obtain ⟨hi, h⟩ := ck_in h
  refine va_iald hx hb hK hP 1 0 rfl rfl hi dX2_isTrapped_11 ?_
  refine lv_iload_n hx hb dX2_isTrapped_12 rfl (lv_at hl 1 rfl) ?_
  refine lv_iadd hx hb dX2_isTrapped_13 ?_
  refine lv_bipush (v := (63 : Int32)) hx hb dX2_isTrapped_14 (by decide) ?_
  refine lv_iand hx hb dX2_isTrapped_16 ?_
  refine lv_istore_n hx hb dX2_isTrapped_17 rfl hl (by decide) rfl (fun ls hl => ?_)
  have hl : lv_has ls 5 [(2, .int (((xpr (Int32.toNatClampNeg ((j1 >>> ((6 : Int32) &&& (31 : Int32))) &&& (7 : Int32)))) + j1) &&& (63 : Int32))), (0, .ref aP), (1, .int j1)] := hl
  refine lv_iload_n hx hb dX2_isTrapped_18 rfl (lv_at hl 2 rfl) ?_
  refine lv_bipush (v := (12 : Int32)) hx hb dX2_isTrapped_19 (by decide) ?_
  refine lv_ishr hx hb dX2_isTrapped_21 ?_
  refine lv_iconst (v := (5 : Int32)) hx hb dX2_isTrapped_22 (by decide) ?_
  refine lv_icmp_ne (tgt := 30) hx hb dX2_isTrapped_23 (by decide) (fun hc => ?_) (fun hc => ?_)
  · have h := if_n h hc
    refine lv_iconst (v := (0 : Int32)) hx hb dX2_isTrapped_30 (by decide) ?_
    refine lv_istore_n hx hb dX2_isTrapped_31 rfl hl (by decide) rfl (fun ls hl => ?_)
    have hl : lv_has ls 5 [(3, .int (0 : Int32)), (2, .int (((xpr (Int32.toNatClampNeg ((j1 >>> ((6 : Int32) &&& (31 : Int32))) &&& (7 : Int32)))) + j1) &&& (63 : Int32))), (0, .ref aP), (1, .int j1)] := hl
    refine lv_iconst (v := (0 : Int32)) hx hb dX2_isTrapped_32 (by decide) ?_
    refine lv_istore hx hb dX2_isTrapped_33 hl (by decide) rfl (fun ls hl => ?_)
    have hl : lv_has ls 5 [(4, .int (0 : Int32)), (3, .int (0 : Int32)), (2, .int (((xpr (Int32.toNatClampNeg ((j1 >>> ((6 : Int32) &&& (31 : Int32))) &&& (7 : Int32)))) + j1) &&& (63 : Int32))), (0, .ref aP), (1, .int j1)] := hl
    exact k_35 64 _ _ _ _ _ _ hP hD hS (lv_sub hl [3, 2, 1, 0] rfl) h
  · have h := if_y h hc
    refine lv_iconst (v := (1 : Int32)) hx hb dX2_isTrapped_26 (by decide) ?_
    refine lv_goto (tgt := 31) hx hb dX2_isTrapped_27 (by decide) ?_
    refine lv_istore_n hx hb dX2_isTrapped_31 rfl hl (by decide) rfl (fun ls hl => ?_)
    have hl : lv_has ls 5 [(3, .int (1 : Int32)), (2, .int (((xpr (Int32.toNatClampNeg ((j1 >>> ((6 : Int32) &&& (31 : Int32))) &&& (7 : Int32)))) + j1) &&& (63 : Int32))), (0, .ref aP), (1, .int j1)] := hl
    refine lv_iconst (v := (0 : Int32)) hx hb dX2_isTrapped_32 (by decide) ?_
    refine lv_istore hx hb dX2_isTrapped_33 hl (by decide) rfl (fun ls hl => ?_)
    have hl : lv_has ls 5 [(4, .int (0 : Int32)), (3, .int (1 : Int32)), (2, .int (((xpr (Int32.toNatClampNeg ((j1 >>> ((6 : Int32) &&& (31 : Int32))) &&& (7 : Int32)))) + j1) &&& (63 : Int32))), (0, .ref aP), (1, .int j1)] := hl
    exact k_35 64 _ _ _ _ _ _ hP hD hS (lv_sub hl [3, 2, 1, 0] rfl) h
set_option maxHeartbeats 4000000 in
set_option maxRecDepth 100000 in
theorem ct_P_isJump (l : Launch) (dC : Nat → ClassId) (dI : Nat → Nat → Nat) (sz : Nat) (j0 : Int32) (o : Int32) (h : fn_P_isJump j0 = some o) : Met l yX2_isJump wsX2_isJump ({ frames := 0, cells := 0, slots := 0, locals := 0 }) (va_Pc [.int j0] (fun U => U.heap.size = sz ∧ va_P (dC, dI) vwCl [] U.heap ∧ va_K (dC, dI) vwCl [] U ∧ va_D (fun _ => True) [])) (va_Qi (fun (r : Int32) (_ : Unit) => some r = some o) (fun (u : Unit) (t : State) => va_P (dC, dI) vwCl [] t.heap ∧ va_D (va_A [] sz) []) (va_A [] sz)) 0 0 (va_A [] sz) := by
  refine Met.ofW (cc := cX2_isJump) (maxL := 1) (ret := (some .boolean)) (by decide) rfl ?_
  intro p e s m args below meth c s₁ B hml hv
  obtain ⟨rfl, hsz, hP, hK, hD0⟩ := hv
  have hx := B.exec
  have hb := B.bytes
  have hr := B.returns
  have hts := atoms_spec (ws := wsX2_isJump) B.pre
  have hown : s.vm.findClass RX2 = some m.cls := findClass_of_methodNamed B.named
  have hlocks := B.notSynchronized
  subst hsz
  have hD := hD0.self (sz := s.heap.size)
  generalize hAe : va_A [] s.heap.size = A at hD ⊢
  have hA : ∀ q : Nat, s.heap.size ≤ q → A q := fun q h => by rw [← hAe]; exact Or.inr h
  have hS : va_S A s.heap s.heap [] := va_S.rf
  have hP : va_P (dC, dI) vwCl [] s.heap := hP
  have hl := lv_entry ([.int j0]) (n := 1) (Nat.le_of_ble_eq_true rfl)
  rw [lg_entry_eq]
  generalize (lg_sl ([.int j0]) ++ List.replicate (1 - (lg_sl ([.int j0])).length) Slot.unset).toArray = ls at hl ⊢
  have hl : lv_has ls 1 [(0, .int j0)] := hl
  unfold fn_P_isJump at h
  refine lv_iload_n hx hb dX2_isJump_0 rfl (lv_at hl 0 rfl) ?_
  refine lv_bipush (v := (12 : Int32)) hx hb dX2_isJump_1 (by decide) ?_
  refine lv_ishr hx hb dX2_isJump_3 ?_
  refine lv_bipush (v := (6 : Int32)) hx hb dX2_isJump_4 (by decide) ?_
  refine lv_icmp_lt (tgt := 22) hx hb dX2_isJump_6 (by decide) (fun hc => ?_) (fun hc => ?_)
  · have h := if_y h hc
    refine lv_iconst (v := (0 : Int32)) hx hb dX2_isJump_22 (by decide) ?_
    exact W.zret hx hb hr (kb_n (Or.inl rfl)) (fun t ht hW => ⟨⟨(0 : Int32), (), rfl, h, by rw [ht]; exact hP, hD⟩, hS.F ht⟩) hS.2.2 dX2_isJump_23
  · have h := if_n h hc
    refine lv_iload_n hx hb dX2_isJump_9 rfl (lv_at hl 0 rfl) ?_
    refine lv_bipush (v := (12 : Int32)) hx hb dX2_isJump_10 (by decide) ?_
    refine lv_ishr hx hb dX2_isJump_12 ?_
    refine lv_bipush (v := (9 : Int32)) hx hb dX2_isJump_13 (by decide) ?_
    refine lv_icmp_gt (tgt := 22) hx hb dX2_isJump_15 (by decide) (fun hc => ?_) (fun hc => ?_)
    · have h := if_y h hc
      refine lv_iconst (v := (0 : Int32)) hx hb dX2_isJump_22 (by decide) ?_
      exact W.zret hx hb hr (kb_n (Or.inl rfl)) (fun t ht hW => ⟨⟨(0 : Int32), (), rfl, h, by rw [ht]; exact hP, hD⟩, hS.F ht⟩) hS.2.2 dX2_isJump_23
    · have h := if_n h hc
      refine lv_iconst (v := (1 : Int32)) hx hb dX2_isJump_18 (by decide) ?_
      refine lv_goto (tgt := 23) hx hb dX2_isJump_19 (by decide) ?_
      exact W.zret hx hb hr (kb_n (Or.inr rfl)) (fun t ht hW => ⟨⟨(1 : Int32), (), rfl, h, by rw [ht]; exact hP, hD⟩, hS.F ht⟩) hS.2.2 dX2_isJump_23
set_option maxHeartbeats 4000000 in
set_option maxRecDepth 100000 in
theorem ct_P_perform (l : Launch) (dC : Nat → ClassId) (dI : Nat → Nat → Nat) (aP apr apw apt : Nat) (kpr kpw kpt : ClassId) (sz : Nat) (xpr : (Nat → Int32)) (xpw : (Nat → Int32)) (xpt : (Nat → Int32)) (xpc : Int32) (xrn : Int32) (xca : Int32) (xst : Int32) (xps : Int32) (j1 : Int32) (o : (Nat → Int32) × (Nat → Int32)) (h : fn_P_perform xpr xpw j1 = some o) : Met l yX2_perform wsX2_perform ({ frames := 0, cells := 0, slots := 0, locals := 0 }) (va_Pc [.ref aP, .int j1] (fun U => U.heap.size = sz ∧ va_P (dC, dI) vwCl [(aP, .inr (2, [.ref apr, .ref apw, .ref apt, .int xpc, .int xrn, .int xca, .int xst, .int xps])), (apr, .inl (kpr, 8, .inl xpr)), (apw, .inl (kpw, 64, .inl xpw)), (apt, .inl (kpt, 2, .inl xpt))] U.heap ∧ va_K (dC, dI) vwCl [(kpr, .int), (kpw, .int), (kpt, .int)] U ∧ va_D (fun _ => True) [(aP, .inr (2, [.ref apr, .ref apw, .ref apt, .int xpc, .int xrn, .int xca, .int xst, .int xps])), (apr, .inl (kpr, 8, .inl xpr)), (apw, .inl (kpw, 64, .inl xpw)), (apt, .inl (kpt, 2, .inl xpt))])) (va_Qv (fun (u : (Nat → Int32) × (Nat → Int32)) => some u = some o) (fun (u : (Nat → Int32) × (Nat → Int32)) (t : State) => va_P (dC, dI) vwCl [(aP, .inr (2, [.ref apr, .ref apw, .ref apt, .int xpc, .int xrn, .int xca, .int xst, .int xps])), (apr, .inl (kpr, 8, .inl u.1)), (apw, .inl (kpw, 64, .inl u.2)), (apt, .inl (kpt, 2, .inl xpt))] t.heap ∧ va_D (va_A [(aP, .inr (2, [.ref apr, .ref apw, .ref apt, .int xpc, .int xrn, .int xca, .int xst, .int xps])), (apr, .inl (kpr, 8, .inl xpr)), (apw, .inl (kpw, 64, .inl xpw)), (apt, .inl (kpt, 2, .inl xpt))] sz) [(aP, .inr (2, [.ref apr, .ref apw, .ref apt, .int xpc, .int xrn, .int xca, .int xst, .int xps])), (apr, .inl (kpr, 8, .inl u.1)), (apw, .inl (kpw, 64, .inl u.2)), (apt, .inl (kpt, 2, .inl xpt))]) (va_A [(aP, .inr (2, [.ref apr, .ref apw, .ref apt, .int xpc, .int xrn, .int xca, .int xst, .int xps])), (apr, .inl (kpr, 8, .inl xpr)), (apw, .inl (kpw, 64, .inl xpw)), (apt, .inl (kpt, 2, .inl xpt))] sz)) 0 0 (va_A [(aP, .inr (2, [.ref apr, .ref apw, .ref apt, .int xpc, .int xrn, .int xca, .int xst, .int xps])), (apr, .inl (kpr, 8, .inl xpr)), (apw, .inl (kpw, 64, .inl xpw)), (apt, .inl (kpt, 2, .inl xpt))] sz) := by
  refine Met.ofW (cc := cX2_perform) (maxL := 6) (ret := none) (by decide) rfl ?_
  intro p e s m args below meth c s₁ B hml hv
  obtain ⟨rfl, hsz, hP, hK, hD0⟩ := hv
  have hx := B.exec
  have hb := B.bytes
  have hr := B.returns
  have hts := atoms_spec (ws := wsX2_perform) B.pre
  have hown : s.vm.findClass RX2 = some m.cls := findClass_of_methodNamed B.named
  have hlocks := B.notSynchronized
  subst hsz
  have hD := hD0.self (sz := s.heap.size)
  generalize hAe : va_A [(aP, .inr (2, [.ref apr, .ref apw, .ref apt, .int xpc, .int xrn, .int xca, .int xst, .int xps])), (apr, .inl (kpr, 8, .inl xpr)), (apw, .inl (kpw, 64, .inl xpw)), (apt, .inl (kpt, 2, .inl xpt))] s.heap.size = A at hD ⊢
  have hA : ∀ q : Nat, s.heap.size ≤ q → A q := fun q h => by rw [← hAe]; exact Or.inr h
  have hS : va_S A s.heap s.heap [] := va_S.rf
  have hP : va_P (dC, dI) vwCl [(aP, .inr (2, [.ref apr, .ref apw, .ref apt, .int xpc, .int xrn, .int xca, .int xst, .int xps])), (apr, .inl (kpr, 8, .inl xpr)), (apw, .inl (kpw, 64, .inl xpw)), (apt, .inl (kpt, 2, .inl xpt))] s.heap := hP
  have hc55 := hts (.constant RX2 55 (65535 : Int32)) (by decide +kernel)
  have hf11 := hts (.fieldLink RX2 11 "ProbeBench$Processor" "registers" "[I") (by decide +kernel)
  have hf15 := hts (.fieldLink RX2 15 "ProbeBench$Processor" "words" "[I") (by decide +kernel)
  have hinX2 : ∀ w ∈ u_ws RX2 TX2 8, w ∈ wsX2_perform := by decide +kernel
  have hl := lv_entry ([.ref aP, .int j1]) (n := 6) (Nat.le_of_ble_eq_true rfl)
  rw [lg_entry_eq]
  generalize (lg_sl ([.ref aP, .int j1]) ++ List.replicate (6 - (lg_sl ([.ref aP, .int j1])).length) Slot.unset).toArray = ls at hl ⊢
  have hl : lv_has ls 6 [(0, .ref aP), (1, .int j1)] := hl
  unfold fn_P_perform at h
  refine lv_iload_n hx hb dX2_perform_0 rfl (lv_at hl 1 rfl) ?_
  refine lv_bipush (v := (9 : Int32)) hx hb dX2_perform_1 (by decide) ?_
  refine lv_ishr hx hb dX2_perform_3 ?_
  refine lv_bipush (v := (7 : Int32)) hx hb dX2_perform_4 (by decide) ?_
  refine lv_iand hx hb dX2_perform_6 ?_
  refine lv_istore_n hx hb dX2_perform_7 rfl hl (by decide) rfl (fun ls hl => ?_)
  have hl : lv_has ls 6 [(2, .int ((j1 >>> ((9 : Int32) &&& (31 : Int32))) &&& (7 : Int32))), (0, .ref aP), (1, .int j1)] := hl
  refine lv_iload_n hx hb dX2_perform_8 rfl (lv_at hl 2 rfl) ?_
  refine lv_bipush (v := (6 : Int32)) hx hb dX2_perform_9 (by decide) ?_
  refine lv_ishr hx hb dX2_perform_11 ?_
  refine lv_bipush (v := (7 : Int32)) hx hb dX2_perform_12 (by decide) ?_
  refine lv_iand hx hb dX2_perform_14 ?_
  refine lv_istore_n hx hb dX2_perform_15 rfl hl (by decide) rfl (fun ls hl => ?_)
  have hl : lv_has ls 6 [(3, .int ((j1 >>> ((6 : Int32) &&& (31 : Int32))) &&& (7 : Int32))), (2, .int ((j1 >>> ((9 : Int32) &&& (31 : Int32))) &&& (7 : Int32))), (0, .ref aP), (1, .int j1)] := hl
  refine lv_iload_n hx hb dX2_perform_16 rfl (lv_at hl 3 rfl) ?_
  refine lv_bipush (v := (63 : Int32)) hx hb dX2_perform_17 (by decide) ?_
  refine lv_iand hx hb dX2_perform_19 ?_
  refine lv_istore hx hb dX2_perform_20 hl (by decide) rfl (fun ls hl => ?_)
  have hl : lv_has ls 6 [(4, .int (j1 &&& (63 : Int32))), (3, .int ((j1 >>> ((6 : Int32) &&& (31 : Int32))) &&& (7 : Int32))), (2, .int ((j1 >>> ((9 : Int32) &&& (31 : Int32))) &&& (7 : Int32))), (0, .ref aP), (1, .int j1)] := hl
  refine lv_aload_n hx hb dX2_perform_22 rfl (lv_at hl 3 rfl) ?_
  refine va_get (D := (dC, dI)) (ci := 2) (v := .ref apr) (C := RX2) (T := TX2) (N := 8) hx hb hts hinX2 hown hK hP 0 rfl rfl 0 (by decide) hf11 (fun _ h9 => h9) rfl dX2_perform_23 ?_
  refine lv_iload_n hx hb dX2_perform_26 rfl (lv_at hl 1 rfl) ?_
  obtain ⟨hi, h⟩ := ck_in h
  refine va_iald hx hb hK hP 1 0 rfl rfl hi dX2_perform_27 ?_
  refine lv_iload hx hb dX2_perform_28 (lv_at hl 0 rfl) ?_
  refine lv_iadd hx hb dX2_perform_30 ?_
  refine lv_bipush (v := (63 : Int32)) hx hb dX2_perform_31 (by decide) ?_
  refine lv_iand hx hb dX2_perform_33 ?_
  refine lv_istore hx hb dX2_perform_34 hl (by decide) rfl (fun ls hl => ?_)
  have hl : lv_has ls 6 [(5, .int (((xpr (Int32.toNatClampNeg ((j1 >>> ((6 : Int32) &&& (31 : Int32))) &&& (7 : Int32)))) + (j1 &&& (63 : Int32))) &&& (63 : Int32))), (4, .int (j1 &&& (63 : Int32))), (3, .int ((j1 >>> ((6 : Int32) &&& (31 : Int32))) &&& (7 : Int32))), (2, .int ((j1 >>> ((9 : Int32) &&& (31 : Int32))) &&& (7 : Int32))), (0, .ref aP), (1, .int j1)] := hl
  refine lv_iload_n hx hb dX2_perform_36 rfl (lv_at hl 5 rfl) ?_
  refine lv_bipush (v := (12 : Int32)) hx hb dX2_perform_37 (by decide) ?_
  refine lv_ishr hx hb dX2_perform_39 ?_
  by_cases hc1 : (j1 >>> ((12 : Int32) &&& (31 : Int32))) = (1 : Int32)
  · have h := if_y h hc1
    refine lv_tableIn (tgt := 76) (off := 36) hx hb dX2_perform_40 (by rw [hc1]; decide) (by rw [hc1]; decide) (by rw [hc1]; rfl) (by decide) ?_
    refine lv_aload_n hx hb dX2_perform_76 rfl (lv_at hl 4 rfl) ?_
    refine va_get (D := (dC, dI)) (ci := 2) (v := .ref apr) (C := RX2) (T := TX2) (N := 8) hx hb hts hinX2 hown hK hP 0 rfl rfl 0 (by decide) hf11 (fun _ h9 => h9) rfl dX2_perform_77 ?_
    refine lv_iload_n hx hb dX2_perform_80 rfl (lv_at hl 3 rfl) ?_
    refine lv_iload hx hb dX2_perform_81 (lv_at hl 1 rfl) ?_
    obtain ⟨hi, h⟩ := ck_in h
    refine va_iast hx hb hK hP hD hS 1 0 rfl rfl hi dX2_perform_83 (fun H locs hP hD hS => ?_)
    have hP : va_P (dC, dI) vwCl [(aP, .inr (2, [.ref apr, .ref apw, .ref apt, .int xpc, .int xrn, .int xca, .int xst, .int xps])), (apr, .inl (kpr, 8, .inl (upd xpr (Int32.toNatClampNeg ((j1 >>> ((9 : Int32) &&& (31 : Int32))) &&& (7 : Int32))) (j1 &&& (63 : Int32))))), (apw, .inl (kpw, 64, .inl xpw)), (apt, .inl (kpt, 2, .inl xpt))] H := hP
    have hD : va_D A [(aP, .inr (2, [.ref apr, .ref apw, .ref apt, .int xpc, .int xrn, .int xca, .int xst, .int xps])), (apr, .inl (kpr, 8, .inl (upd xpr (Int32.toNatClampNeg ((j1 >>> ((9 : Int32) &&& (31 : Int32))) &&& (7 : Int32))) (j1 &&& (63 : Int32))))), (apw, .inl (kpw, 64, .inl xpw)), (apt, .inl (kpt, 2, .inl xpt))] := hD
    refine lv_goto (tgt := 169) hx hb dX2_perform_84 (by decide) ?_
    exact W.vret hx hb hr (fun t ht hW => ⟨⟨((upd xpr (Int32.toNatClampNeg ((j1 >>> ((9 : Int32) &&& (31 : Int32))) &&& (7 : Int32))) (j1 &&& (63 : Int32))), xpw), rfl, h, by rw [ht]; exact hP, hD⟩, hS.F ht⟩) hS.2.2 dX2_perform_169
  · have h := if_n h hc1
    by_cases hc2 : (j1 >>> ((12 : Int32) &&& (31 : Int32))) = (2 : Int32)
    · have h := if_y h hc2
      refine lv_tableIn (tgt := 87) (off := 47) hx hb dX2_perform_40 (by rw [hc2]; decide) (by rw [hc2]; decide) (by rw [hc2]; rfl) (by decide) ?_
      refine lv_aload_n hx hb dX2_perform_87 rfl (lv_at hl 4 rfl) ?_
      refine va_get (D := (dC, dI)) (ci := 2) (v := .ref apr) (C := RX2) (T := TX2) (N := 8) hx hb hts hinX2 hown hK hP 0 rfl rfl 0 (by decide) hf11 (fun _ h9 => h9) rfl dX2_perform_88 ?_
      refine lv_iload_n hx hb dX2_perform_91 rfl (lv_at hl 3 rfl) ?_
      refine lv_aload_n hx hb dX2_perform_92 rfl (lv_at hl 4 rfl) ?_
      refine va_get (D := (dC, dI)) (ci := 2) (v := .ref apr) (C := RX2) (T := TX2) (N := 8) hx hb hts hinX2 hown hK hP 0 rfl rfl 0 (by decide) hf11 (fun _ h9 => h9) rfl dX2_perform_93 ?_
      refine lv_iload_n hx hb dX2_perform_96 rfl (lv_at hl 3 rfl) ?_
      obtain ⟨hi, h⟩ := ck_in h
      refine va_iald hx hb hK hP 1 0 rfl rfl hi dX2_perform_97 ?_
      refine lv_aload_n hx hb dX2_perform_98 rfl (lv_at hl 4 rfl) ?_
      refine va_get (D := (dC, dI)) (ci := 2) (v := .ref apr) (C := RX2) (T := TX2) (N := 8) hx hb hts hinX2 hown hK hP 0 rfl rfl 0 (by decide) hf11 (fun _ h9 => h9) rfl dX2_perform_99 ?_
      refine lv_iload_n hx hb dX2_perform_102 rfl (lv_at hl 2 rfl) ?_
      obtain ⟨hi, h⟩ := ck_in h
      refine va_iald hx hb hK hP 1 0 rfl rfl hi dX2_perform_103 ?_
      refine lv_iadd hx hb dX2_perform_104 ?_
      refine lv_ldc hx hb hown hc55 dX2_perform_105 ?_
      refine lv_iand hx hb dX2_perform_107 ?_
      obtain ⟨hi, h⟩ := ck_in h
      refine va_iast hx hb hK hP hD hS 1 0 rfl rfl hi dX2_perform_108 (fun H locs hP hD hS => ?_)
      have hP : va_P (dC, dI) vwCl [(aP, .inr (2, [.ref apr, .ref apw, .ref apt, .int xpc, .int xrn, .int xca, .int xst, .int xps])), (apr, .inl (kpr, 8, .inl (upd xpr (Int32.toNatClampNeg ((j1 >>> ((9 : Int32) &&& (31 : Int32))) &&& (7 : Int32))) (((xpr (Int32.toNatClampNeg ((j1 >>> ((9 : Int32) &&& (31 : Int32))) &&& (7 : Int32)))) + (xpr (Int32.toNatClampNeg ((j1 >>> ((6 : Int32) &&& (31 : Int32))) &&& (7 : Int32))))) &&& (65535 : Int32))))), (apw, .inl (kpw, 64, .inl xpw)), (apt, .inl (kpt, 2, .inl xpt))] H := hP
      have hD : va_D A [(aP, .inr (2, [.ref apr, .ref apw, .ref apt, .int xpc, .int xrn, .int xca, .int xst, .int xps])), (apr, .inl (kpr, 8, .inl (upd xpr (Int32.toNatClampNeg ((j1 >>> ((9 : Int32) &&& (31 : Int32))) &&& (7 : Int32))) (((xpr (Int32.toNatClampNeg ((j1 >>> ((9 : Int32) &&& (31 : Int32))) &&& (7 : Int32)))) + (xpr (Int32.toNatClampNeg ((j1 >>> ((6 : Int32) &&& (31 : Int32))) &&& (7 : Int32))))) &&& (65535 : Int32))))), (apw, .inl (kpw, 64, .inl xpw)), (apt, .inl (kpt, 2, .inl xpt))] := hD
      refine lv_goto (tgt := 169) hx hb dX2_perform_109 (by decide) ?_
      exact W.vret hx hb hr (fun t ht hW => ⟨⟨((upd xpr (Int32.toNatClampNeg ((j1 >>> ((9 : Int32) &&& (31 : Int32))) &&& (7 : Int32))) (((xpr (Int32.toNatClampNeg ((j1 >>> ((9 : Int32) &&& (31 : Int32))) &&& (7 : Int32)))) + (xpr (Int32.toNatClampNeg ((j1 >>> ((6 : Int32) &&& (31 : Int32))) &&& (7 : Int32))))) &&& (65535 : Int32))), xpw), rfl, h, by rw [ht]; exact hP, hD⟩, hS.F ht⟩) hS.2.2 dX2_perform_169
    · have h := if_n h hc2
      by_cases hc3 : (j1 >>> ((12 : Int32) &&& (31 : Int32))) = (3 : Int32)
      · have h := if_y h hc3
        refine lv_tableIn (tgt := 112) (off := 72) hx hb dX2_perform_40 (by rw [hc3]; decide) (by rw [hc3]; decide) (by rw [hc3]; rfl) (by decide) ?_
        refine lv_aload_n hx hb dX2_perform_112 rfl (lv_at hl 4 rfl) ?_
        refine va_get (D := (dC, dI)) (ci := 2) (v := .ref apr) (C := RX2) (T := TX2) (N := 8) hx hb hts hinX2 hown hK hP 0 rfl rfl 0 (by decide) hf11 (fun _ h9 => h9) rfl dX2_perform_113 ?_
        refine lv_iload_n hx hb dX2_perform_116 rfl (lv_at hl 3 rfl) ?_
        refine lv_aload_n hx hb dX2_perform_117 rfl (lv_at hl 4 rfl) ?_
        refine va_get (D := (dC, dI)) (ci := 2) (v := .ref apr) (C := RX2) (T := TX2) (N := 8) hx hb hts hinX2 hown hK hP 0 rfl rfl 0 (by decide) hf11 (fun _ h9 => h9) rfl dX2_perform_118 ?_
        refine lv_iload_n hx hb dX2_perform_121 rfl (lv_at hl 3 rfl) ?_
        obtain ⟨hi, h⟩ := ck_in h
        refine va_iald hx hb hK hP 1 0 rfl rfl hi dX2_perform_122 ?_
        refine lv_aload_n hx hb dX2_perform_123 rfl (lv_at hl 4 rfl) ?_
        refine va_get (D := (dC, dI)) (ci := 2) (v := .ref apr) (C := RX2) (T := TX2) (N := 8) hx hb hts hinX2 hown hK hP 0 rfl rfl 0 (by decide) hf11 (fun _ h9 => h9) rfl dX2_perform_124 ?_
        refine lv_iload_n hx hb dX2_perform_127 rfl (lv_at hl 2 rfl) ?_
        obtain ⟨hi, h⟩ := ck_in h
        refine va_iald hx hb hK hP 1 0 rfl rfl hi dX2_perform_128 ?_
        refine lv_isub hx hb dX2_perform_129 ?_
        refine lv_ldc hx hb hown hc55 dX2_perform_130 ?_
        refine lv_iand hx hb dX2_perform_132 ?_
        obtain ⟨hi, h⟩ := ck_in h
        refine va_iast hx hb hK hP hD hS 1 0 rfl rfl hi dX2_perform_133 (fun H locs hP hD hS => ?_)
        have hP : va_P (dC, dI) vwCl [(aP, .inr (2, [.ref apr, .ref apw, .ref apt, .int xpc, .int xrn, .int xca, .int xst, .int xps])), (apr, .inl (kpr, 8, .inl (upd xpr (Int32.toNatClampNeg ((j1 >>> ((9 : Int32) &&& (31 : Int32))) &&& (7 : Int32))) (((xpr (Int32.toNatClampNeg ((j1 >>> ((9 : Int32) &&& (31 : Int32))) &&& (7 : Int32)))) - (xpr (Int32.toNatClampNeg ((j1 >>> ((6 : Int32) &&& (31 : Int32))) &&& (7 : Int32))))) &&& (65535 : Int32))))), (apw, .inl (kpw, 64, .inl xpw)), (apt, .inl (kpt, 2, .inl xpt))] H := hP
        have hD : va_D A [(aP, .inr (2, [.ref apr, .ref apw, .ref apt, .int xpc, .int xrn, .int xca, .int xst, .int xps])), (apr, .inl (kpr, 8, .inl (upd xpr (Int32.toNatClampNeg ((j1 >>> ((9 : Int32) &&& (31 : Int32))) &&& (7 : Int32))) (((xpr (Int32.toNatClampNeg ((j1 >>> ((9 : Int32) &&& (31 : Int32))) &&& (7 : Int32)))) - (xpr (Int32.toNatClampNeg ((j1 >>> ((6 : Int32) &&& (31 : Int32))) &&& (7 : Int32))))) &&& (65535 : Int32))))), (apw, .inl (kpw, 64, .inl xpw)), (apt, .inl (kpt, 2, .inl xpt))] := hD
        refine lv_goto (tgt := 169) hx hb dX2_perform_134 (by decide) ?_
        exact W.vret hx hb hr (fun t ht hW => ⟨⟨((upd xpr (Int32.toNatClampNeg ((j1 >>> ((9 : Int32) &&& (31 : Int32))) &&& (7 : Int32))) (((xpr (Int32.toNatClampNeg ((j1 >>> ((9 : Int32) &&& (31 : Int32))) &&& (7 : Int32)))) - (xpr (Int32.toNatClampNeg ((j1 >>> ((6 : Int32) &&& (31 : Int32))) &&& (7 : Int32))))) &&& (65535 : Int32))), xpw), rfl, h, by rw [ht]; exact hP, hD⟩, hS.F ht⟩) hS.2.2 dX2_perform_169
      · have h := if_n h hc3
        by_cases hc4 : (j1 >>> ((12 : Int32) &&& (31 : Int32))) = (4 : Int32)
        · have h := if_y h hc4
          refine lv_tableIn (tgt := 137) (off := 97) hx hb dX2_perform_40 (by rw [hc4]; decide) (by rw [hc4]; decide) (by rw [hc4]; rfl) (by decide) ?_
          refine lv_aload_n hx hb dX2_perform_137 rfl (lv_at hl 4 rfl) ?_
          refine va_get (D := (dC, dI)) (ci := 2) (v := .ref apr) (C := RX2) (T := TX2) (N := 8) hx hb hts hinX2 hown hK hP 0 rfl rfl 0 (by decide) hf11 (fun _ h9 => h9) rfl dX2_perform_138 ?_
          refine lv_iload_n hx hb dX2_perform_141 rfl (lv_at hl 3 rfl) ?_
          refine lv_aload_n hx hb dX2_perform_142 rfl (lv_at hl 4 rfl) ?_
          refine va_get (D := (dC, dI)) (ci := 2) (v := .ref apw) (C := RX2) (T := TX2) (N := 8) hx hb hts hinX2 hown hK hP 0 rfl rfl 1 (by decide) hf15 (fun _ h9 => h9) rfl dX2_perform_143 ?_
          refine lv_iload hx hb dX2_perform_146 (lv_at hl 0 rfl) ?_
          obtain ⟨hi, h⟩ := ck_in h
          refine va_iald hx hb hK hP 2 1 rfl rfl hi dX2_perform_148 ?_
          obtain ⟨hi, h⟩ := ck_in h
          refine va_iast hx hb hK hP hD hS 1 0 rfl rfl hi dX2_perform_149 (fun H locs hP hD hS => ?_)
          have hP : va_P (dC, dI) vwCl [(aP, .inr (2, [.ref apr, .ref apw, .ref apt, .int xpc, .int xrn, .int xca, .int xst, .int xps])), (apr, .inl (kpr, 8, .inl (upd xpr (Int32.toNatClampNeg ((j1 >>> ((9 : Int32) &&& (31 : Int32))) &&& (7 : Int32))) (xpw (Int32.toNatClampNeg (((xpr (Int32.toNatClampNeg ((j1 >>> ((6 : Int32) &&& (31 : Int32))) &&& (7 : Int32)))) + (j1 &&& (63 : Int32))) &&& (63 : Int32))))))), (apw, .inl (kpw, 64, .inl xpw)), (apt, .inl (kpt, 2, .inl xpt))] H := hP
          have hD : va_D A [(aP, .inr (2, [.ref apr, .ref apw, .ref apt, .int xpc, .int xrn, .int xca, .int xst, .int xps])), (apr, .inl (kpr, 8, .inl (upd xpr (Int32.toNatClampNeg ((j1 >>> ((9 : Int32) &&& (31 : Int32))) &&& (7 : Int32))) (xpw (Int32.toNatClampNeg (((xpr (Int32.toNatClampNeg ((j1 >>> ((6 : Int32) &&& (31 : Int32))) &&& (7 : Int32)))) + (j1 &&& (63 : Int32))) &&& (63 : Int32))))))), (apw, .inl (kpw, 64, .inl xpw)), (apt, .inl (kpt, 2, .inl xpt))] := hD
          refine lv_goto (tgt := 169) hx hb dX2_perform_150 (by decide) ?_
          exact W.vret hx hb hr (fun t ht hW => ⟨⟨((upd xpr (Int32.toNatClampNeg ((j1 >>> ((9 : Int32) &&& (31 : Int32))) &&& (7 : Int32))) (xpw (Int32.toNatClampNeg (((xpr (Int32.toNatClampNeg ((j1 >>> ((6 : Int32) &&& (31 : Int32))) &&& (7 : Int32)))) + (j1 &&& (63 : Int32))) &&& (63 : Int32))))), xpw), rfl, h, by rw [ht]; exact hP, hD⟩, hS.F ht⟩) hS.2.2 dX2_perform_169
        · have h := if_n h hc4
          by_cases hc5 : (j1 >>> ((12 : Int32) &&& (31 : Int32))) = (5 : Int32)
          · have h := if_y h hc5
            refine lv_tableIn (tgt := 153) (off := 113) hx hb dX2_perform_40 (by rw [hc5]; decide) (by rw [hc5]; decide) (by rw [hc5]; rfl) (by decide) ?_
            refine lv_aload_n hx hb dX2_perform_153 rfl (lv_at hl 4 rfl) ?_
            refine va_get (D := (dC, dI)) (ci := 2) (v := .ref apw) (C := RX2) (T := TX2) (N := 8) hx hb hts hinX2 hown hK hP 0 rfl rfl 1 (by decide) hf15 (fun _ h9 => h9) rfl dX2_perform_154 ?_
            refine lv_iload hx hb dX2_perform_157 (lv_at hl 0 rfl) ?_
            refine lv_aload_n hx hb dX2_perform_159 rfl (lv_at hl 4 rfl) ?_
            refine va_get (D := (dC, dI)) (ci := 2) (v := .ref apr) (C := RX2) (T := TX2) (N := 8) hx hb hts hinX2 hown hK hP 0 rfl rfl 0 (by decide) hf11 (fun _ h9 => h9) rfl dX2_perform_160 ?_
            refine lv_iload_n hx hb dX2_perform_163 rfl (lv_at hl 3 rfl) ?_
            obtain ⟨hi, h⟩ := ck_in h
            refine va_iald hx hb hK hP 1 0 rfl rfl hi dX2_perform_164 ?_
            obtain ⟨hi, h⟩ := ck_in h
            refine va_iast hx hb hK hP hD hS 2 1 rfl rfl hi dX2_perform_165 (fun H locs hP hD hS => ?_)
            have hP : va_P (dC, dI) vwCl [(aP, .inr (2, [.ref apr, .ref apw, .ref apt, .int xpc, .int xrn, .int xca, .int xst, .int xps])), (apr, .inl (kpr, 8, .inl xpr)), (apw, .inl (kpw, 64, .inl (upd xpw (Int32.toNatClampNeg (((xpr (Int32.toNatClampNeg ((j1 >>> ((6 : Int32) &&& (31 : Int32))) &&& (7 : Int32)))) + (j1 &&& (63 : Int32))) &&& (63 : Int32))) (xpr (Int32.toNatClampNeg ((j1 >>> ((9 : Int32) &&& (31 : Int32))) &&& (7 : Int32))))))), (apt, .inl (kpt, 2, .inl xpt))] H := hP
            have hD : va_D A [(aP, .inr (2, [.ref apr, .ref apw, .ref apt, .int xpc, .int xrn, .int xca, .int xst, .int xps])), (apr, .inl (kpr, 8, .inl xpr)), (apw, .inl (kpw, 64, .inl (upd xpw (Int32.toNatClampNeg (((xpr (Int32.toNatClampNeg ((j1 >>> ((6 : Int32) &&& (31 : Int32))) &&& (7 : Int32)))) + (j1 &&& (63 : Int32))) &&& (63 : Int32))) (xpr (Int32.toNatClampNeg ((j1 >>> ((9 : Int32) &&& (31 : Int32))) &&& (7 : Int32))))))), (apt, .inl (kpt, 2, .inl xpt))] := hD
            refine lv_goto (tgt := 169) hx hb dX2_perform_166 (by decide) ?_
            exact W.vret hx hb hr (fun t ht hW => ⟨⟨(xpr, (upd xpw (Int32.toNatClampNeg (((xpr (Int32.toNatClampNeg ((j1 >>> ((6 : Int32) &&& (31 : Int32))) &&& (7 : Int32)))) + (j1 &&& (63 : Int32))) &&& (63 : Int32))) (xpr (Int32.toNatClampNeg ((j1 >>> ((9 : Int32) &&& (31 : Int32))) &&& (7 : Int32)))))), rfl, h, by rw [ht]; exact hP, hD⟩, hS.F ht⟩) hS.2.2 dX2_perform_169
          · have h := if_n h hc5
            have e1 := lv_neT (a := 1) hc1 (by decide)
            have e2 := lv_neT (a := 2) hc2 (by decide)
            have e3 := lv_neT (a := 3) hc3 (by decide)
            have e4 := lv_neT (a := 4) hc4 (by decide)
            have e5 := lv_neT (a := 5) hc5 (by decide)
            refine lv_tableOut (tgt := 169) hx hb dX2_perform_40 (by omega) (by decide) ?_
            exact W.vret hx hb hr (fun t ht hW => ⟨⟨(xpr, xpw), rfl, h, by rw [ht]; exact hP, hD⟩, hS.F ht⟩) hS.2.2 dX2_perform_169
set_option maxHeartbeats 4000000 in
set_option maxRecDepth 100000 in
theorem ct_P_jump (l : Launch) (dC : Nat → ClassId) (dI : Nat → Nat → Nat) (aP apr apw apt : Nat) (kpr kpw kpt : ClassId) (sz : Nat) (xpr : (Nat → Int32)) (xpw : (Nat → Int32)) (xpt : (Nat → Int32)) (xpc : Int32) (xrn : Int32) (xca : Int32) (xst : Int32) (xps : Int32) (j1 : Int32) (o : (Nat → Int32) × Int32) (h : fn_P_jump xpr xpc j1 = some o) : Met l yX2_jump wsX2_jump ({ frames := 0, cells := 0, slots := 0, locals := 0 }) (va_Pc [.ref aP, .int j1] (fun U => U.heap.size = sz ∧ va_P (dC, dI) vwCl [(aP, .inr (2, [.ref apr, .ref apw, .ref apt, .int xpc, .int xrn, .int xca, .int xst, .int xps])), (apr, .inl (kpr, 8, .inl xpr)), (apw, .inl (kpw, 64, .inl xpw)), (apt, .inl (kpt, 2, .inl xpt))] U.heap ∧ va_K (dC, dI) vwCl [(kpr, .int), (kpw, .int), (kpt, .int)] U ∧ va_D (fun _ => True) [(aP, .inr (2, [.ref apr, .ref apw, .ref apt, .int xpc, .int xrn, .int xca, .int xst, .int xps])), (apr, .inl (kpr, 8, .inl xpr)), (apw, .inl (kpw, 64, .inl xpw)), (apt, .inl (kpt, 2, .inl xpt))])) (va_Qv (fun (u : (Nat → Int32) × Int32) => some u = some o) (fun (u : (Nat → Int32) × Int32) (t : State) => va_P (dC, dI) vwCl [(aP, .inr (2, [.ref apr, .ref apw, .ref apt, .int u.2, .int xrn, .int xca, .int xst, .int xps])), (apr, .inl (kpr, 8, .inl u.1)), (apw, .inl (kpw, 64, .inl xpw)), (apt, .inl (kpt, 2, .inl xpt))] t.heap ∧ va_D (va_A [(aP, .inr (2, [.ref apr, .ref apw, .ref apt, .int xpc, .int xrn, .int xca, .int xst, .int xps])), (apr, .inl (kpr, 8, .inl xpr)), (apw, .inl (kpw, 64, .inl xpw)), (apt, .inl (kpt, 2, .inl xpt))] sz) [(aP, .inr (2, [.ref apr, .ref apw, .ref apt, .int u.2, .int xrn, .int xca, .int xst, .int xps])), (apr, .inl (kpr, 8, .inl u.1)), (apw, .inl (kpw, 64, .inl xpw)), (apt, .inl (kpt, 2, .inl xpt))]) (va_A [(aP, .inr (2, [.ref apr, .ref apw, .ref apt, .int xpc, .int xrn, .int xca, .int xst, .int xps])), (apr, .inl (kpr, 8, .inl xpr)), (apw, .inl (kpw, 64, .inl xpw)), (apt, .inl (kpt, 2, .inl xpt))] sz)) 0 0 (va_A [(aP, .inr (2, [.ref apr, .ref apw, .ref apt, .int xpc, .int xrn, .int xca, .int xst, .int xps])), (apr, .inl (kpr, 8, .inl xpr)), (apw, .inl (kpw, 64, .inl xpw)), (apt, .inl (kpt, 2, .inl xpt))] sz) := by
  refine Met.ofW (cc := cX2_jump) (maxL := 6) (ret := none) (by decide) rfl ?_
  intro p e s m args below meth c s₁ B hml hv
  obtain ⟨rfl, hsz, hP, hK, hD0⟩ := hv
  have hx := B.exec
  have hb := B.bytes
  have hr := B.returns
  have hts := atoms_spec (ws := wsX2_jump) B.pre
  have hown : s.vm.findClass RX2 = some m.cls := findClass_of_methodNamed B.named
  have hlocks := B.notSynchronized
  subst hsz
  have hD := hD0.self (sz := s.heap.size)
  generalize hAe : va_A [(aP, .inr (2, [.ref apr, .ref apw, .ref apt, .int xpc, .int xrn, .int xca, .int xst, .int xps])), (apr, .inl (kpr, 8, .inl xpr)), (apw, .inl (kpw, 64, .inl xpw)), (apt, .inl (kpt, 2, .inl xpt))] s.heap.size = A at hD ⊢
  have hA : ∀ q : Nat, s.heap.size ≤ q → A q := fun q h => by rw [← hAe]; exact Or.inr h
  have hS : va_S A s.heap s.heap [] := va_S.rf
  have hP : va_P (dC, dI) vwCl [(aP, .inr (2, [.ref apr, .ref apw, .ref apt, .int xpc, .int xrn, .int xca, .int xst, .int xps])), (apr, .inl (kpr, 8, .inl xpr)), (apw, .inl (kpw, 64, .inl xpw)), (apt, .inl (kpt, 2, .inl xpt))] s.heap := hP
  have hf11 := hts (.fieldLink RX2 11 "ProbeBench$Processor" "registers" "[I") (by decide +kernel)
  have hf21 := hts (.fieldLink RX2 21 "ProbeBench$Processor" "counter" "I") (by decide +kernel)
  have hinX2 : ∀ w ∈ u_ws RX2 TX2 8, w ∈ wsX2_jump := by decide +kernel
  have hl := lv_entry ([.ref aP, .int j1]) (n := 6) (Nat.le_of_ble_eq_true rfl)
  rw [lg_entry_eq]
  generalize (lg_sl ([.ref aP, .int j1]) ++ List.replicate (6 - (lg_sl ([.ref aP, .int j1])).length) Slot.unset).toArray = ls at hl ⊢
  have hl : lv_has ls 6 [(0, .ref aP), (1, .int j1)] := hl
  unfold fn_P_jump at h
  refine lv_iload_n hx hb dX2_jump_0 rfl (lv_at hl 1 rfl) ?_
  refine lv_bipush (v := (9 : Int32)) hx hb dX2_jump_1 (by decide) ?_
  refine lv_ishr hx hb dX2_jump_3 ?_
  refine lv_bipush (v := (7 : Int32)) hx hb dX2_jump_4 (by decide) ?_
  refine lv_iand hx hb dX2_jump_6 ?_
  refine lv_istore_n hx hb dX2_jump_7 rfl hl (by decide) rfl (fun ls hl => ?_)
  have hl : lv_has ls 6 [(2, .int ((j1 >>> ((9 : Int32) &&& (31 : Int32))) &&& (7 : Int32))), (0, .ref aP), (1, .int j1)] := hl
  refine lv_iload_n hx hb dX2_jump_8 rfl (lv_at hl 2 rfl) ?_
  refine lv_bipush (v := (6 : Int32)) hx hb dX2_jump_9 (by decide) ?_
  refine lv_ishr hx hb dX2_jump_11 ?_
  refine lv_bipush (v := (7 : Int32)) hx hb dX2_jump_12 (by decide) ?_
  refine lv_iand hx hb dX2_jump_14 ?_
  refine lv_istore_n hx hb dX2_jump_15 rfl hl (by decide) rfl (fun ls hl => ?_)
  have hl : lv_has ls 6 [(3, .int ((j1 >>> ((6 : Int32) &&& (31 : Int32))) &&& (7 : Int32))), (2, .int ((j1 >>> ((9 : Int32) &&& (31 : Int32))) &&& (7 : Int32))), (0, .ref aP), (1, .int j1)] := hl
  refine lv_iload_n hx hb dX2_jump_16 rfl (lv_at hl 3 rfl) ?_
  refine lv_bipush (v := (63 : Int32)) hx hb dX2_jump_17 (by decide) ?_
  refine lv_iand hx hb dX2_jump_19 ?_
  refine lv_istore hx hb dX2_jump_20 hl (by decide) rfl (fun ls hl => ?_)
  have hl : lv_has ls 6 [(4, .int (j1 &&& (63 : Int32))), (3, .int ((j1 >>> ((6 : Int32) &&& (31 : Int32))) &&& (7 : Int32))), (2, .int ((j1 >>> ((9 : Int32) &&& (31 : Int32))) &&& (7 : Int32))), (0, .ref aP), (1, .int j1)] := hl
  refine lv_aload_n hx hb dX2_jump_22 rfl (lv_at hl 3 rfl) ?_
  refine va_get (D := (dC, dI)) (ci := 2) (v := .int xpc) (C := RX2) (T := TX2) (N := 8) hx hb hts hinX2 hown hK hP 0 rfl rfl 3 (by decide) hf21 (fun _ h9 => h9) rfl dX2_jump_23 ?_
  refine lv_istore hx hb dX2_jump_26 hl (by decide) rfl (fun ls hl => ?_)
  have hl : lv_has ls 6 [(5, .int xpc), (4, .int (j1 &&& (63 : Int32))), (3, .int ((j1 >>> ((6 : Int32) &&& (31 : Int32))) &&& (7 : Int32))), (2, .int ((j1 >>> ((9 : Int32) &&& (31 : Int32))) &&& (7 : Int32))), (0, .ref aP), (1, .int j1)] := hl
  refine lv_iload_n hx hb dX2_jump_28 rfl (lv_at hl 5 rfl) ?_
  refine lv_bipush (v := (12 : Int32)) hx hb dX2_jump_29 (by decide) ?_
  refine lv_ishr hx hb dX2_jump_31 ?_
  by_cases hc6 : (j1 >>> ((12 : Int32) &&& (31 : Int32))) = (6 : Int32)
  · have h := if_y h hc6
    refine lv_tableIn (tgt := 64) (off := 32) hx hb dX2_jump_32 (by rw [hc6]; decide) (by rw [hc6]; decide) (by rw [hc6]; rfl) (by decide) ?_
    refine lv_aload_n hx hb dX2_jump_64 rfl (lv_at hl 4 rfl) ?_
    refine lv_iload hx hb dX2_jump_65 (lv_at hl 1 rfl) ?_
    refine va_put (D := (dC, dI)) (ci := 2) (v := .int (j1 &&& (63 : Int32))) (ty := .int) (C := RX2) (T := TX2) (N := 8) hx hb hts hinX2 tyX2 tyX2_ok nmX2 hown hK hP hD hS 0 rfl rfl 3 (by decide) hf21 (fun _ h9 => h9) rfl (by decide +kernel) rfl rfl (Nat.le_of_ble_eq_true rfl) dX2_jump_67 (fun H locs hP hD hS => ?_)
    have hP : va_P (dC, dI) vwCl [(aP, .inr (2, [.ref apr, .ref apw, .ref apt, .int (j1 &&& (63 : Int32)), .int xrn, .int xca, .int xst, .int xps])), (apr, .inl (kpr, 8, .inl xpr)), (apw, .inl (kpw, 64, .inl xpw)), (apt, .inl (kpt, 2, .inl xpt))] H := hP
    have hD : va_D A [(aP, .inr (2, [.ref apr, .ref apw, .ref apt, .int (j1 &&& (63 : Int32)), .int xrn, .int xca, .int xst, .int xps])), (apr, .inl (kpr, 8, .inl xpr)), (apw, .inl (kpw, 64, .inl xpw)), (apt, .inl (kpt, 2, .inl xpt))] := hD
    refine lv_goto (tgt := 149) hx hb dX2_jump_70 (by decide) ?_
    exact W.vret hx hb hr (fun t ht hW => ⟨⟨(xpr, (j1 &&& (63 : Int32))), rfl, h, by rw [ht]; exact hP, hD⟩, hS.F ht⟩) hS.2.2 dX2_jump_149
  · have h := if_n h hc6
    by_cases hc7 : (j1 >>> ((12 : Int32) &&& (31 : Int32))) = (7 : Int32)
    · have h := if_y h hc7
      refine lv_tableIn (tgt := 73) (off := 41) hx hb dX2_jump_32 (by rw [hc7]; decide) (by rw [hc7]; decide) (by rw [hc7]; rfl) (by decide) ?_
      refine lv_aload_n hx hb dX2_jump_73 rfl (lv_at hl 4 rfl) ?_
      refine lv_aload_n hx hb dX2_jump_74 rfl (lv_at hl 4 rfl) ?_
      refine va_get (D := (dC, dI)) (ci := 2) (v := .ref apr) (C := RX2) (T := TX2) (N := 8) hx hb hts hinX2 hown hK hP 0 rfl rfl 0 (by decide) hf11 (fun _ h9 => h9) rfl dX2_jump_75 ?_
      refine lv_iload_n hx hb dX2_jump_78 rfl (lv_at hl 3 rfl) ?_
      obtain ⟨hi, h⟩ := ck_in h
      refine va_iald hx hb hK hP 1 0 rfl rfl hi dX2_jump_79 ?_
      refine lv_if_ne (tgt := 88) hx hb dX2_jump_80 (by decide) (fun hc => ?_) (fun hc => ?_)
      · have h := if_n h hc
        refine lv_iload hx hb dX2_jump_88 (lv_at hl 0 rfl) ?_
        refine va_put (D := (dC, dI)) (ci := 2) (v := .int xpc) (ty := .int) (C := RX2) (T := TX2) (N := 8) hx hb hts hinX2 tyX2 tyX2_ok nmX2 hown hK hP hD hS 0 rfl rfl 3 (by decide) hf21 (fun _ h9 => h9) rfl (by decide +kernel) rfl rfl (Nat.le_of_ble_eq_true rfl) dX2_jump_90 (fun H locs hP hD hS => ?_)
        have hP : va_P (dC, dI) vwCl [(aP, .inr (2, [.ref apr, .ref apw, .ref apt, .int xpc, .int xrn, .int xca, .int xst, .int xps])), (apr, .inl (kpr, 8, .inl xpr)), (apw, .inl (kpw, 64, .inl xpw)), (apt, .inl (kpt, 2, .inl xpt))] H := hP
        have hD : va_D A [(aP, .inr (2, [.ref apr, .ref apw, .ref apt, .int xpc, .int xrn, .int xca, .int xst, .int xps])), (apr, .inl (kpr, 8, .inl xpr)), (apw, .inl (kpw, 64, .inl xpw)), (apt, .inl (kpt, 2, .inl xpt))] := hD
        refine lv_goto (tgt := 149) hx hb dX2_jump_93 (by decide) ?_
        exact W.vret hx hb hr (fun t ht hW => ⟨⟨(xpr, xpc), rfl, h, by rw [ht]; exact hP, hD⟩, hS.F ht⟩) hS.2.2 dX2_jump_149
      · have h := if_y h hc
        refine lv_iload hx hb dX2_jump_83 (lv_at hl 1 rfl) ?_
        refine lv_goto (tgt := 90) hx hb dX2_jump_85 (by decide) ?_
        refine va_put (D := (dC, dI)) (ci := 2) (v := .int (j1 &&& (63 : Int32))) (ty := .int) (C := RX2) (T := TX2) (N := 8) hx hb hts hinX2 tyX2 tyX2_ok nmX2 hown hK hP hD hS 0 rfl rfl 3 (by decide) hf21 (fun _ h9 => h9) rfl (by decide +kernel) rfl rfl (Nat.le_of_ble_eq_true rfl) dX2_jump_90 (fun H locs hP hD hS => ?_)
        have hP : va_P (dC, dI) vwCl [(aP, .inr (2, [.ref apr, .ref apw, .ref apt, .int (j1 &&& (63 : Int32)), .int xrn, .int xca, .int xst, .int xps])), (apr, .inl (kpr, 8, .inl xpr)), (apw, .inl (kpw, 64, .inl xpw)), (apt, .inl (kpt, 2, .inl xpt))] H := hP
        have hD : va_D A [(aP, .inr (2, [.ref apr, .ref apw, .ref apt, .int (j1 &&& (63 : Int32)), .int xrn, .int xca, .int xst, .int xps])), (apr, .inl (kpr, 8, .inl xpr)), (apw, .inl (kpw, 64, .inl xpw)), (apt, .inl (kpt, 2, .inl xpt))] := hD
        refine lv_goto (tgt := 149) hx hb dX2_jump_93 (by decide) ?_
        exact W.vret hx hb hr (fun t ht hW => ⟨⟨(xpr, (j1 &&& (63 : Int32))), rfl, h, by rw [ht]; exact hP, hD⟩, hS.F ht⟩) hS.2.2 dX2_jump_149
    · have h := if_n h hc7
      by_cases hc8 : (j1 >>> ((12 : Int32) &&& (31 : Int32))) = (8 : Int32)
      · have h := if_y h hc8
        refine lv_tableIn (tgt := 96) (off := 64) hx hb dX2_jump_32 (by rw [hc8]; decide) (by rw [hc8]; decide) (by rw [hc8]; rfl) (by decide) ?_
        refine lv_aload_n hx hb dX2_jump_96 rfl (lv_at hl 4 rfl) ?_
        refine lv_aload_n hx hb dX2_jump_97 rfl (lv_at hl 4 rfl) ?_
        refine va_get (D := (dC, dI)) (ci := 2) (v := .ref apr) (C := RX2) (T := TX2) (N := 8) hx hb hts hinX2 hown hK hP 0 rfl rfl 0 (by decide) hf11 (fun _ h9 => h9) rfl dX2_jump_98 ?_
        refine lv_iload_n hx hb dX2_jump_101 rfl (lv_at hl 3 rfl) ?_
        obtain ⟨hi, h⟩ := ck_in h
        refine va_iald hx hb hK hP 1 0 rfl rfl hi dX2_jump_102 ?_
        refine lv_aload_n hx hb dX2_jump_103 rfl (lv_at hl 4 rfl) ?_
        refine va_get (D := (dC, dI)) (ci := 2) (v := .ref apr) (C := RX2) (T := TX2) (N := 8) hx hb hts hinX2 hown hK hP 0 rfl rfl 0 (by decide) hf11 (fun _ h9 => h9) rfl dX2_jump_104 ?_
        refine lv_iload_n hx hb dX2_jump_107 rfl (lv_at hl 2 rfl) ?_
        obtain ⟨hi, h⟩ := ck_in h
        refine va_iald hx hb hK hP 1 0 rfl rfl hi dX2_jump_108 ?_
        refine lv_icmp_ge (tgt := 117) hx hb dX2_jump_109 (by decide) (fun hc => ?_) (fun hc => ?_)
        · have h := if_y h hc
          refine lv_iload hx hb dX2_jump_117 (lv_at hl 0 rfl) ?_
          refine va_put (D := (dC, dI)) (ci := 2) (v := .int xpc) (ty := .int) (C := RX2) (T := TX2) (N := 8) hx hb hts hinX2 tyX2 tyX2_ok nmX2 hown hK hP hD hS 0 rfl rfl 3 (by decide) hf21 (fun _ h9 => h9) rfl (by decide +kernel) rfl rfl (Nat.le_of_ble_eq_true rfl) dX2_jump_119 (fun H locs hP hD hS => ?_)
          have hP : va_P (dC, dI) vwCl [(aP, .inr (2, [.ref apr, .ref apw, .ref apt, .int xpc, .int xrn, .int xca, .int xst, .int xps])), (apr, .inl (kpr, 8, .inl xpr)), (apw, .inl (kpw, 64, .inl xpw)), (apt, .inl (kpt, 2, .inl xpt))] H := hP
          have hD : va_D A [(aP, .inr (2, [.ref apr, .ref apw, .ref apt, .int xpc, .int xrn, .int xca, .int xst, .int xps])), (apr, .inl (kpr, 8, .inl xpr)), (apw, .inl (kpw, 64, .inl xpw)), (apt, .inl (kpt, 2, .inl xpt))] := hD
          refine lv_goto (tgt := 149) hx hb dX2_jump_122 (by decide) ?_
          exact W.vret hx hb hr (fun t ht hW => ⟨⟨(xpr, xpc), rfl, h, by rw [ht]; exact hP, hD⟩, hS.F ht⟩) hS.2.2 dX2_jump_149
        · have h := if_n h hc
          refine lv_iload hx hb dX2_jump_112 (lv_at hl 1 rfl) ?_
          refine lv_goto (tgt := 119) hx hb dX2_jump_114 (by decide) ?_
          refine va_put (D := (dC, dI)) (ci := 2) (v := .int (j1 &&& (63 : Int32))) (ty := .int) (C := RX2) (T := TX2) (N := 8) hx hb hts hinX2 tyX2 tyX2_ok nmX2 hown hK hP hD hS 0 rfl rfl 3 (by decide) hf21 (fun _ h9 => h9) rfl (by decide +kernel) rfl rfl (Nat.le_of_ble_eq_true rfl) dX2_jump_119 (fun H locs hP hD hS => ?_)
          have hP : va_P (dC, dI) vwCl [(aP, .inr (2, [.ref apr, .ref apw, .ref apt, .int (j1 &&& (63 : Int32)), .int xrn, .int xca, .int xst, .int xps])), (apr, .inl (kpr, 8, .inl xpr)), (apw, .inl (kpw, 64, .inl xpw)), (apt, .inl (kpt, 2, .inl xpt))] H := hP
          have hD : va_D A [(aP, .inr (2, [.ref apr, .ref apw, .ref apt, .int (j1 &&& (63 : Int32)), .int xrn, .int xca, .int xst, .int xps])), (apr, .inl (kpr, 8, .inl xpr)), (apw, .inl (kpw, 64, .inl xpw)), (apt, .inl (kpt, 2, .inl xpt))] := hD
          refine lv_goto (tgt := 149) hx hb dX2_jump_122 (by decide) ?_
          exact W.vret hx hb hr (fun t ht hW => ⟨⟨(xpr, (j1 &&& (63 : Int32))), rfl, h, by rw [ht]; exact hP, hD⟩, hS.F ht⟩) hS.2.2 dX2_jump_149
      · have h := if_n h hc8
        by_cases hc9 : (j1 >>> ((12 : Int32) &&& (31 : Int32))) = (9 : Int32)
        · have h := if_y h hc9
          refine lv_tableIn (tgt := 125) (off := 93) hx hb dX2_jump_32 (by rw [hc9]; decide) (by rw [hc9]; decide) (by rw [hc9]; rfl) (by decide) ?_
          refine lv_aload_n hx hb dX2_jump_125 rfl (lv_at hl 4 rfl) ?_
          refine lv_aload_n hx hb dX2_jump_126 rfl (lv_at hl 4 rfl) ?_
          refine va_get (D := (dC, dI)) (ci := 2) (v := .ref apr) (C := RX2) (T := TX2) (N := 8) hx hb hts hinX2 hown hK hP 0 rfl rfl 0 (by decide) hf11 (fun _ h9 => h9) rfl dX2_jump_127 ?_
          refine lv_iload_n hx hb dX2_jump_130 rfl (lv_at hl 2 rfl) ?_
          obtain ⟨hi, h⟩ := ck_in h
          refine va_iald hx hb hK hP 1 0 rfl rfl hi dX2_jump_131 ?_
          refine lv_bipush (v := (63 : Int32)) hx hb dX2_jump_132 (by decide) ?_
          refine lv_iand hx hb dX2_jump_134 ?_
          refine va_put (D := (dC, dI)) (ci := 2) (v := .int ((xpr (Int32.toNatClampNeg ((j1 >>> ((6 : Int32) &&& (31 : Int32))) &&& (7 : Int32)))) &&& (63 : Int32))) (ty := .int) (C := RX2) (T := TX2) (N := 8) hx hb hts hinX2 tyX2 tyX2_ok nmX2 hown hK hP hD hS 0 rfl rfl 3 (by decide) hf21 (fun _ h9 => h9) rfl (by decide +kernel) rfl rfl (Nat.le_of_ble_eq_true rfl) dX2_jump_135 (fun H locs hP hD hS => ?_)
          have hP : va_P (dC, dI) vwCl [(aP, .inr (2, [.ref apr, .ref apw, .ref apt, .int ((xpr (Int32.toNatClampNeg ((j1 >>> ((6 : Int32) &&& (31 : Int32))) &&& (7 : Int32)))) &&& (63 : Int32)), .int xrn, .int xca, .int xst, .int xps])), (apr, .inl (kpr, 8, .inl xpr)), (apw, .inl (kpw, 64, .inl xpw)), (apt, .inl (kpt, 2, .inl xpt))] H := hP
          have hD : va_D A [(aP, .inr (2, [.ref apr, .ref apw, .ref apt, .int ((xpr (Int32.toNatClampNeg ((j1 >>> ((6 : Int32) &&& (31 : Int32))) &&& (7 : Int32)))) &&& (63 : Int32)), .int xrn, .int xca, .int xst, .int xps])), (apr, .inl (kpr, 8, .inl xpr)), (apw, .inl (kpw, 64, .inl xpw)), (apt, .inl (kpt, 2, .inl xpt))] := hD
          refine lv_aload_n hx hb dX2_jump_138 rfl (lv_at hl 4 rfl) ?_
          refine va_get (D := (dC, dI)) (ci := 2) (v := .ref apr) (C := RX2) (T := TX2) (N := 8) hx hb hts hinX2 hown hK hP 0 rfl rfl 0 (by decide) hf11 (fun _ h9 => h9) rfl dX2_jump_139 ?_
          refine lv_iload_n hx hb dX2_jump_142 rfl (lv_at hl 3 rfl) ?_
          refine lv_iload hx hb dX2_jump_143 (lv_at hl 0 rfl) ?_
          obtain ⟨hi, h⟩ := ck_in h
          refine va_iast hx hb hK hP hD hS 1 0 rfl rfl hi dX2_jump_145 (fun H locs hP hD hS => ?_)
          have hP : va_P (dC, dI) vwCl [(aP, .inr (2, [.ref apr, .ref apw, .ref apt, .int ((xpr (Int32.toNatClampNeg ((j1 >>> ((6 : Int32) &&& (31 : Int32))) &&& (7 : Int32)))) &&& (63 : Int32)), .int xrn, .int xca, .int xst, .int xps])), (apr, .inl (kpr, 8, .inl (upd xpr (Int32.toNatClampNeg ((j1 >>> ((9 : Int32) &&& (31 : Int32))) &&& (7 : Int32))) xpc))), (apw, .inl (kpw, 64, .inl xpw)), (apt, .inl (kpt, 2, .inl xpt))] H := hP
          have hD : va_D A [(aP, .inr (2, [.ref apr, .ref apw, .ref apt, .int ((xpr (Int32.toNatClampNeg ((j1 >>> ((6 : Int32) &&& (31 : Int32))) &&& (7 : Int32)))) &&& (63 : Int32)), .int xrn, .int xca, .int xst, .int xps])), (apr, .inl (kpr, 8, .inl (upd xpr (Int32.toNatClampNeg ((j1 >>> ((9 : Int32) &&& (31 : Int32))) &&& (7 : Int32))) xpc))), (apw, .inl (kpw, 64, .inl xpw)), (apt, .inl (kpt, 2, .inl xpt))] := hD
          refine lv_goto (tgt := 149) hx hb dX2_jump_146 (by decide) ?_
          exact W.vret hx hb hr (fun t ht hW => ⟨⟨((upd xpr (Int32.toNatClampNeg ((j1 >>> ((9 : Int32) &&& (31 : Int32))) &&& (7 : Int32))) xpc), ((xpr (Int32.toNatClampNeg ((j1 >>> ((6 : Int32) &&& (31 : Int32))) &&& (7 : Int32)))) &&& (63 : Int32))), rfl, h, by rw [ht]; exact hP, hD⟩, hS.F ht⟩) hS.2.2 dX2_jump_149
        · have h := if_n h hc9
          have e6 := lv_neT (a := 6) hc6 (by decide)
          have e7 := lv_neT (a := 7) hc7 (by decide)
          have e8 := lv_neT (a := 8) hc8 (by decide)
          have e9 := lv_neT (a := 9) hc9 (by decide)
          refine lv_tableOut (tgt := 149) hx hb dX2_jump_32 (by omega) (by decide) ?_
          exact W.vret hx hb hr (fun t ht hW => ⟨⟨(xpr, xpc), rfl, h, by rw [ht]; exact hP, hD⟩, hS.F ht⟩) hS.2.2 dX2_jump_149
set_option maxHeartbeats 4000000 in
set_option maxRecDepth 100000 in
theorem ct_P_advance (l : Launch) (dC : Nat → ClassId) (dI : Nat → Nat → Nat) (aP apr apw apt : Nat) (kpr kpw kpt : ClassId) (sz : Nat) (xpr : (Nat → Int32)) (xpw : (Nat → Int32)) (xpt : (Nat → Int32)) (xpc : Int32) (xrn : Int32) (xca : Int32) (xst : Int32) (xps : Int32) (o : Int32 × (Nat → Int32) × (Nat → Int32) × Int32 × Int32 × Int32 × Int32 × Int32) (h : fn_P_advance xpr xpw xpt xpc xrn xca xst xps = some o) : Met l yX2_advance wsX2_advance ({ frames := 1, cells := 0, slots := 0, locals := 25 }) (va_Pc [.ref aP] (fun U => U.heap.size = sz ∧ va_P (dC, dI) vwCl [(aP, .inr (2, [.ref apr, .ref apw, .ref apt, .int xpc, .int xrn, .int xca, .int xst, .int xps])), (apr, .inl (kpr, 8, .inl xpr)), (apw, .inl (kpw, 64, .inl xpw)), (apt, .inl (kpt, 2, .inl xpt))] U.heap ∧ va_K (dC, dI) vwCl [(kpr, .int), (kpw, .int), (kpt, .int)] U ∧ va_D (fun _ => True) [(aP, .inr (2, [.ref apr, .ref apw, .ref apt, .int xpc, .int xrn, .int xca, .int xst, .int xps])), (apr, .inl (kpr, 8, .inl xpr)), (apw, .inl (kpw, 64, .inl xpw)), (apt, .inl (kpt, 2, .inl xpt))])) (va_Qi (fun (r : Int32) (u : (Nat → Int32) × (Nat → Int32) × Int32 × Int32 × Int32 × Int32 × Int32) => some (r, u) = some o) (fun (u : (Nat → Int32) × (Nat → Int32) × Int32 × Int32 × Int32 × Int32 × Int32) (t : State) => va_P (dC, dI) vwCl [(aP, .inr (2, [.ref apr, .ref apw, .ref apt, .int u.2.2.1, .int u.2.2.2.1, .int u.2.2.2.2.1, .int u.2.2.2.2.2.1, .int u.2.2.2.2.2.2])), (apr, .inl (kpr, 8, .inl u.1)), (apw, .inl (kpw, 64, .inl u.2.1)), (apt, .inl (kpt, 2, .inl xpt))] t.heap ∧ va_D (va_A [(aP, .inr (2, [.ref apr, .ref apw, .ref apt, .int xpc, .int xrn, .int xca, .int xst, .int xps])), (apr, .inl (kpr, 8, .inl xpr)), (apw, .inl (kpw, 64, .inl xpw)), (apt, .inl (kpt, 2, .inl xpt))] sz) [(aP, .inr (2, [.ref apr, .ref apw, .ref apt, .int u.2.2.1, .int u.2.2.2.1, .int u.2.2.2.2.1, .int u.2.2.2.2.2.1, .int u.2.2.2.2.2.2])), (apr, .inl (kpr, 8, .inl u.1)), (apw, .inl (kpw, 64, .inl u.2.1)), (apt, .inl (kpt, 2, .inl xpt))]) (va_A [(aP, .inr (2, [.ref apr, .ref apw, .ref apt, .int xpc, .int xrn, .int xca, .int xst, .int xps])), (apr, .inl (kpr, 8, .inl xpr)), (apw, .inl (kpw, 64, .inl xpw)), (apt, .inl (kpt, 2, .inl xpt))] sz)) 0 0 (va_A [(aP, .inr (2, [.ref apr, .ref apw, .ref apt, .int xpc, .int xrn, .int xca, .int xst, .int xps])), (apr, .inl (kpr, 8, .inl xpr)), (apw, .inl (kpw, 64, .inl xpw)), (apt, .inl (kpt, 2, .inl xpt))] sz) := by
  refine Met.ofW (cc := cX2_advance) (maxL := 3) (ret := (some .boolean)) (by decide) rfl ?_
  intro p e s m args below meth c s₁ B hml hv
  obtain ⟨rfl, hsz, hP, hK, hD0⟩ := hv
  have hx := B.exec
  have hb := B.bytes
  have hr := B.returns
  have hts := atoms_spec (ws := wsX2_advance) B.pre
  have hown : s.vm.findClass RX2 = some m.cls := findClass_of_methodNamed B.named
  have hlocks := B.notSynchronized
  subst hsz
  have hD := hD0.self (sz := s.heap.size)
  generalize hAe : va_A [(aP, .inr (2, [.ref apr, .ref apw, .ref apt, .int xpc, .int xrn, .int xca, .int xst, .int xps])), (apr, .inl (kpr, 8, .inl xpr)), (apw, .inl (kpw, 64, .inl xpw)), (apt, .inl (kpt, 2, .inl xpt))] s.heap.size = A at hD ⊢
  have hA : ∀ q : Nat, s.heap.size ≤ q → A q := fun q h => by rw [← hAe]; exact Or.inr h
  have hS : va_S A s.heap s.heap [] := va_S.rf
  have hP : va_P (dC, dI) vwCl [(aP, .inr (2, [.ref apr, .ref apw, .ref apt, .int xpc, .int xrn, .int xca, .int xst, .int xps])), (apr, .inl (kpr, 8, .inl xpr)), (apw, .inl (kpw, 64, .inl xpw)), (apt, .inl (kpt, 2, .inl xpt))] s.heap := hP
  have hf15 := hts (.fieldLink RX2 15 "ProbeBench$Processor" "words" "[I") (by decide +kernel)
  have hf21 := hts (.fieldLink RX2 21 "ProbeBench$Processor" "counter" "I") (by decide +kernel)
  have hf32 := hts (.fieldLink RX2 32 "ProbeBench$Processor" "stepsDone" "I") (by decide +kernel)
  have hf35 := hts (.fieldLink RX2 35 "ProbeBench$Processor" "passesTrap" "Z") (by decide +kernel)
  have hinX2 : ∀ w ∈ u_ws RX2 TX2 8, w ∈ wsX2_advance := by decide +kernel
  have k_32 : ∀ (H : Heap) (locs : List Loc) (ls : Array Slot) (xpr : (Nat → Int32)) (xpw : (Nat → Int32)) (xpc : Int32) (xrn : Int32) (xca : Int32) (xst : Int32) (xps : Int32) (z1 : Int32), va_P (dC, dI) vwCl [(aP, .inr (2, [.ref apr, .ref apw, .ref apt, .int xpc, .int xrn, .int xca, .int xst, .int xps])), (apr, .inl (kpr, 8, .inl xpr)), (apw, .inl (kpw, 64, .inl xpw)), (apt, .inl (kpt, 2, .inl xpt))] H → va_D A [(aP, .inr (2, [.ref apr, .ref apw, .ref apt, .int xpc, .int xrn, .int xca, .int xst, .int xps])), (apr, .inl (kpr, 8, .inl xpr)), (apw, .inl (kpw, 64, .inl xpw)), (apt, .inl (kpt, 2, .inl xpt))] → va_S A s.heap H locs → lv_has ls 3 [(0, .ref aP), (1, .int z1)] → fn_P_advance_J32 xpr xpw xpt xpc xrn xca xst xps z1 = some o → W p l e (headSpec wsX2_advance ({ frames := 1, cells := 0, slots := 0, locals := 25 })).room s m ([.ref aP] : List Value).toArray below meth c H locs 0 0 (MQ below (va_Qi (fun (r : Int32) (u : (Nat → Int32) × (Nat → Int32) × Int32 × Int32 × Int32 × Int32 × Int32) => some (r, u) = some o) (fun (u : (Nat → Int32) × (Nat → Int32) × Int32 × Int32 × Int32 × Int32 × Int32) (t : State) => va_P (dC, dI) vwCl [(aP, .inr (2, [.ref apr, .ref apw, .ref apt, .int u.2.2.1, .int u.2.2.2.1, .int u.2.2.2.2.1, .int u.2.2.2.2.2.1, .int u.2.2.2.2.2.2])), (apr, .inl (kpr, 8, .inl u.1)), (apw, .inl (kpw, 64, .inl u.2.1)), (apt, .inl (kpt, 2, .inl xpt))] t.heap ∧ va_D A [(aP, .inr (2, [.ref apr, .ref apw, .ref apt, .int u.2.2.1, .int u.2.2.2.1, .int u.2.2.2.2.1, .int u.2.2.2.2.2.1, .int u.2.2.2.2.2.2])), (apr, .inl (kpr, 8, .inl u.1)), (apw, .inl (kpw, 64, .inl u.2.1)), (apt, .inl (kpt, 2, .inl xpt))]) A) ([.ref aP] : List Value).toArray s 0 0 A) (F0 m 32 ls []) := by
    intro H locs ls xpr xpw xpc xrn xca xst xps z1 hP hD hS hl h
    unfold fn_P_advance_J32 at h
    refine lv_iload_n hx hb dX2_advance_32 rfl (lv_at hl 1 rfl) ?_
    refine lv_bipush (v := (12 : Int32)) hx hb dX2_advance_33 (by decide) ?_
    refine lv_ishr hx hb dX2_advance_35 ?_
    refine lv_bipush (v := (10 : Int32)) hx hb dX2_advance_36 (by decide) ?_
    refine lv_icmp_ne (tgt := 48) hx hb dX2_advance_38 (by decide) (fun hc => ?_) (fun hc => ?_)
    · have h := if_n h hc
      refine lv_aload_n hx hb dX2_advance_48 rfl (lv_at hl 0 rfl) ?_
      refine lv_aload_n hx hb dX2_advance_49 rfl (lv_at hl 0 rfl) ?_
      refine va_get (D := (dC, dI)) (ci := 2) (v := .int xpc) (C := RX2) (T := TX2) (N := 8) hx hb hts hinX2 hown hK hP 0 rfl rfl 3 (by decide) hf21 (fun _ h9 => h9) rfl dX2_advance_50 ?_
      refine lv_iconst (v := (1 : Int32)) hx hb dX2_advance_53 (by decide) ?_
      refine lv_iadd hx hb dX2_advance_54 ?_
      refine lv_bipush (v := (63 : Int32)) hx hb dX2_advance_55 (by decide) ?_
      refine lv_iand hx hb dX2_advance_57 ?_
      refine va_put (D := (dC, dI)) (ci := 2) (v := .int ((xpc + (1 : Int32)) &&& (63 : Int32))) (ty := .int) (C := RX2) (T := TX2) (N := 8) hx hb hts hinX2 tyX2 tyX2_ok nmX2 hown hK hP hD hS 0 rfl rfl 3 (by decide) hf21 (fun _ h9 => h9) rfl (by decide +kernel) rfl rfl (Nat.le_of_ble_eq_true rfl) dX2_advance_58 (fun H locs hP hD hS => ?_)
      have hP : va_P (dC, dI) vwCl [(aP, .inr (2, [.ref apr, .ref apw, .ref apt, .int ((xpc + (1 : Int32)) &&& (63 : Int32)), .int xrn, .int xca, .int xst, .int xps])), (apr, .inl (kpr, 8, .inl xpr)), (apw, .inl (kpw, 64, .inl xpw)), (apt, .inl (kpt, 2, .inl xpt))] H := hP
      have hD : va_D A [(aP, .inr (2, [.ref apr, .ref apw, .ref apt, .int ((xpc + (1 : Int32)) &&& (63 : Int32)), .int xrn, .int xca, .int xst, .int xps])), (apr, .inl (kpr, 8, .inl xpr)), (apw, .inl (kpw, 64, .inl xpw)), (apt, .inl (kpt, 2, .inl xpt))] := hD
      refine lv_iload_n hx hb dX2_advance_61 rfl (lv_at hl 1 rfl) ?_
      obtain ⟨v62, hv, h⟩ := bn_ex h
      have hPc := hP.sub (ws' := []) [] rfl
      have hDc := hD.sub (ws' := []) [] (by decide) rfl
      have hKc := hK.sub (tys' := []) [] rfl
      have hFc := va_free (wc := []) hD hS hA [] rfl
      refine va_calli (va_runS (As := [.int z1]) (rest := []) ⟨hx, hb, hml, hown, hts⟩ (ct_P_isJump l dC dI  H.size  z1 v62 hv) (cwS 1 hts gX2_advance_X2_isJump rfl rfl rfl (by decide +kernel) ⟨Nat.le_of_ble_eq_true rfl, Nat.le_of_ble_eq_true rfl⟩) ⟨fun a U g mk q => by obtain ⟨q0, q1, qP, qK, qD⟩ := q; exact ⟨q0, q1, qP, va_K.moved (u := U) (U := U.calling g mk a) (Vm.Alike.refl U.vm) qK, qD⟩, fun U hU hW => ⟨rfl, by rw [hU], by rw [hU]; exact hPc, va_K.moved hW.alike hKc, hDc.weaken (fun _ _ _ _ => trivial)⟩⟩ rfl rfl hl.1 rfl (lv_room (Nat.le_of_ble_eq_true rfl)) dX2_advance_62 ⟨Nat.zero_le _, Nat.zero_le _⟩) hS (fun q _ h => hFc q h) hFc (fun r u t H locs ht hvm hw hB hz1 hk1 hS => ?_)
      obtain rfl := pr_0 hw
      obtain ⟨hP1, hD1⟩ := hB
      rw [ht] at hP1
      obtain ⟨hP, hD⟩ := va_join (wr := [(aP, .inr (2, [.ref apr, .ref apw, .ref apt, .int ((xpc + (1 : Int32)) &&& (63 : Int32)), .int xrn, .int xca, .int xst, .int xps])), (apr, .inl (kpr, 8, .inl xpr)), (apw, .inl (kpw, 64, .inl xpw)), (apt, .inl (kpt, 2, .inl xpt))]) (w1 := []) hP hD [] [0, 1, 2, 3] rfl rfl (by decide) (by decide) hk1 hFc hP1 hD1
      have hP : va_P (dC, dI) vwCl [(aP, .inr (2, [.ref apr, .ref apw, .ref apt, .int ((xpc + (1 : Int32)) &&& (63 : Int32)), .int xrn, .int xca, .int xst, .int xps])), (apr, .inl (kpr, 8, .inl xpr)), (apw, .inl (kpw, 64, .inl xpw)), (apt, .inl (kpt, 2, .inl xpt))] H := hP
      have hD : va_D A [(aP, .inr (2, [.ref apr, .ref apw, .ref apt, .int ((xpc + (1 : Int32)) &&& (63 : Int32)), .int xrn, .int xca, .int xst, .int xps])), (apr, .inl (kpr, 8, .inl xpr)), (apw, .inl (kpw, 64, .inl xpw)), (apt, .inl (kpt, 2, .inl xpt))] := hD
      refine lv_if_eq (tgt := 76) hx hb dX2_advance_65 (by decide) (fun hc => ?_) (fun hc => ?_)
      · have h := if_y h hc
        refine lv_aload_n hx hb dX2_advance_76 rfl (lv_at hl 0 rfl) ?_
        refine lv_iload_n hx hb dX2_advance_77 rfl (lv_at hl 1 rfl) ?_
        obtain ⟨v78, hv, h⟩ := bn_ex h
        have hPc := hP.sub (ws' := [(aP, .inr (2, [.ref apr, .ref apw, .ref apt, .int ((xpc + (1 : Int32)) &&& (63 : Int32)), .int xrn, .int xca, .int xst, .int xps])), (apr, .inl (kpr, 8, .inl xpr)), (apw, .inl (kpw, 64, .inl xpw)), (apt, .inl (kpt, 2, .inl xpt))]) [0, 1, 2, 3] rfl
        have hDc := hD.sub (ws' := [(aP, .inr (2, [.ref apr, .ref apw, .ref apt, .int ((xpc + (1 : Int32)) &&& (63 : Int32)), .int xrn, .int xca, .int xst, .int xps])), (apr, .inl (kpr, 8, .inl xpr)), (apw, .inl (kpw, 64, .inl xpw)), (apt, .inl (kpt, 2, .inl xpt))]) [0, 1, 2, 3] (by decide) rfl
        have hKc := hK.sub (tys' := [(kpr, .int), (kpw, .int), (kpt, .int)]) [0, 1, 2] rfl
        have hFc := va_free (wc := [(aP, .inr (2, [.ref apr, .ref apw, .ref apt, .int ((xpc + (1 : Int32)) &&& (63 : Int32)), .int xrn, .int xca, .int xst, .int xps])), (apr, .inl (kpr, 8, .inl xpr)), (apw, .inl (kpw, 64, .inl xpw)), (apt, .inl (kpt, 2, .inl xpt))]) hD hS hA [0, 1, 2, 3] rfl
        refine va_callv (va_runV (As := [.int z1]) (rest := []) ⟨hx, hb, hml, hown, hts⟩ (ct_P_perform l dC dI aP apr apw apt kpr kpw kpt H.size xpr xpw xpt ((xpc + (1 : Int32)) &&& (63 : Int32)) xrn xca xst xps z1 v78 hv) (cwV 1 hts gX2_advance_X2_perform rfl rfl rfl (by decide +kernel) ⟨Nat.le_of_ble_eq_true rfl, Nat.le_of_ble_eq_true rfl⟩) ⟨fun a U g mk q => by obtain ⟨q0, q1, qP, qK, qD⟩ := q; exact ⟨q0, q1, qP, va_K.moved (u := U) (U := U.calling g mk a) (Vm.Alike.refl U.vm) qK, qD⟩, va_recv (ci := 2) (q0 := 0) hK hP rfl rfl, fun U hU hW => ⟨rfl, by rw [hU], by rw [hU]; exact hPc, va_K.moved hW.alike hKc, hDc.weaken (fun _ _ _ _ => trivial)⟩⟩ rfl rfl hl.1 rfl (lv_room (Nat.le_of_ble_eq_true rfl)) dX2_advance_78 ⟨Nat.zero_le _, Nat.zero_le _⟩) hS (fun q _ h => hFc q h) hFc (fun u t H locs ht hvm hw hB hz1 hk1 hS => ?_)
        obtain rfl := pr_0 hw
        obtain ⟨hP1, hD1⟩ := hB
        rw [ht] at hP1
        obtain ⟨hP, hD⟩ := va_join (wr := []) (w1 := [(aP, .inr (2, [.ref apr, .ref apw, .ref apt, .int ((xpc + (1 : Int32)) &&& (63 : Int32)), .int xrn, .int xca, .int xst, .int xps])), (apr, .inl (kpr, 8, .inl v78.1)), (apw, .inl (kpw, 64, .inl v78.2)), (apt, .inl (kpt, 2, .inl xpt))]) hP hD [0, 1, 2, 3] [] rfl rfl (by decide) (by decide) hk1 hFc hP1 hD1
        have hP : va_P (dC, dI) vwCl [(aP, .inr (2, [.ref apr, .ref apw, .ref apt, .int ((xpc + (1 : Int32)) &&& (63 : Int32)), .int xrn, .int xca, .int xst, .int xps])), (apr, .inl (kpr, 8, .inl v78.1)), (apw, .inl (kpw, 64, .inl v78.2)), (apt, .inl (kpt, 2, .inl xpt))] H := hP
        have hD : va_D A [(aP, .inr (2, [.ref apr, .ref apw, .ref apt, .int ((xpc + (1 : Int32)) &&& (63 : Int32)), .int xrn, .int xca, .int xst, .int xps])), (apr, .inl (kpr, 8, .inl v78.1)), (apw, .inl (kpw, 64, .inl v78.2)), (apt, .inl (kpt, 2, .inl xpt))] := hD
        refine lv_aload_n hx hb dX2_advance_81 rfl (lv_at hl 0 rfl) ?_
        refine lv_dup hx hb dX2_advance_82 rfl ?_
        refine va_get (D := (dC, dI)) (ci := 2) (v := .int xst) (C := RX2) (T := TX2) (N := 8) hx hb hts hinX2 hown hK hP 0 rfl rfl 6 (by decide) hf32 (fun _ h9 => h9) rfl dX2_advance_83 ?_
        refine lv_iconst (v := (1 : Int32)) hx hb dX2_advance_86 (by decide) ?_
        refine lv_iadd hx hb dX2_advance_87 ?_
        refine va_put (D := (dC, dI)) (ci := 2) (v := .int (xst + (1 : Int32))) (ty := .int) (C := RX2) (T := TX2) (N := 8) hx hb hts hinX2 tyX2 tyX2_ok nmX2 hown hK hP hD hS 0 rfl rfl 6 (by decide) hf32 (fun _ h9 => h9) rfl (by decide +kernel) rfl rfl (Nat.le_of_ble_eq_true rfl) dX2_advance_88 (fun H locs hP hD hS => ?_)
        have hP : va_P (dC, dI) vwCl [(aP, .inr (2, [.ref apr, .ref apw, .ref apt, .int ((xpc + (1 : Int32)) &&& (63 : Int32)), .int xrn, .int xca, .int (xst + (1 : Int32)), .int xps])), (apr, .inl (kpr, 8, .inl v78.1)), (apw, .inl (kpw, 64, .inl v78.2)), (apt, .inl (kpt, 2, .inl xpt))] H := hP
        have hD : va_D A [(aP, .inr (2, [.ref apr, .ref apw, .ref apt, .int ((xpc + (1 : Int32)) &&& (63 : Int32)), .int xrn, .int xca, .int (xst + (1 : Int32)), .int xps])), (apr, .inl (kpr, 8, .inl v78.1)), (apw, .inl (kpw, 64, .inl v78.2)), (apt, .inl (kpt, 2, .inl xpt))] := hD
        refine lv_iconst (v := (1 : Int32)) hx hb dX2_advance_91 (by decide) ?_
        exact W.zret hx hb hr (kb_n (Or.inr rfl)) (fun t ht hW => ⟨⟨(1 : Int32), (v78.1, v78.2, ((xpc + (1 : Int32)) &&& (63 : Int32)), xrn, xca, (xst + (1 : Int32)), xps), rfl, h, by rw [ht]; exact hP, hD⟩, hS.F ht⟩) hS.2.2 dX2_advance_92
      · have h := if_n h hc
        refine lv_aload_n hx hb dX2_advance_68 rfl (lv_at hl 0 rfl) ?_
        refine lv_iload_n hx hb dX2_advance_69 rfl (lv_at hl 1 rfl) ?_
        obtain ⟨v70, hv, h⟩ := bn_ex h
        have hPc := hP.sub (ws' := [(aP, .inr (2, [.ref apr, .ref apw, .ref apt, .int ((xpc + (1 : Int32)) &&& (63 : Int32)), .int xrn, .int xca, .int xst, .int xps])), (apr, .inl (kpr, 8, .inl xpr)), (apw, .inl (kpw, 64, .inl xpw)), (apt, .inl (kpt, 2, .inl xpt))]) [0, 1, 2, 3] rfl
        have hDc := hD.sub (ws' := [(aP, .inr (2, [.ref apr, .ref apw, .ref apt, .int ((xpc + (1 : Int32)) &&& (63 : Int32)), .int xrn, .int xca, .int xst, .int xps])), (apr, .inl (kpr, 8, .inl xpr)), (apw, .inl (kpw, 64, .inl xpw)), (apt, .inl (kpt, 2, .inl xpt))]) [0, 1, 2, 3] (by decide) rfl
        have hKc := hK.sub (tys' := [(kpr, .int), (kpw, .int), (kpt, .int)]) [0, 1, 2] rfl
        have hFc := va_free (wc := [(aP, .inr (2, [.ref apr, .ref apw, .ref apt, .int ((xpc + (1 : Int32)) &&& (63 : Int32)), .int xrn, .int xca, .int xst, .int xps])), (apr, .inl (kpr, 8, .inl xpr)), (apw, .inl (kpw, 64, .inl xpw)), (apt, .inl (kpt, 2, .inl xpt))]) hD hS hA [0, 1, 2, 3] rfl
        refine va_callv (va_runV (As := [.int z1]) (rest := []) ⟨hx, hb, hml, hown, hts⟩ (ct_P_jump l dC dI aP apr apw apt kpr kpw kpt H.size xpr xpw xpt ((xpc + (1 : Int32)) &&& (63 : Int32)) xrn xca xst xps z1 v70 hv) (cwV 1 hts gX2_advance_X2_jump rfl rfl rfl (by decide +kernel) ⟨Nat.le_of_ble_eq_true rfl, Nat.le_of_ble_eq_true rfl⟩) ⟨fun a U g mk q => by obtain ⟨q0, q1, qP, qK, qD⟩ := q; exact ⟨q0, q1, qP, va_K.moved (u := U) (U := U.calling g mk a) (Vm.Alike.refl U.vm) qK, qD⟩, va_recv (ci := 2) (q0 := 0) hK hP rfl rfl, fun U hU hW => ⟨rfl, by rw [hU], by rw [hU]; exact hPc, va_K.moved hW.alike hKc, hDc.weaken (fun _ _ _ _ => trivial)⟩⟩ rfl rfl hl.1 rfl (lv_room (Nat.le_of_ble_eq_true rfl)) dX2_advance_70 ⟨Nat.zero_le _, Nat.zero_le _⟩) hS (fun q _ h => hFc q h) hFc (fun u t H locs ht hvm hw hB hz1 hk1 hS => ?_)
        obtain rfl := pr_0 hw
        obtain ⟨hP1, hD1⟩ := hB
        rw [ht] at hP1
        obtain ⟨hP, hD⟩ := va_join (wr := []) (w1 := [(aP, .inr (2, [.ref apr, .ref apw, .ref apt, .int v70.2, .int xrn, .int xca, .int xst, .int xps])), (apr, .inl (kpr, 8, .inl v70.1)), (apw, .inl (kpw, 64, .inl xpw)), (apt, .inl (kpt, 2, .inl xpt))]) hP hD [0, 1, 2, 3] [] rfl rfl (by decide) (by decide) hk1 hFc hP1 hD1
        have hP : va_P (dC, dI) vwCl [(aP, .inr (2, [.ref apr, .ref apw, .ref apt, .int v70.2, .int xrn, .int xca, .int xst, .int xps])), (apr, .inl (kpr, 8, .inl v70.1)), (apw, .inl (kpw, 64, .inl xpw)), (apt, .inl (kpt, 2, .inl xpt))] H := hP
        have hD : va_D A [(aP, .inr (2, [.ref apr, .ref apw, .ref apt, .int v70.2, .int xrn, .int xca, .int xst, .int xps])), (apr, .inl (kpr, 8, .inl v70.1)), (apw, .inl (kpw, 64, .inl xpw)), (apt, .inl (kpt, 2, .inl xpt))] := hD
        refine lv_goto (tgt := 81) hx hb dX2_advance_73 (by decide) ?_
        refine lv_aload_n hx hb dX2_advance_81 rfl (lv_at hl 0 rfl) ?_
        refine lv_dup hx hb dX2_advance_82 rfl ?_
        refine va_get (D := (dC, dI)) (ci := 2) (v := .int xst) (C := RX2) (T := TX2) (N := 8) hx hb hts hinX2 hown hK hP 0 rfl rfl 6 (by decide) hf32 (fun _ h9 => h9) rfl dX2_advance_83 ?_
        refine lv_iconst (v := (1 : Int32)) hx hb dX2_advance_86 (by decide) ?_
        refine lv_iadd hx hb dX2_advance_87 ?_
        refine va_put (D := (dC, dI)) (ci := 2) (v := .int (xst + (1 : Int32))) (ty := .int) (C := RX2) (T := TX2) (N := 8) hx hb hts hinX2 tyX2 tyX2_ok nmX2 hown hK hP hD hS 0 rfl rfl 6 (by decide) hf32 (fun _ h9 => h9) rfl (by decide +kernel) rfl rfl (Nat.le_of_ble_eq_true rfl) dX2_advance_88 (fun H locs hP hD hS => ?_)
        have hP : va_P (dC, dI) vwCl [(aP, .inr (2, [.ref apr, .ref apw, .ref apt, .int v70.2, .int xrn, .int xca, .int (xst + (1 : Int32)), .int xps])), (apr, .inl (kpr, 8, .inl v70.1)), (apw, .inl (kpw, 64, .inl xpw)), (apt, .inl (kpt, 2, .inl xpt))] H := hP
        have hD : va_D A [(aP, .inr (2, [.ref apr, .ref apw, .ref apt, .int v70.2, .int xrn, .int xca, .int (xst + (1 : Int32)), .int xps])), (apr, .inl (kpr, 8, .inl v70.1)), (apw, .inl (kpw, 64, .inl xpw)), (apt, .inl (kpt, 2, .inl xpt))] := hD
        refine lv_iconst (v := (1 : Int32)) hx hb dX2_advance_91 (by decide) ?_
        exact W.zret hx hb hr (kb_n (Or.inr rfl)) (fun t ht hW => ⟨⟨(1 : Int32), (v70.1, xpw, v70.2, xrn, xca, (xst + (1 : Int32)), xps), rfl, h, by rw [ht]; exact hP, hD⟩, hS.F ht⟩) hS.2.2 dX2_advance_92
    · have h := if_y h hc
      refine lv_aload_n hx hb dX2_advance_41 rfl (lv_at hl 0 rfl) ?_
      refine lv_iconst (v := (1 : Int32)) hx hb dX2_advance_42 (by decide) ?_
      obtain ⟨v43, hv, h⟩ := bn_ex h
      have hPc := hP.sub (ws' := [(aP, .inr (2, [.ref apr, .ref apw, .ref apt, .int xpc, .int xrn, .int xca, .int xst, .int xps])), (apr, .inl (kpr, 8, .inl xpr)), (apw, .inl (kpw, 64, .inl xpw)), (apt, .inl (kpt, 2, .inl xpt))]) [0, 1, 2, 3] rfl
      have hDc := hD.sub (ws' := [(aP, .inr (2, [.ref apr, .ref apw, .ref apt, .int xpc, .int xrn, .int xca, .int xst, .int xps])), (apr, .inl (kpr, 8, .inl xpr)), (apw, .inl (kpw, 64, .inl xpw)), (apt, .inl (kpt, 2, .inl xpt))]) [0, 1, 2, 3] (by decide) rfl
      have hKc := hK.sub (tys' := [(kpr, .int), (kpw, .int), (kpt, .int)]) [0, 1, 2] rfl
      have hFc := va_free (wc := [(aP, .inr (2, [.ref apr, .ref apw, .ref apt, .int xpc, .int xrn, .int xca, .int xst, .int xps])), (apr, .inl (kpr, 8, .inl xpr)), (apw, .inl (kpw, 64, .inl xpw)), (apt, .inl (kpt, 2, .inl xpt))]) hD hS hA [0, 1, 2, 3] rfl
      refine va_callv (va_runV (As := [.int (1 : Int32)]) (rest := []) ⟨hx, hb, hml, hown, hts⟩ (ct_P_halt l dC dI aP apr apw apt kpr kpw kpt H.size xpr xpw xpt xpc xrn xca xst xps (1 : Int32) v43 hv) (cwV 1 hts gX2_advance_X2_halt rfl rfl rfl (by decide +kernel) ⟨Nat.le_of_ble_eq_true rfl, Nat.le_of_ble_eq_true rfl⟩) ⟨fun a U g mk q => by obtain ⟨q0, q1, qP, qK, qD⟩ := q; exact ⟨q0, q1, qP, va_K.moved (u := U) (U := U.calling g mk a) (Vm.Alike.refl U.vm) qK, qD⟩, va_recv (ci := 2) (q0 := 0) hK hP rfl rfl, fun U hU hW => ⟨rfl, by rw [hU], by rw [hU]; exact hPc, va_K.moved hW.alike hKc, hDc.weaken (fun _ _ _ _ => trivial)⟩⟩ rfl rfl hl.1 rfl (lv_room (Nat.le_of_ble_eq_true rfl)) dX2_advance_43 ⟨Nat.zero_le _, Nat.zero_le _⟩) hS (fun q _ h => hFc q h) hFc (fun u t H locs ht hvm hw hB hz1 hk1 hS => ?_)
      obtain rfl := pr_0 hw
      obtain ⟨hP1, hD1⟩ := hB
      rw [ht] at hP1
      obtain ⟨hP, hD⟩ := va_join (wr := []) (w1 := [(aP, .inr (2, [.ref apr, .ref apw, .ref apt, .int xpc, .int v43.1, .int v43.2, .int xst, .int xps])), (apr, .inl (kpr, 8, .inl xpr)), (apw, .inl (kpw, 64, .inl xpw)), (apt, .inl (kpt, 2, .inl xpt))]) hP hD [0, 1, 2, 3] [] rfl rfl (by decide) (by decide) hk1 hFc hP1 hD1
      have hP : va_P (dC, dI) vwCl [(aP, .inr (2, [.ref apr, .ref apw, .ref apt, .int xpc, .int v43.1, .int v43.2, .int xst, .int xps])), (apr, .inl (kpr, 8, .inl xpr)), (apw, .inl (kpw, 64, .inl xpw)), (apt, .inl (kpt, 2, .inl xpt))] H := hP
      have hD : va_D A [(aP, .inr (2, [.ref apr, .ref apw, .ref apt, .int xpc, .int v43.1, .int v43.2, .int xst, .int xps])), (apr, .inl (kpr, 8, .inl xpr)), (apw, .inl (kpw, 64, .inl xpw)), (apt, .inl (kpt, 2, .inl xpt))] := hD
      refine lv_iconst (v := (0 : Int32)) hx hb dX2_advance_46 (by decide) ?_
      exact W.zret hx hb hr (kb_n (Or.inl rfl)) (fun t ht hW => ⟨⟨(0 : Int32), (xpr, xpw, xpc, v43.1, v43.2, xst, xps), rfl, h, by rw [ht]; exact hP, hD⟩, hS.F ht⟩) hS.2.2 dX2_advance_47
  have hl := lv_entry ([.ref aP]) (n := 3) (Nat.le_of_ble_eq_true rfl)
  rw [lg_entry_eq]
  generalize (lg_sl ([.ref aP]) ++ List.replicate (3 - (lg_sl ([.ref aP])).length) Slot.unset).toArray = ls at hl ⊢
  have hl : lv_has ls 3 [(0, .ref aP)] := hl
  unfold fn_P_advance at h
  refine lv_aload_n hx hb dX2_advance_0 rfl (lv_at hl 0 rfl) ?_
  refine va_get (D := (dC, dI)) (ci := 2) (v := .ref apw) (C := RX2) (T := TX2) (N := 8) hx hb hts hinX2 hown hK hP 0 rfl rfl 1 (by decide) hf15 (fun _ h9 => h9) rfl dX2_advance_1 ?_
  refine lv_aload_n hx hb dX2_advance_4 rfl (lv_at hl 0 rfl) ?_
  refine va_get (D := (dC, dI)) (ci := 2) (v := .int xpc) (C := RX2) (T := TX2) (N := 8) hx hb hts hinX2 hown hK hP 0 rfl rfl 3 (by decide) hf21 (fun _ h9 => h9) rfl dX2_advance_5 ?_
  obtain ⟨hi, h⟩ := ck_in h
  refine va_iald hx hb hK hP 2 1 rfl rfl hi dX2_advance_8 ?_
  refine lv_istore_n hx hb dX2_advance_9 rfl hl (by decide) rfl (fun ls hl => ?_)
  have hl : lv_has ls 3 [(1, .int (xpw (Int32.toNatClampNeg xpc))), (0, .ref aP)] := hl
  refine lv_aload_n hx hb dX2_advance_10 rfl (lv_at hl 1 rfl) ?_
  refine lv_iload_n hx hb dX2_advance_11 rfl (lv_at hl 0 rfl) ?_
  obtain ⟨v12, hv, h⟩ := bn_ex h
  have hPc := hP.sub (ws' := [(aP, .inr (2, [.ref apr, .ref apw, .ref apt, .int xpc, .int xrn, .int xca, .int xst, .int xps])), (apr, .inl (kpr, 8, .inl xpr)), (apw, .inl (kpw, 64, .inl xpw)), (apt, .inl (kpt, 2, .inl xpt))]) [0, 1, 2, 3] rfl
  have hDc := hD.sub (ws' := [(aP, .inr (2, [.ref apr, .ref apw, .ref apt, .int xpc, .int xrn, .int xca, .int xst, .int xps])), (apr, .inl (kpr, 8, .inl xpr)), (apw, .inl (kpw, 64, .inl xpw)), (apt, .inl (kpt, 2, .inl xpt))]) [0, 1, 2, 3] (by decide) rfl
  have hKc := hK.sub (tys' := [(kpr, .int), (kpw, .int), (kpt, .int)]) [0, 1, 2] rfl
  have hFc := va_free (wc := [(aP, .inr (2, [.ref apr, .ref apw, .ref apt, .int xpc, .int xrn, .int xca, .int xst, .int xps])), (apr, .inl (kpr, 8, .inl xpr)), (apw, .inl (kpw, 64, .inl xpw)), (apt, .inl (kpt, 2, .inl xpt))]) hD hS hA [0, 1, 2, 3] rfl
  refine va_calli (va_runV (As := [.int (xpw (Int32.toNatClampNeg xpc))]) (rest := []) ⟨hx, hb, hml, hown, hts⟩ (ct_P_isTrapped l dC dI aP apr apw apt kpr kpw kpt s.heap.size xpr xpw xpt xpc xrn xca xst xps (xpw (Int32.toNatClampNeg xpc)) v12 hv) (cwV 1 hts gX2_advance_X2_isTrapped rfl rfl rfl (by decide +kernel) ⟨Nat.le_of_ble_eq_true rfl, Nat.le_of_ble_eq_true rfl⟩) ⟨fun a U g mk q => by obtain ⟨q0, q1, qP, qK, qD⟩ := q; exact ⟨q0, q1, qP, va_K.moved (u := U) (U := U.calling g mk a) (Vm.Alike.refl U.vm) qK, qD⟩, va_recv (ci := 2) (q0 := 0) hK hP rfl rfl, fun U hU hW => ⟨rfl, by rw [hU], by rw [hU]; exact hPc, va_K.moved hW.alike hKc, hDc.weaken (fun _ _ _ _ => trivial)⟩⟩ rfl rfl hl.1 rfl (lv_room (Nat.le_of_ble_eq_true rfl)) dX2_advance_12 ⟨Nat.zero_le _, Nat.zero_le _⟩) hS (fun q _ h => hFc q h) hFc (fun r u t H locs ht hvm hw hB hz1 hk1 hS => ?_)
  obtain rfl := pr_0 hw
  obtain ⟨hP1, hD1⟩ := hB
  rw [ht] at hP1
  obtain ⟨hP, hD⟩ := va_join (wr := []) (w1 := [(aP, .inr (2, [.ref apr, .ref apw, .ref apt, .int xpc, .int xrn, .int xca, .int xst, .int xps])), (apr, .inl (kpr, 8, .inl xpr)), (apw, .inl (kpw, 64, .inl xpw)), (apt, .inl (kpt, 2, .inl xpt))]) hP hD [0, 1, 2, 3] [] rfl rfl (by decide) (by decide) hk1 hFc hP1 hD1
  have hP : va_P (dC, dI) vwCl [(aP, .inr (2, [.ref apr, .ref apw, .ref apt, .int xpc, .int xrn, .int xca, .int xst, .int xps])), (apr, .inl (kpr, 8, .inl xpr)), (apw, .inl (kpw, 64, .inl xpw)), (apt, .inl (kpt, 2, .inl xpt))] H := hP
  have hD : va_D A [(aP, .inr (2, [.ref apr, .ref apw, .ref apt, .int xpc, .int xrn, .int xca, .int xst, .int xps])), (apr, .inl (kpr, 8, .inl xpr)), (apw, .inl (kpw, 64, .inl xpw)), (apt, .inl (kpt, 2, .inl xpt))] := hD
  refine lv_istore_n hx hb dX2_advance_15 rfl hl (by decide) rfl (fun ls hl => ?_)
  have hl : lv_has ls 3 [(2, .int v12), (1, .int (xpw (Int32.toNatClampNeg xpc))), (0, .ref aP)] := hl
  refine lv_aload_n hx hb dX2_advance_16 rfl (lv_at hl 2 rfl) ?_
  refine lv_iconst (v := (0 : Int32)) hx hb dX2_advance_17 (by decide) ?_
  refine va_put (D := (dC, dI)) (ci := 2) (v := .int (0 : Int32)) (ty := .boolean) (C := RX2) (T := TX2) (N := 8) hx hb hts hinX2 tyX2 tyX2_ok nmX2 hown hK hP hD hS 0 rfl rfl 7 (by decide) hf35 (fun _ h9 => h9) rfl (by decide +kernel) (kb_n (Or.inl rfl)) (kb_f (Or.inl rfl)) (Nat.le_of_ble_eq_true rfl) dX2_advance_18 (fun H locs hP hD hS => ?_)
  have hP : va_P (dC, dI) vwCl [(aP, .inr (2, [.ref apr, .ref apw, .ref apt, .int xpc, .int xrn, .int xca, .int xst, .int (0 : Int32)])), (apr, .inl (kpr, 8, .inl xpr)), (apw, .inl (kpw, 64, .inl xpw)), (apt, .inl (kpt, 2, .inl xpt))] H := hP
  have hD : va_D A [(aP, .inr (2, [.ref apr, .ref apw, .ref apt, .int xpc, .int xrn, .int xca, .int xst, .int (0 : Int32)])), (apr, .inl (kpr, 8, .inl xpr)), (apw, .inl (kpw, 64, .inl xpw)), (apt, .inl (kpt, 2, .inl xpt))] := hD
  refine lv_iload_n hx hb dX2_advance_21 rfl (lv_at hl 0 rfl) ?_
  refine lv_if_eq (tgt := 32) hx hb dX2_advance_22 (by decide) (fun hc => ?_) (fun hc => ?_)
  · have h := if_y h hc
    exact k_32 _ _ _ _ _ _ _ _ _ _ _ hP hD hS (lv_sub hl [2, 1] rfl) h
  · have h := if_n h hc
    refine lv_aload_n hx hb dX2_advance_25 rfl (lv_at hl 2 rfl) ?_
    refine lv_iconst (v := (2 : Int32)) hx hb dX2_advance_26 (by decide) ?_
    obtain ⟨v27, hv, h⟩ := bn_ex h
    have hPc := hP.sub (ws' := [(aP, .inr (2, [.ref apr, .ref apw, .ref apt, .int xpc, .int xrn, .int xca, .int xst, .int (0 : Int32)])), (apr, .inl (kpr, 8, .inl xpr)), (apw, .inl (kpw, 64, .inl xpw)), (apt, .inl (kpt, 2, .inl xpt))]) [0, 1, 2, 3] rfl
    have hDc := hD.sub (ws' := [(aP, .inr (2, [.ref apr, .ref apw, .ref apt, .int xpc, .int xrn, .int xca, .int xst, .int (0 : Int32)])), (apr, .inl (kpr, 8, .inl xpr)), (apw, .inl (kpw, 64, .inl xpw)), (apt, .inl (kpt, 2, .inl xpt))]) [0, 1, 2, 3] (by decide) rfl
    have hKc := hK.sub (tys' := [(kpr, .int), (kpw, .int), (kpt, .int)]) [0, 1, 2] rfl
    have hFc := va_free (wc := [(aP, .inr (2, [.ref apr, .ref apw, .ref apt, .int xpc, .int xrn, .int xca, .int xst, .int (0 : Int32)])), (apr, .inl (kpr, 8, .inl xpr)), (apw, .inl (kpw, 64, .inl xpw)), (apt, .inl (kpt, 2, .inl xpt))]) hD hS hA [0, 1, 2, 3] rfl
    refine va_callv (va_runV (As := [.int (2 : Int32)]) (rest := []) ⟨hx, hb, hml, hown, hts⟩ (ct_P_halt l dC dI aP apr apw apt kpr kpw kpt H.size xpr xpw xpt xpc xrn xca xst (0 : Int32) (2 : Int32) v27 hv) (cwV 1 hts gX2_advance_X2_halt rfl rfl rfl (by decide +kernel) ⟨Nat.le_of_ble_eq_true rfl, Nat.le_of_ble_eq_true rfl⟩) ⟨fun a U g mk q => by obtain ⟨q0, q1, qP, qK, qD⟩ := q; exact ⟨q0, q1, qP, va_K.moved (u := U) (U := U.calling g mk a) (Vm.Alike.refl U.vm) qK, qD⟩, va_recv (ci := 2) (q0 := 0) hK hP rfl rfl, fun U hU hW => ⟨rfl, by rw [hU], by rw [hU]; exact hPc, va_K.moved hW.alike hKc, hDc.weaken (fun _ _ _ _ => trivial)⟩⟩ rfl rfl hl.1 rfl (lv_room (Nat.le_of_ble_eq_true rfl)) dX2_advance_27 ⟨Nat.zero_le _, Nat.zero_le _⟩) hS (fun q _ h => hFc q h) hFc (fun u t H locs ht hvm hw hB hz1 hk1 hS => ?_)
    obtain rfl := pr_0 hw
    obtain ⟨hP1, hD1⟩ := hB
    rw [ht] at hP1
    obtain ⟨hP, hD⟩ := va_join (wr := []) (w1 := [(aP, .inr (2, [.ref apr, .ref apw, .ref apt, .int xpc, .int v27.1, .int v27.2, .int xst, .int (0 : Int32)])), (apr, .inl (kpr, 8, .inl xpr)), (apw, .inl (kpw, 64, .inl xpw)), (apt, .inl (kpt, 2, .inl xpt))]) hP hD [0, 1, 2, 3] [] rfl rfl (by decide) (by decide) hk1 hFc hP1 hD1
    have hP : va_P (dC, dI) vwCl [(aP, .inr (2, [.ref apr, .ref apw, .ref apt, .int xpc, .int v27.1, .int v27.2, .int xst, .int (0 : Int32)])), (apr, .inl (kpr, 8, .inl xpr)), (apw, .inl (kpw, 64, .inl xpw)), (apt, .inl (kpt, 2, .inl xpt))] H := hP
    have hD : va_D A [(aP, .inr (2, [.ref apr, .ref apw, .ref apt, .int xpc, .int v27.1, .int v27.2, .int xst, .int (0 : Int32)])), (apr, .inl (kpr, 8, .inl xpr)), (apw, .inl (kpw, 64, .inl xpw)), (apt, .inl (kpt, 2, .inl xpt))] := hD
    refine lv_iconst (v := (0 : Int32)) hx hb dX2_advance_30 (by decide) ?_
    exact W.zret hx hb hr (kb_n (Or.inl rfl)) (fun t ht hW => ⟨⟨(0 : Int32), (xpr, xpw, xpc, v27.1, v27.2, xst, (0 : Int32)), rfl, h, by rw [ht]; exact hP, hD⟩, hS.F ht⟩) hS.2.2 dX2_advance_31
