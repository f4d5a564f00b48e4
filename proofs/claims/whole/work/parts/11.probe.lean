set_option maxHeartbeats 4000000 in
set_option maxRecDepth 100000 in
theorem ct_B_hasRegister (l : Launch) (dC : Nat → ClassId) (dI : Nat → Nat → Nat) (sz : Nat) (j0 : Int32) (o : Int32) (h : fn_B_hasRegister j0 = some o) : Met l yX1_hasRegister wsX1_hasRegister ({ frames := 0, cells := 0, slots := 0, locals := 0 }) (va_Pc [.int j0] (fun U => U.heap.size = sz ∧ va_P (dC, dI) vwCl [] U.heap ∧ va_K (dC, dI) vwCl [] U ∧ va_D (fun _ => True) [])) (va_Qi (fun (r : Int32) (_ : Unit) => some r = some o) (fun (u : Unit) (t : State) => va_P (dC, dI) vwCl [] t.heap ∧ va_D (va_A [] sz) []) (va_A [] sz)) 0 0 (va_A [] sz) := by
  refine Met.ofW (cc := cX1_hasRegister) (maxL := 1) (ret := (some .boolean)) (by decide) rfl ?_
  intro p e s m args below meth c s₁ B hml hv
  obtain ⟨rfl, hsz, hP, hK, hD0⟩ := hv
  have hx := B.exec
  have hb := B.bytes
  have hr := B.returns
  have hts := atoms_spec (ws := wsX1_hasRegister) B.pre
  have hown : s.vm.findClass RX1 = some m.cls := findClass_of_methodNamed B.named
  have hlocks := B.notSynchronized
  subst hsz
  have hD := hD0.self (sz := s.heap.size)
  generalize hAe : va_A [] s.heap.size = A at hD ⊢
  have hA : ∀ q : Nat, s.heap.size ≤ q → A q := fun q h => by rw [← hAe]; exact Or.inr h
  have hS : va_S A s.heap s.heap [] := va_S.rf
  have hP : va_P (dC, dI) vwCl [] s.heap := hP
  have hl := lv_entry ([.int j0]) (n := 1) (Nat.le_of_ble_eq_true rfl)
  rw [lg_entry_eq]
  generalize (lg_sl ([.int j0]) ++ List.replicate (1 - (lg_sl ([.int j0])).length) Slot.unset).toArray = ls at hl ⊢
  have hl : lv_has ls 1 [(0, .int j0)] := hl
  unfold fn_B_hasRegister at h
  refine lv_iload_n hx hb dX1_hasRegister_0 rfl (lv_at hl 0 rfl) ?_
  refine lv_if_lt (tgt := 14) hx hb dX1_hasRegister_1 (by decide) (fun hc => ?_) (fun hc => ?_)
  · have h := if_y h hc
    refine lv_iconst (v := (0 : Int32)) hx hb dX1_hasRegister_14 (by decide) ?_
    exact W.zret hx hb hr (kb_n (Or.inl rfl)) (fun t ht hW => ⟨⟨(0 : Int32), (), rfl, h, by rw [ht]; exact hP, hD⟩, hS.F ht⟩) hS.2.2 dX1_hasRegister_15
  · have h := if_n h hc
    refine lv_iload_n hx hb dX1_hasRegister_4 rfl (lv_at hl 0 rfl) ?_
    refine lv_bipush (v := (16 : Int32)) hx hb dX1_hasRegister_5 (by decide) ?_
    refine lv_icmp_ge (tgt := 14) hx hb dX1_hasRegister_7 (by decide) (fun hc => ?_) (fun hc => ?_)
    · have h := if_y h hc
      refine lv_iconst (v := (0 : Int32)) hx hb dX1_hasRegister_14 (by decide) ?_
      exact W.zret hx hb hr (kb_n (Or.inl rfl)) (fun t ht hW => ⟨⟨(0 : Int32), (), rfl, h, by rw [ht]; exact hP, hD⟩, hS.F ht⟩) hS.2.2 dX1_hasRegister_15
    · have h := if_n h hc
      refine lv_iconst (v := (1 : Int32)) hx hb dX1_hasRegister_10 (by decide) ?_
      refine lv_goto (tgt := 15) hx hb dX1_hasRegister_11 (by decide) ?_
      exact W.zret hx hb hr (kb_n (Or.inr rfl)) (fun t ht hW => ⟨⟨(1 : Int32), (), rfl, h, by rw [ht]; exact hP, hD⟩, hS.F ht⟩) hS.2.2 dX1_hasRegister_15
set_option maxHeartbeats 4000000 in
set_option maxRecDepth 100000 in
theorem ct_B_passAddress (l : Launch) (dC : Nat → ClassId) (dI : Nat → Nat → Nat) (aB aba aP : Nat) (kba : ClassId) (sz : Nat) (xba : (Nat → Int32)) (xbs : Int32) (xbd : Int32) (xbe : Int32) (xbx : Int32) (o : Int32 × Int32) (h : fn_B_passAddress xbx = some o) : Met l yX1_passAddress wsX1_passAddress ({ frames := 0, cells := 0, slots := 0, locals := 0 }) (va_Pc [.ref aB] (fun U => U.heap.size = sz ∧ va_P (dC, dI) vwCl [(aB, .inr (1, [.ref aP, .ref aba, .int xbs, .int xbd, .int xbe, .int xbx])), (aba, .inl (kba, 4, .inl xba))] U.heap ∧ va_K (dC, dI) vwCl [(kba, .int)] U ∧ va_D (fun _ => True) [(aB, .inr (1, [.ref aP, .ref aba, .int xbs, .int xbd, .int xbe, .int xbx])), (aba, .inl (kba, 4, .inl xba))])) (va_Qi (fun (r : Int32) (u : Int32) => some (r, u) = some o) (fun (u : Int32) (t : State) => va_P (dC, dI) vwCl [(aB, .inr (1, [.ref aP, .ref aba, .int xbs, .int xbd, .int xbe, .int u])), (aba, .inl (kba, 4, .inl xba))] t.heap ∧ va_D (va_A [(aB, .inr (1, [.ref aP, .ref aba, .int xbs, .int xbd, .int xbe, .int xbx])), (aba, .inl (kba, 4, .inl xba))] sz) [(aB, .inr (1, [.ref aP, .ref aba, .int xbs, .int xbd, .int xbe, .int u])), (aba, .inl (kba, 4, .inl xba))]) (va_A [(aB, .inr (1, [.ref aP, .ref aba, .int xbs, .int xbd, .int xbe, .int xbx])), (aba, .inl (kba, 4, .inl xba))] sz)) 0 0 (va_A [(aB, .inr (1, [.ref aP, .ref aba, .int xbs, .int xbd, .int xbe, .int xbx])), (aba, .inl (kba, 4, .inl xba))] sz) := by
  refine Met.ofW (cc := cX1_passAddress) (maxL := 2) (ret := (some .int)) (by decide) rfl ?_
  intro p e s m args below meth c s₁ B hml hv
  obtain ⟨rfl, hsz, hP, hK, hD0⟩ := hv
  have hx := B.exec
  have hb := B.bytes
  have hr := B.returns
  have hts := atoms_spec (ws := wsX1_passAddress) B.pre
  have hown : s.vm.findClass RX1 = some m.cls := findClass_of_methodNamed B.named
  have hlocks := B.notSynchronized
  subst hsz
  have hD := hD0.self (sz := s.heap.size)
  generalize hAe : va_A [(aB, .inr (1, [.ref aP, .ref aba, .int xbs, .int xbd, .int xbe, .int xbx])), (aba, .inl (kba, 4, .inl xba))] s.heap.size = A at hD ⊢
  have hA : ∀ q : Nat, s.heap.size ≤ q → A q := fun q h => by rw [← hAe]; exact Or.inr h
  have hS : va_S A s.heap s.heap [] := va_S.rf
  have hP : va_P (dC, dI) vwCl [(aB, .inr (1, [.ref aP, .ref aba, .int xbs, .int xbd, .int xbe, .int xbx])), (aba, .inl (kba, 4, .inl xba))] s.heap := hP
  have hf26 := hts (.fieldLink RX1 26 "ProbeBench$Probe" "address" "I") (by decide +kernel)
  have hinX1 : ∀ w ∈ u_ws RX1 TX1 6, w ∈ wsX1_passAddress := by decide +kernel
  have hl := lv_entry ([.ref aB]) (n := 2) (Nat.le_of_ble_eq_true rfl)
  rw [lg_entry_eq]
  generalize (lg_sl ([.ref aB]) ++ List.replicate (2 - (lg_sl ([.ref aB])).length) Slot.unset).toArray = ls at hl ⊢
  have hl : lv_has ls 2 [(0, .ref aB)] := hl
  unfold fn_B_passAddress at h
  refine lv_aload_n hx hb dX1_passAddress_0 rfl (lv_at hl 0 rfl) ?_
  refine va_get (D := (dC, dI)) (ci := 1) (v := .int xbx) (C := RX1) (T := TX1) (N := 6) hx hb hts hinX1 hown hK hP 0 rfl rfl 5 (by decide) hf26 (fun _ h9 => h9) rfl dX1_passAddress_1 ?_
  refine lv_istore_n hx hb dX1_passAddress_4 rfl hl (by decide) rfl (fun ls hl => ?_)
  have hl : lv_has ls 2 [(1, .int xbx), (0, .ref aB)] := hl
  refine lv_aload_n hx hb dX1_passAddress_5 rfl (lv_at hl 1 rfl) ?_
  refine lv_iload_n hx hb dX1_passAddress_6 rfl (lv_at hl 0 rfl) ?_
  refine lv_iconst (v := (1 : Int32)) hx hb dX1_passAddress_7 (by decide) ?_
  refine lv_iadd hx hb dX1_passAddress_8 ?_
  refine lv_bipush (v := (63 : Int32)) hx hb dX1_passAddress_9 (by decide) ?_
  refine lv_iand hx hb dX1_passAddress_11 ?_
  refine va_put (D := (dC, dI)) (ci := 1) (v := .int ((xbx + (1 : Int32)) &&& (63 : Int32))) (ty := .int) (C := RX1) (T := TX1) (N := 6) hx hb hts hinX1 tyX1 tyX1_ok nmX1 hown hK hP hD hS 0 rfl rfl 5 (by decide) hf26 (fun _ h9 => h9) rfl (by decide +kernel) rfl rfl (Nat.le_of_ble_eq_true rfl) dX1_passAddress_12 (fun H locs hP hD hS => ?_)
  have hP : va_P (dC, dI) vwCl [(aB, .inr (1, [.ref aP, .ref aba, .int xbs, .int xbd, .int xbe, .int ((xbx + (1 : Int32)) &&& (63 : Int32))])), (aba, .inl (kba, 4, .inl xba))] H := hP
  have hD : va_D A [(aB, .inr (1, [.ref aP, .ref aba, .int xbs, .int xbd, .int xbe, .int ((xbx + (1 : Int32)) &&& (63 : Int32))])), (aba, .inl (kba, 4, .inl xba))] := hD
  refine lv_iload_n hx hb dX1_passAddress_15 rfl (lv_at hl 0 rfl) ?_
  exact W.iret hx hb hr (fun t ht hW => ⟨⟨xbx, ((xbx + (1 : Int32)) &&& (63 : Int32)), rfl, h, by rw [ht]; exact hP, hD⟩, hS.F ht⟩) hS.2.2 dX1_passAddress_16
set_option maxHeartbeats 4000000 in
set_option maxRecDepth 100000 in
theorem ct_B_control (l : Launch) (dC : Nat → ClassId) (dI : Nat → Nat → Nat) (aB aba aP apr apw apt : Nat) (kba kpr kpw kpt : ClassId) (sz : Nat) (xba : (Nat → Int32)) (xbs : Int32) (xbd : Int32) (xbe : Int32) (xbx : Int32) (xpr : (Nat → Int32)) (xpw : (Nat → Int32)) (xpt : (Nat → Int32)) (xpc : Int32) (xrn : Int32) (xca : Int32) (xst : Int32) (xps : Int32) (j1 : Int32) (o : Int32 × (Nat → Int32) × (Nat → Int32) × Int32 × Int32 × Int32 × Int32 × Int32) (h : fn_B_control xbs xpr xpw xpt xpc xrn xca xst xps j1 = some o) : Met l yX1_control wsX1_control ({ frames := 2, cells := 0, slots := 0, locals := 47 }) (va_Pc [.ref aB, .int j1] (fun U => U.heap.size = sz ∧ va_P (dC, dI) vwCl [(aB, .inr (1, [.ref aP, .ref aba, .int xbs, .int xbd, .int xbe, .int xbx])), (aba, .inl (kba, 4, .inl xba)), (aP, .inr (2, [.ref apr, .ref apw, .ref apt, .int xpc, .int xrn, .int xca, .int xst, .int xps])), (apr, .inl (kpr, 8, .inl xpr)), (apw, .inl (kpw, 64, .inl xpw)), (apt, .inl (kpt, 2, .inl xpt))] U.heap ∧ va_K (dC, dI) vwCl [(kba, .int), (kpr, .int), (kpw, .int), (kpt, .int)] U ∧ va_D (fun _ => True) [(aB, .inr (1, [.ref aP, .ref aba, .int xbs, .int xbd, .int xbe, .int xbx])), (aba, .inl (kba, 4, .inl xba)), (aP, .inr (2, [.ref apr, .ref apw, .ref apt, .int xpc, .int xrn, .int xca, .int xst, .int xps])), (apr, .inl (kpr, 8, .inl xpr)), (apw, .inl (kpw, 64, .inl xpw)), (apt, .inl (kpt, 2, .inl xpt))])) (va_Qv (fun (u : Int32 × (Nat → Int32) × (Nat → Int32) × Int32 × Int32 × Int32 × Int32 × Int32) => some u = some o) (fun (u : Int32 × (Nat → Int32) × (Nat → Int32) × Int32 × Int32 × Int32 × Int32 × Int32) (t : State) => va_P (dC, dI) vwCl [(aB, .inr (1, [.ref aP, .ref aba, .int u.1, .int xbd, .int xbe, .int xbx])), (aba, .inl (kba, 4, .inl xba)), (aP, .inr (2, [.ref apr, .ref apw, .ref apt, .int u.2.2.2.1, .int u.2.2.2.2.1, .int u.2.2.2.2.2.1, .int u.2.2.2.2.2.2.1, .int u.2.2.2.2.2.2.2])), (apr, .inl (kpr, 8, .inl u.2.1)), (apw, .inl (kpw, 64, .inl u.2.2.1)), (apt, .inl (kpt, 2, .inl xpt))] t.heap ∧ va_D (va_A [(aB, .inr (1, [.ref aP, .ref aba, .int xbs, .int xbd, .int xbe, .int xbx])), (aba, .inl (kba, 4, .inl xba)), (aP, .inr (2, [.ref apr, .ref apw, .ref apt, .int xpc, .int xrn, .int xca, .int xst, .int xps])), (apr, .inl (kpr, 8, .inl xpr)), (apw, .inl (kpw, 64, .inl xpw)), (apt, .inl (kpt, 2, .inl xpt))] sz) [(aB, .inr (1, [.ref aP, .ref aba, .int u.1, .int xbd, .int xbe, .int xbx])), (aba, .inl (kba, 4, .inl xba)), (aP, .inr (2, [.ref apr, .ref apw, .ref apt, .int u.2.2.2.1, .int u.2.2.2.2.1, .int u.2.2.2.2.2.1, .int u.2.2.2.2.2.2.1, .int u.2.2.2.2.2.2.2])), (apr, .inl (kpr, 8, .inl u.2.1)), (apw, .inl (kpw, 64, .inl u.2.2.1)), (apt, .inl (kpt, 2, .inl xpt))]) (va_A [(aB, .inr (1, [.ref aP, .ref aba, .int xbs, .int xbd, .int xbe, .int xbx])), (aba, .inl (kba, 4, .inl xba)), (aP, .inr (2, [.ref apr, .ref apw, .ref apt, .int xpc, .int xrn, .int xca, .int xst, .int xps])), (apr, .inl (kpr, 8, .inl xpr)), (apw, .inl (kpw, 64, .inl xpw)), (apt, .inl (kpt, 2, .inl xpt))] sz)) 0 0 (va_A [(aB, .inr (1, [.ref aP, .ref aba, .int xbs, .int xbd, .int xbe, .int xbx])), (aba, .inl (kba, 4, .inl xba)), (aP, .inr (2, [.ref apr, .ref apw, .ref apt, .int xpc, .int xrn, .int xca, .int xst, .int xps])), (apr, .inl (kpr, 8, .inl xpr)), (apw, .inl (kpw, 64, .inl xpw)), (apt, .inl (kpt, 2, .inl xpt))] sz) := by
  refine Met.ofW (cc := cX1_control) (maxL := 2) (ret := none) (by decide) rfl ?_
  intro p e s m args below meth c s₁ B hml hv
  obtain ⟨rfl, hsz, hP, hK, hD0⟩ := hv
  have hx := B.exec
  have hb := B.bytes
  have hr := B.returns
  have hts := atoms_spec (ws := wsX1_control) B.pre
  have hown : s.vm.findClass RX1 = some m.cls := findClass_of_methodNamed B.named
  have hlocks := B.notSynchronized
  subst hsz
  have hD := hD0.self (sz := s.heap.size)
  generalize hAe : va_A [(aB, .inr (1, [.ref aP, .ref aba, .int xbs, .int xbd, .int xbe, .int xbx])), (aba, .inl (kba, 4, .inl xba)), (aP, .inr (2, [.ref apr, .ref apw, .ref apt, .int xpc, .int xrn, .int xca, .int xst, .int xps])), (apr, .inl (kpr, 8, .inl xpr)), (apw, .inl (kpw, 64, .inl xpw)), (apt, .inl (kpt, 2, .inl xpt))] s.heap.size = A at hD ⊢
  have hA : ∀ q : Nat, s.heap.size ≤ q → A q := fun q h => by rw [← hAe]; exact Or.inr h
  have hS : va_S A s.heap s.heap [] := va_S.rf
  have hP : va_P (dC, dI) vwCl [(aB, .inr (1, [.ref aP, .ref aba, .int xbs, .int xbd, .int xbe, .int xbx])), (aba, .inl (kba, 4, .inl xba)), (aP, .inr (2, [.ref apr, .ref apw, .ref apt, .int xpc, .int xrn, .int xca, .int xst, .int xps])), (apr, .inl (kpr, 8, .inl xpr)), (apw, .inl (kpw, 64, .inl xpw)), (apt, .inl (kpt, 2, .inl xpt))] s.heap := hP
  have hf15 := hts (.fieldLink RX1 15 "ProbeBench$Probe" "stepping" "Z") (by decide +kernel)
  have hf29 := hts (.fieldLink RX1 29 "ProbeBench$Probe" "processor" "LProbeBench$Processor;") (by decide +kernel)
  have hf59 := hts (.fieldLink RX1 59 "ProbeBench$Processor" "running" "Z") (by decide +kernel)
  have hinX1 : ∀ w ∈ u_ws RX1 TX1 6, w ∈ wsX1_control := by decide +kernel
  have hinX2 : ∀ w ∈ u_ws RX2 TX2 8, w ∈ wsX1_control := by decide +kernel
  have k_42 : ∀ (H : Heap) (locs : List Loc) (ls : Array Slot) (xbs : Int32) (xpr : (Nat → Int32)) (xpw : (Nat → Int32)) (xpc : Int32) (xrn : Int32) (xca : Int32) (xst : Int32) (xps : Int32) (z1 : Int32), va_P (dC, dI) vwCl [(aB, .inr (1, [.ref aP, .ref aba, .int xbs, .int xbd, .int xbe, .int xbx])), (aba, .inl (kba, 4, .inl xba)), (aP, .inr (2, [.ref apr, .ref apw, .ref apt, .int xpc, .int xrn, .int xca, .int xst, .int xps])), (apr, .inl (kpr, 8, .inl xpr)), (apw, .inl (kpw, 64, .inl xpw)), (apt, .inl (kpt, 2, .inl xpt))] H → va_D A [(aB, .inr (1, [.ref aP, .ref aba, .int xbs, .int xbd, .int xbe, .int xbx])), (aba, .inl (kba, 4, .inl xba)), (aP, .inr (2, [.ref apr, .ref apw, .ref apt, .int xpc, .int xrn, .int xca, .int xst, .int xps])), (apr, .inl (kpr, 8, .inl xpr)), (apw, .inl (kpw, 64, .inl xpw)), (apt, .inl (kpt, 2, .inl xpt))] → va_S A s.heap H locs → lv_has ls 2 [(0, .ref aB), (1, .int z1)] → fn_B_control_J42 xbs xpr xpw xpt xpc xrn xca xst xps z1 = some o → W p l e (headSpec wsX1_control ({ frames := 2, cells := 0, slots := 0, locals := 47 })).room s m ([.ref aB, .int j1] : List Value).toArray below meth c H locs 0 0 (MQ below (va_Qv (fun (u : Int32 × (Nat → Int32) × (Nat → Int32) × Int32 × Int32 × Int32 × Int32 × Int32) => some u = some o) (fun (u : Int32 × (Nat → Int32) × (Nat → Int32) × Int32 × Int32 × Int32 × Int32 × Int32) (t : State) => va_P (dC, dI) vwCl [(aB, .inr (1, [.ref aP, .ref aba, .int u.1, .int xbd, .int xbe, .int xbx])), (aba, .inl (kba, 4, .inl xba)), (aP, .inr (2, [.ref apr, .ref apw, .ref apt, .int u.2.2.2.1, .int u.2.2.2.2.1, .int u.2.2.2.2.2.1, .int u.2.2.2.2.2.2.1, .int u.2.2.2.2.2.2.2])), (apr, .inl (kpr, 8, .inl u.2.1)), (apw, .inl (kpw, 64, .inl u.2.2.1)), (apt, .inl (kpt, 2, .inl xpt))] t.heap ∧ va_D A [(aB, .inr (1, [.ref aP, .ref aba, .int u.1, .int xbd, .int xbe, .int xbx])), (aba, .inl (kba, 4, .inl xba)), (aP, .inr (2, [.ref apr, .ref apw, .ref apt, .int u.2.2.2.1, .int u.2.2.2.2.1, .int u.2.2.2.2.2.1, .int u.2.2.2.2.2.2.1, .int u.2.2.2.2.2.2.2])), (apr, .inl (kpr, 8, .inl u.2.1)), (apw, .inl (kpw, 64, .inl u.2.2.1)), (apt, .inl (kpt, 2, .inl xpt))]) A) ([.ref aB, .int j1] : List Value).toArray s 0 0 A) (F0 m 42 ls []) := by
    intro H locs ls xbs xpr xpw xpc xrn xca xst xps z1 hP hD hS hl h
    unfold fn_B_control_J42 at h
    refine lv_iload_n hx hb dX1_control_42 rfl (lv_at hl 1 rfl) ?_
    refine lv_iconst (v := (2 : Int32)) hx hb dX1_control_43 (by decide) ?_
    refine lv_iand hx hb dX1_control_44 ?_
    refine lv_if_eq (tgt := 90) hx hb dX1_control_45 (by decide) (fun hc => ?_) (fun hc => ?_)
    · have h := if_y h hc
      exact W.vret hx hb hr (fun t ht hW => ⟨⟨(xbs, xpr, xpw, xpc, xrn, xca, xst, xps), rfl, h, by rw [ht]; exact hP, hD⟩, hS.F ht⟩) hS.2.2 dX1_control_90
    · have h := if_n h hc
      refine lv_aload_n hx hb dX1_control_48 rfl (lv_at hl 0 rfl) ?_
      refine va_get (D := (dC, dI)) (ci := 1) (v := .ref aP) (C := RX1) (T := TX1) (N := 6) hx hb hts hinX1 hown hK hP 0 rfl rfl 0 (by decide) hf29 (fun _ h9 => h9) rfl dX1_control_49 ?_
      refine va_get (D := (dC, dI)) (ci := 2) (v := .int xrn) (C := RX2) (T := TX2) (N := 8) hx hb hts hinX2 hown hK hP 2 rfl rfl 4 (by decide) hf59 (fun _ h9 => h9) rfl dX1_control_52 ?_
      refine lv_if_ne (tgt := 90) hx hb dX1_control_55 (by decide) (fun hc => ?_) (fun hc => ?_)
      · have h := if_n h hc
        exact W.vret hx hb hr (fun t ht hW => ⟨⟨(xbs, xpr, xpw, xpc, xrn, xca, xst, xps), rfl, h, by rw [ht]; exact hP, hD⟩, hS.F ht⟩) hS.2.2 dX1_control_90
      · have h := if_y h hc
        refine lv_aload_n hx hb dX1_control_58 rfl (lv_at hl 0 rfl) ?_
        refine va_get (D := (dC, dI)) (ci := 1) (v := .ref aP) (C := RX1) (T := TX1) (N := 6) hx hb hts hinX1 hown hK hP 0 rfl rfl 0 (by decide) hf29 (fun _ h9 => h9) rfl dX1_control_59 ?_
        obtain ⟨v62, hv, h⟩ := bn_ex h
        have hPc := hP.sub (ws' := [(aP, .inr (2, [.ref apr, .ref apw, .ref apt, .int xpc, .int xrn, .int xca, .int xst, .int xps])), (apr, .inl (kpr, 8, .inl xpr)), (apw, .inl (kpw, 64, .inl xpw)), (apt, .inl (kpt, 2, .inl xpt))]) [2, 3, 4, 5] rfl
        have hDc := hD.sub (ws' := [(aP, .inr (2, [.ref apr, .ref apw, .ref apt, .int xpc, .int xrn, .int xca, .int xst, .int xps])), (apr, .inl (kpr, 8, .inl xpr)), (apw, .inl (kpw, 64, .inl xpw)), (apt, .inl (kpt, 2, .inl xpt))]) [2, 3, 4, 5] (by decide) rfl
        have hKc := hK.sub (tys' := [(kpr, .int), (kpw, .int), (kpt, .int)]) [1, 2, 3] rfl
        have hFc := va_free (wc := [(aP, .inr (2, [.ref apr, .ref apw, .ref apt, .int xpc, .int xrn, .int xca, .int xst, .int xps])), (apr, .inl (kpr, 8, .inl xpr)), (apw, .inl (kpw, 64, .inl xpw)), (apt, .inl (kpt, 2, .inl xpt))]) hD hS hA [2, 3, 4, 5] rfl
        refine va_callv (va_runV (As := []) (rest := []) ⟨hx, hb, hml, hown, hts⟩ (ct_P_resume l dC dI aP apr apw apt kpr kpw kpt H.size xpr xpw xpt xpc xrn xca xst xps v62 hv) (cwV 0 hts gX1_control_X2_resume rfl rfl rfl (by decide +kernel) ⟨Nat.le_of_ble_eq_true rfl, Nat.le_of_ble_eq_true rfl⟩) ⟨fun a U g mk q => by obtain ⟨q0, q1, qP, qK, qD⟩ := q; exact ⟨q0, q1, qP, va_K.moved (u := U) (U := U.calling g mk a) (Vm.Alike.refl U.vm) qK, qD⟩, va_recv (ci := 2) (q0 := 2) hK hP rfl rfl, fun U hU hW => ⟨rfl, by rw [hU], by rw [hU]; exact hPc, va_K.moved hW.alike hKc, hDc.weaken (fun _ _ _ _ => trivial)⟩⟩ rfl rfl hl.1 rfl (lv_room (Nat.le_of_ble_eq_true rfl)) dX1_control_62 ⟨Nat.zero_le _, Nat.zero_le _⟩) hS (fun q _ h => hFc q h) hFc (fun u t H locs ht hvm hw hB hz1 hk1 hS => ?_)
        obtain rfl := pr_0 hw
        obtain ⟨hP1, hD1⟩ := hB
        rw [ht] at hP1
        obtain ⟨hP, hD⟩ := va_join (wr := [(aB, .inr (1, [.ref aP, .ref aba, .int xbs, .int xbd, .int xbe, .int xbx])), (aba, .inl (kba, 4, .inl xba))]) (w1 := [(aP, .inr (2, [.ref apr, .ref apw, .ref apt, .int xpc, .int v62.1, .int xca, .int xst, .int v62.2])), (apr, .inl (kpr, 8, .inl xpr)), (apw, .inl (kpw, 64, .inl xpw)), (apt, .inl (kpt, 2, .inl xpt))]) hP hD [2, 3, 4, 5] [0, 1] rfl rfl (by decide) (by decide) hk1 hFc hP1 hD1
        have hP : va_P (dC, dI) vwCl [(aB, .inr (1, [.ref aP, .ref aba, .int xbs, .int xbd, .int xbe, .int xbx])), (aba, .inl (kba, 4, .inl xba)), (aP, .inr (2, [.ref apr, .ref apw, .ref apt, .int xpc, .int v62.1, .int xca, .int xst, .int v62.2])), (apr, .inl (kpr, 8, .inl xpr)), (apw, .inl (kpw, 64, .inl xpw)), (apt, .inl (kpt, 2, .inl xpt))] H := hP
        have hD : va_D A [(aB, .inr (1, [.ref aP, .ref aba, .int xbs, .int xbd, .int xbe, .int xbx])), (aba, .inl (kba, 4, .inl xba)), (aP, .inr (2, [.ref apr, .ref apw, .ref apt, .int xpc, .int v62.1, .int xca, .int xst, .int v62.2])), (apr, .inl (kpr, 8, .inl xpr)), (apw, .inl (kpw, 64, .inl xpw)), (apt, .inl (kpt, 2, .inl xpt))] := hD
        refine lv_aload_n hx hb dX1_control_65 rfl (lv_at hl 0 rfl) ?_
        refine va_get (D := (dC, dI)) (ci := 1) (v := .int xbs) (C := RX1) (T := TX1) (N := 6) hx hb hts hinX1 hown hK hP 0 rfl rfl 2 (by decide) hf15 (fun _ h9 => h9) rfl dX1_control_66 ?_
        refine lv_if_eq (tgt := 90) hx hb dX1_control_69 (by decide) (fun hc => ?_) (fun hc => ?_)
        · have h := if_y h hc
          exact W.vret hx hb hr (fun t ht hW => ⟨⟨(xbs, xpr, xpw, xpc, v62.1, xca, xst, v62.2), rfl, h, by rw [ht]; exact hP, hD⟩, hS.F ht⟩) hS.2.2 dX1_control_90
        · have h := if_n h hc
          refine lv_aload_n hx hb dX1_control_72 rfl (lv_at hl 0 rfl) ?_
          refine va_get (D := (dC, dI)) (ci := 1) (v := .ref aP) (C := RX1) (T := TX1) (N := 6) hx hb hts hinX1 hown hK hP 0 rfl rfl 0 (by decide) hf29 (fun _ h9 => h9) rfl dX1_control_73 ?_
          obtain ⟨v76, hv, h⟩ := bn_ex h
          have hPc := hP.sub (ws' := [(aP, .inr (2, [.ref apr, .ref apw, .ref apt, .int xpc, .int v62.1, .int xca, .int xst, .int v62.2])), (apr, .inl (kpr, 8, .inl xpr)), (apw, .inl (kpw, 64, .inl xpw)), (apt, .inl (kpt, 2, .inl xpt))]) [2, 3, 4, 5] rfl
          have hDc := hD.sub (ws' := [(aP, .inr (2, [.ref apr, .ref apw, .ref apt, .int xpc, .int v62.1, .int xca, .int xst, .int v62.2])), (apr, .inl (kpr, 8, .inl xpr)), (apw, .inl (kpw, 64, .inl xpw)), (apt, .inl (kpt, 2, .inl xpt))]) [2, 3, 4, 5] (by decide) rfl
          have hKc := hK.sub (tys' := [(kpr, .int), (kpw, .int), (kpt, .int)]) [1, 2, 3] rfl
          have hFc := va_free (wc := [(aP, .inr (2, [.ref apr, .ref apw, .ref apt, .int xpc, .int v62.1, .int xca, .int xst, .int v62.2])), (apr, .inl (kpr, 8, .inl xpr)), (apw, .inl (kpw, 64, .inl xpw)), (apt, .inl (kpt, 2, .inl xpt))]) hD hS hA [2, 3, 4, 5] rfl
          refine va_calli (va_runV (As := []) (rest := []) ⟨hx, hb, hml, hown, hts⟩ (ct_P_advance l dC dI aP apr apw apt kpr kpw kpt H.size xpr xpw xpt xpc v62.1 xca xst v62.2 v76 hv) (cwV 0 hts gX1_control_X2_advance rfl rfl rfl (by decide +kernel) ⟨Nat.le_of_ble_eq_true rfl, Nat.le_of_ble_eq_true rfl⟩) ⟨fun a U g mk q => by obtain ⟨q0, q1, qP, qK, qD⟩ := q; exact ⟨q0, q1, qP, va_K.moved (u := U) (U := U.calling g mk a) (Vm.Alike.refl U.vm) qK, qD⟩, va_recv (ci := 2) (q0 := 2) hK hP rfl rfl, fun U hU hW => ⟨rfl, by rw [hU], by rw [hU]; exact hPc, va_K.moved hW.alike hKc, hDc.weaken (fun _ _ _ _ => trivial)⟩⟩ rfl rfl hl.1 rfl (lv_room (Nat.le_of_ble_eq_true rfl)) dX1_control_76 ⟨Nat.zero_le _, Nat.zero_le _⟩) hS (fun q _ h => hFc q h) hFc (fun r u t H locs ht hvm hw hB hz1 hk1 hS => ?_)
          obtain ⟨rfl, rfl⟩ := pr_2 hw
          obtain ⟨hP1, hD1⟩ := hB
          rw [ht] at hP1
          obtain ⟨hP, hD⟩ := va_join (wr := [(aB, .inr (1, [.ref aP, .ref aba, .int xbs, .int xbd, .int xbe, .int xbx])), (aba, .inl (kba, 4, .inl xba))]) (w1 := [(aP, .inr (2, [.ref apr, .ref apw, .ref apt, .int v76.2.2.2.1, .int v76.2.2.2.2.1, .int v76.2.2.2.2.2.1, .int v76.2.2.2.2.2.2.1, .int v76.2.2.2.2.2.2.2])), (apr, .inl (kpr, 8, .inl v76.2.1)), (apw, .inl (kpw, 64, .inl v76.2.2.1)), (apt, .inl (kpt, 2, .inl xpt))]) hP hD [2, 3, 4, 5] [0, 1] rfl rfl (by decide) (by decide) hk1 hFc hP1 hD1
          have hP : va_P (dC, dI) vwCl [(aB, .inr (1, [.ref aP, .ref aba, .int xbs, .int xbd, .int xbe, .int xbx])), (aba, .inl (kba, 4, .inl xba)), (aP, .inr (2, [.ref apr, .ref apw, .ref apt, .int v76.2.2.2.1, .int v76.2.2.2.2.1, .int v76.2.2.2.2.2.1, .int v76.2.2.2.2.2.2.1, .int v76.2.2.2.2.2.2.2])), (apr, .inl (kpr, 8, .inl v76.2.1)), (apw, .inl (kpw, 64, .inl v76.2.2.1)), (apt, .inl (kpt, 2, .inl xpt))] H := hP
          have hD : va_D A [(aB, .inr (1, [.ref aP, .ref aba, .int xbs, .int xbd, .int xbe, .int xbx])), (aba, .inl (kba, 4, .inl xba)), (aP, .inr (2, [.ref apr, .ref apw, .ref apt, .int v76.2.2.2.1, .int v76.2.2.2.2.1, .int v76.2.2.2.2.2.1, .int v76.2.2.2.2.2.2.1, .int v76.2.2.2.2.2.2.2])), (apr, .inl (kpr, 8, .inl v76.2.1)), (apw, .inl (kpw, 64, .inl v76.2.2.1)), (apt, .inl (kpt, 2, .inl xpt))] := hD
          refine lv_if_eq (tgt := 90) hx hb dX1_control_79 (by decide) (fun hc => ?_) (fun hc => ?_)
          · have h := if_y h hc
            exact W.vret hx hb hr (fun t ht hW => ⟨⟨(xbs, v76.2.1, v76.2.2.1, v76.2.2.2.1, v76.2.2.2.2.1, v76.2.2.2.2.2.1, v76.2.2.2.2.2.2.1, v76.2.2.2.2.2.2.2), rfl, h, by rw [ht]; exact hP, hD⟩, hS.F ht⟩) hS.2.2 dX1_control_90
          · have h := if_n h hc
            refine lv_aload_n hx hb dX1_control_82 rfl (lv_at hl 0 rfl) ?_
            refine va_get (D := (dC, dI)) (ci := 1) (v := .ref aP) (C := RX1) (T := TX1) (N := 6) hx hb hts hinX1 hown hK hP 0 rfl rfl 0 (by decide) hf29 (fun _ h9 => h9) rfl dX1_control_83 ?_
            refine lv_iconst (v := (4 : Int32)) hx hb dX1_control_86 (by decide) ?_
            obtain ⟨v87, hv, h⟩ := bn_ex h
            have hPc := hP.sub (ws' := [(aP, .inr (2, [.ref apr, .ref apw, .ref apt, .int v76.2.2.2.1, .int v76.2.2.2.2.1, .int v76.2.2.2.2.2.1, .int v76.2.2.2.2.2.2.1, .int v76.2.2.2.2.2.2.2])), (apr, .inl (kpr, 8, .inl v76.2.1)), (apw, .inl (kpw, 64, .inl v76.2.2.1)), (apt, .inl (kpt, 2, .inl xpt))]) [2, 3, 4, 5] rfl
            have hDc := hD.sub (ws' := [(aP, .inr (2, [.ref apr, .ref apw, .ref apt, .int v76.2.2.2.1, .int v76.2.2.2.2.1, .int v76.2.2.2.2.2.1, .int v76.2.2.2.2.2.2.1, .int v76.2.2.2.2.2.2.2])), (apr, .inl (kpr, 8, .inl v76.2.1)), (apw, .inl (kpw, 64, .inl v76.2.2.1)), (apt, .inl (kpt, 2, .inl xpt))]) [2, 3, 4, 5] (by decide) rfl
            have hKc := hK.sub (tys' := [(kpr, .int), (kpw, .int), (kpt, .int)]) [1, 2, 3] rfl
            have hFc := va_free (wc := [(aP, .inr (2, [.ref apr, .ref apw, .ref apt, .int v76.2.2.2.1, .int v76.2.2.2.2.1, .int v76.2.2.2.2.2.1, .int v76.2.2.2.2.2.2.1, .int v76.2.2.2.2.2.2.2])), (apr, .inl (kpr, 8, .inl v76.2.1)), (apw, .inl (kpw, 64, .inl v76.2.2.1)), (apt, .inl (kpt, 2, .inl xpt))]) hD hS hA [2, 3, 4, 5] rfl
            refine va_callv (va_runV (As := [.int (4 : Int32)]) (rest := []) ⟨hx, hb, hml, hown, hts⟩ (ct_P_halt l dC dI aP apr apw apt kpr kpw kpt H.size v76.2.1 v76.2.2.1 xpt v76.2.2.2.1 v76.2.2.2.2.1 v76.2.2.2.2.2.1 v76.2.2.2.2.2.2.1 v76.2.2.2.2.2.2.2 (4 : Int32) v87 hv) (cwV 1 hts gX1_control_X2_halt rfl rfl rfl (by decide +kernel) ⟨Nat.le_of_ble_eq_true rfl, Nat.le_of_ble_eq_true rfl⟩) ⟨fun a U g mk q => by obtain ⟨q0, q1, qP, qK, qD⟩ := q; exact ⟨q0, q1, qP, va_K.moved (u := U) (U := U.calling g mk a) (Vm.Alike.refl U.vm) qK, qD⟩, va_recv (ci := 2) (q0 := 2) hK hP rfl rfl, fun U hU hW => ⟨rfl, by rw [hU], by rw [hU]; exact hPc, va_K.moved hW.alike hKc, hDc.weaken (fun _ _ _ _ => trivial)⟩⟩ rfl rfl hl.1 rfl (lv_room (Nat.le_of_ble_eq_true rfl)) dX1_control_87 ⟨Nat.zero_le _, Nat.zero_le _⟩) hS (fun q _ h => hFc q h) hFc (fun u t H locs ht hvm hw hB hz1 hk1 hS => ?_)
            obtain rfl := pr_0 hw
            obtain ⟨hP1, hD1⟩ := hB
            rw [ht] at hP1
            obtain ⟨hP, hD⟩ := va_join (wr := [(aB, .inr (1, [.ref aP, .ref aba, .int xbs, .int xbd, .int xbe, .int xbx])), (aba, .inl (kba, 4, .inl xba))]) (w1 := [(aP, .inr (2, [.ref apr, .ref apw, .ref apt, .int v76.2.2.2.1, .int v87.1, .int v87.2, .int v76.2.2.2.2.2.2.1, .int v76.2.2.2.2.2.2.2])), (apr, .inl (kpr, 8, .inl v76.2.1)), (apw, .inl (kpw, 64, .inl v76.2.2.1)), (apt, .inl (kpt, 2, .inl xpt))]) hP hD [2, 3, 4, 5] [0, 1] rfl rfl (by decide) (by decide) hk1 hFc hP1 hD1
            have hP : va_P (dC, dI) vwCl [(aB, .inr (1, [.ref aP, .ref aba, .int xbs, .int xbd, .int xbe, .int xbx])), (aba, .inl (kba, 4, .inl xba)), (aP, .inr (2, [.ref apr, .ref apw, .ref apt, .int v76.2.2.2.1, .int v87.1, .int v87.2, .int v76.2.2.2.2.2.2.1, .int v76.2.2.2.2.2.2.2])), (apr, .inl (kpr, 8, .inl v76.2.1)), (apw, .inl (kpw, 64, .inl v76.2.2.1)), (apt, .inl (kpt, 2, .inl xpt))] H := hP
            have hD : va_D A [(aB, .inr (1, [.ref aP, .ref aba, .int xbs, .int xbd, .int xbe, .int xbx])), (aba, .inl (kba, 4, .inl xba)), (aP, .inr (2, [.ref apr, .ref apw, .ref apt, .int v76.2.2.2.1, .int v87.1, .int v87.2, .int v76.2.2.2.2.2.2.1, .int v76.2.2.2.2.2.2.2])), (apr, .inl (kpr, 8, .inl v76.2.1)), (apw, .inl (kpw, 64, .inl v76.2.2.1)), (apt, .inl (kpt, 2, .inl xpt))] := hD
            exact W.vret hx hb hr (fun t ht hW => ⟨⟨(xbs, v76.2.1, v76.2.2.1, v76.2.2.2.1, v87.1, v87.2, v76.2.2.2.2.2.2.1, v76.2.2.2.2.2.2.2), rfl, h, by rw [ht]; exact hP, hD⟩, hS.F ht⟩) hS.2.2 dX1_control_90
  have k_12 : ∀ (H : Heap) (locs : List Loc) (ls : Array Slot) (xbs : Int32) (xpr : (Nat → Int32)) (xpw : (Nat → Int32)) (xpc : Int32) (xrn : Int32) (xca : Int32) (xst : Int32) (xps : Int32) (z1 : Int32) (w1 : Int32), va_P (dC, dI) vwCl [(aB, .inr (1, [.ref aP, .ref aba, .int xbs, .int xbd, .int xbe, .int xbx])), (aba, .inl (kba, 4, .inl xba)), (aP, .inr (2, [.ref apr, .ref apw, .ref apt, .int xpc, .int xrn, .int xca, .int xst, .int xps])), (apr, .inl (kpr, 8, .inl xpr)), (apw, .inl (kpw, 64, .inl xpw)), (apt, .inl (kpt, 2, .inl xpt))] H → va_D A [(aB, .inr (1, [.ref aP, .ref aba, .int xbs, .int xbd, .int xbe, .int xbx])), (aba, .inl (kba, 4, .inl xba)), (aP, .inr (2, [.ref apr, .ref apw, .ref apt, .int xpc, .int xrn, .int xca, .int xst, .int xps])), (apr, .inl (kpr, 8, .inl xpr)), (apw, .inl (kpw, 64, .inl xpw)), (apt, .inl (kpt, 2, .inl xpt))] → va_S A s.heap H locs → lv_has ls 2 [(0, .ref aB), (1, .int z1)] → fn_B_control_J12 xbs xpr xpw xpt xpc xrn xca xst xps z1 w1 = some o → W p l e (headSpec wsX1_control ({ frames := 2, cells := 0, slots := 0, locals := 47 })).room s m ([.ref aB, .int j1] : List Value).toArray below meth c H locs 0 0 (MQ below (va_Qv (fun (u : Int32 × (Nat → Int32) × (Nat → Int32) × Int32 × Int32 × Int32 × Int32 × Int32) => some u = some o) (fun (u : Int32 × (Nat → Int32) × (Nat → Int32) × Int32 × Int32 × Int32 × Int32 × Int32) (t : State) => va_P (dC, dI) vwCl [(aB, .inr (1, [.ref aP, .ref aba, .int u.1, .int xbd, .int xbe, .int xbx])), (aba, .inl (kba, 4, .inl xba)), (aP, .inr (2, [.ref apr, .ref apw, .ref apt, .int u.2.2.2.1, .int u.2.2.2.2.1, .int u.2.2.2.2.2.1, .int u.2.2.2.2.2.2.1, .int u.2.2.2.2.2.2.2])), (apr, .inl (kpr, 8, .inl u.2.1)), (apw, .inl (kpw, 64, .inl u.2.2.1)), (apt, .inl (kpt, 2, .inl xpt))] t.heap ∧ va_D A [(aB, .inr (1, [.ref aP, .ref aba, .int u.1, .int xbd, .int xbe, .int xbx])), (aba, .inl (kba, 4, .inl xba)), (aP, .inr (2, [.ref apr, .ref apw, .ref apt, .int u.2.2.2.1, .int u.2.2.2.2.1, .int u.2.2.2.2.2.1, .int u.2.2.2.2.2.2.1, .int u.2.2.2.2.2.2.2])), (apr, .inl (kpr, 8, .inl u.2.1)), (apw, .inl (kpw, 64, .inl u.2.2.1)), (apt, .inl (kpt, 2, .inl xpt))]) A) ([.ref aB, .int j1] : List Value).toArray s 0 0 A) (F0 m 12 ls [.int w1, .ref aB]) := by
    intro H locs ls xbs xpr xpw xpc xrn xca xst xps z1 w1 hP hD hS hl h
    unfold fn_B_control_J12 at h
    obtain ⟨hz, h⟩ := ckb_in h
    refine va_put (D := (dC, dI)) (ci := 1) (v := .int w1) (ty := .boolean) (C := RX1) (T := TX1) (N := 6) hx hb hts hinX1 tyX1 tyX1_ok nmX1 hown hK hP hD hS 0 rfl rfl 2 (by decide) hf15 (fun _ h9 => h9) rfl (by decide +kernel) (kb_n hz) (kb_f hz) (Nat.le_of_ble_eq_true rfl) dX1_control_12 (fun H locs hP hD hS => ?_)
    have hP : va_P (dC, dI) vwCl [(aB, .inr (1, [.ref aP, .ref aba, .int w1, .int xbd, .int xbe, .int xbx])), (aba, .inl (kba, 4, .inl xba)), (aP, .inr (2, [.ref apr, .ref apw, .ref apt, .int xpc, .int xrn, .int xca, .int xst, .int xps])), (apr, .inl (kpr, 8, .inl xpr)), (apw, .inl (kpw, 64, .inl xpw)), (apt, .inl (kpt, 2, .inl xpt))] H := hP
    have hD : va_D A [(aB, .inr (1, [.ref aP, .ref aba, .int w1, .int xbd, .int xbe, .int xbx])), (aba, .inl (kba, 4, .inl xba)), (aP, .inr (2, [.ref apr, .ref apw, .ref apt, .int xpc, .int xrn, .int xca, .int xst, .int xps])), (apr, .inl (kpr, 8, .inl xpr)), (apw, .inl (kpw, 64, .inl xpw)), (apt, .inl (kpt, 2, .inl xpt))] := hD
    refine lv_iload_n hx hb dX1_control_15 rfl (lv_at hl 1 rfl) ?_
    refine lv_iconst (v := (1 : Int32)) hx hb dX1_control_16 (by decide) ?_
    refine lv_iand hx hb dX1_control_17 ?_
    refine lv_if_eq (tgt := 42) hx hb dX1_control_18 (by decide) (fun hc => ?_) (fun hc => ?_)
    · have h := if_y h hc
      exact k_42 _ _ _ _ _ _ _ _ _ _ _ _ hP hD hS hl h
    · have h := if_n h hc
      refine lv_aload_n hx hb dX1_control_21 rfl (lv_at hl 0 rfl) ?_
      refine va_get (D := (dC, dI)) (ci := 1) (v := .ref aP) (C := RX1) (T := TX1) (N := 6) hx hb hts hinX1 hown hK hP 0 rfl rfl 0 (by decide) hf29 (fun _ h9 => h9) rfl dX1_control_22 ?_
      refine va_get (D := (dC, dI)) (ci := 2) (v := .int xrn) (C := RX2) (T := TX2) (N := 8) hx hb hts hinX2 hown hK hP 2 rfl rfl 4 (by decide) hf59 (fun _ h9 => h9) rfl dX1_control_25 ?_
      refine lv_if_eq (tgt := 42) hx hb dX1_control_28 (by decide) (fun hc => ?_) (fun hc => ?_)
      · have h := if_y h hc
        exact k_42 _ _ _ _ _ _ _ _ _ _ _ _ hP hD hS hl h
      · have h := if_n h hc
        refine lv_aload_n hx hb dX1_control_31 rfl (lv_at hl 0 rfl) ?_
        refine va_get (D := (dC, dI)) (ci := 1) (v := .ref aP) (C := RX1) (T := TX1) (N := 6) hx hb hts hinX1 hown hK hP 0 rfl rfl 0 (by decide) hf29 (fun _ h9 => h9) rfl dX1_control_32 ?_
        refine lv_iconst (v := (3 : Int32)) hx hb dX1_control_35 (by decide) ?_
        obtain ⟨v36, hv, h⟩ := bn_ex h
        have hPc := hP.sub (ws' := [(aP, .inr (2, [.ref apr, .ref apw, .ref apt, .int xpc, .int xrn, .int xca, .int xst, .int xps])), (apr, .inl (kpr, 8, .inl xpr)), (apw, .inl (kpw, 64, .inl xpw)), (apt, .inl (kpt, 2, .inl xpt))]) [2, 3, 4, 5] rfl
        have hDc := hD.sub (ws' := [(aP, .inr (2, [.ref apr, .ref apw, .ref apt, .int xpc, .int xrn, .int xca, .int xst, .int xps])), (apr, .inl (kpr, 8, .inl xpr)), (apw, .inl (kpw, 64, .inl xpw)), (apt, .inl (kpt, 2, .inl xpt))]) [2, 3, 4, 5] (by decide) rfl
        have hKc := hK.sub (tys' := [(kpr, .int), (kpw, .int), (kpt, .int)]) [1, 2, 3] rfl
        have hFc := va_free (wc := [(aP, .inr (2, [.ref apr, .ref apw, .ref apt, .int xpc, .int xrn, .int xca, .int xst, .int xps])), (apr, .inl (kpr, 8, .inl xpr)), (apw, .inl (kpw, 64, .inl xpw)), (apt, .inl (kpt, 2, .inl xpt))]) hD hS hA [2, 3, 4, 5] rfl
        refine va_callv (va_runV (As := [.int (3 : Int32)]) (rest := []) ⟨hx, hb, hml, hown, hts⟩ (ct_P_halt l dC dI aP apr apw apt kpr kpw kpt H.size xpr xpw xpt xpc xrn xca xst xps (3 : Int32) v36 hv) (cwV 1 hts gX1_control_X2_halt rfl rfl rfl (by decide +kernel) ⟨Nat.le_of_ble_eq_true rfl, Nat.le_of_ble_eq_true rfl⟩) ⟨fun a U g mk q => by obtain ⟨q0, q1, qP, qK, qD⟩ := q; exact ⟨q0, q1, qP, va_K.moved (u := U) (U := U.calling g mk a) (Vm.Alike.refl U.vm) qK, qD⟩, va_recv (ci := 2) (q0 := 2) hK hP rfl rfl, fun U hU hW => ⟨rfl, by rw [hU], by rw [hU]; exact hPc, va_K.moved hW.alike hKc, hDc.weaken (fun _ _ _ _ => trivial)⟩⟩ rfl rfl hl.1 rfl (lv_room (Nat.le_of_ble_eq_true rfl)) dX1_control_36 ⟨Nat.zero_le _, Nat.zero_le _⟩) hS (fun q _ h => hFc q h) hFc (fun u t H locs ht hvm hw hB hz1 hk1 hS => ?_)
        obtain rfl := pr_0 hw
        obtain ⟨hP1, hD1⟩ := hB
        rw [ht] at hP1
        obtain ⟨hP, hD⟩ := va_join (wr := [(aB, .inr (1, [.ref aP, .ref aba, .int w1, .int xbd, .int xbe, .int xbx])), (aba, .inl (kba, 4, .inl xba))]) (w1 := [(aP, .inr (2, [.ref apr, .ref apw, .ref apt, .int xpc, .int v36.1, .int v36.2, .int xst, .int xps])), (apr, .inl (kpr, 8, .inl xpr)), (apw, .inl (kpw, 64, .inl xpw)), (apt, .inl (kpt, 2, .inl xpt))]) hP hD [2, 3, 4, 5] [0, 1] rfl rfl (by decide) (by decide) hk1 hFc hP1 hD1
        have hP : va_P (dC, dI) vwCl [(aB, .inr (1, [.ref aP, .ref aba, .int w1, .int xbd, .int xbe, .int xbx])), (aba, .inl (kba, 4, .inl xba)), (aP, .inr (2, [.ref apr, .ref apw, .ref apt, .int xpc, .int v36.1, .int v36.2, .int xst, .int xps])), (apr, .inl (kpr, 8, .inl xpr)), (apw, .inl (kpw, 64, .inl xpw)), (apt, .inl (kpt, 2, .inl xpt))] H := hP
        have hD : va_D A [(aB, .inr (1, [.ref aP, .ref aba, .int w1, .int xbd, .int xbe, .int xbx])), (aba, .inl (kba, 4, .inl xba)), (aP, .inr (2, [.ref apr, .ref apw, .ref apt, .int xpc, .int v36.1, .int v36.2, .int xst, .int xps])), (apr, .inl (kpr, 8, .inl xpr)), (apw, .inl (kpw, 64, .inl xpw)), (apt, .inl (kpt, 2, .inl xpt))] := hD
        refine lv_goto (tgt := 90) hx hb dX1_control_39 (by decide) ?_
        exact W.vret hx hb hr (fun t ht hW => ⟨⟨(w1, xpr, xpw, xpc, v36.1, v36.2, xst, xps), rfl, h, by rw [ht]; exact hP, hD⟩, hS.F ht⟩) hS.2.2 dX1_control_90
  have hl := lv_entry ([.ref aB, .int j1]) (n := 2) (Nat.le_of_ble_eq_true rfl)
  rw [lg_entry_eq]
  generalize (lg_sl ([.ref aB, .int j1]) ++ List.replicate (2 - (lg_sl ([.ref aB, .int j1])).length) Slot.unset).toArray = ls at hl ⊢
  have hl : lv_has ls 2 [(0, .ref aB), (1, .int j1)] := hl
  unfold fn_B_control at h
  refine lv_aload_n hx hb dX1_control_0 rfl (lv_at hl 0 rfl) ?_
  refine lv_iload_n hx hb dX1_control_1 rfl (lv_at hl 1 rfl) ?_
  refine lv_iconst (v := (4 : Int32)) hx hb dX1_control_2 (by decide) ?_
  refine lv_iand hx hb dX1_control_3 ?_
  refine lv_if_eq (tgt := 11) hx hb dX1_control_4 (by decide) (fun hc => ?_) (fun hc => ?_)
  · have h := if_y h hc
    refine lv_iconst (v := (0 : Int32)) hx hb dX1_control_11 (by decide) ?_
    exact k_12 _ _ _ _ _ _ _ _ _ _ _ _ _ hP hD hS hl h
  · have h := if_n h hc
    refine lv_iconst (v := (1 : Int32)) hx hb dX1_control_7 (by decide) ?_
    refine lv_goto (tgt := 12) hx hb dX1_control_8 (by decide) ?_
    exact k_12 _ _ _ _ _ _ _ _ _ _ _ _ _ hP hD hS hl h
set_option maxHeartbeats 4000000 in
set_option maxRecDepth 100000 in
theorem ct_B_doProgram (l : Launch) (dC : Nat → ClassId) (dI : Nat → Nat → Nat) (aB aba aP apr apw apt : Nat) (kba kpr kpw kpt : ClassId) (sz : Nat) (xba : (Nat → Int32)) (xbs : Int32) (xbd : Int32) (xbe : Int32) (xbx : Int32) (xpr : (Nat → Int32)) (xpw : (Nat → Int32)) (xpt : (Nat → Int32)) (xpc : Int32) (xrn : Int32) (xca : Int32) (xst : Int32) (xps : Int32) (o : Int32 × (Nat → Int32) × (Nat → Int32)) (h : fn_B_doProgram xba xbe xpr xpw = some o) : Met l yX1_doProgram wsX1_doProgram ({ frames := 1, cells := 0, slots := 0, locals := 25 }) (va_Pc [.ref aB] (fun U => U.heap.size = sz ∧ va_P (dC, dI) vwCl [(aB, .inr (1, [.ref aP, .ref aba, .int xbs, .int xbd, .int xbe, .int xbx])), (aba, .inl (kba, 4, .inl xba)), (aP, .inr (2, [.ref apr, .ref apw, .ref apt, .int xpc, .int xrn, .int xca, .int xst, .int xps])), (apr, .inl (kpr, 8, .inl xpr)), (apw, .inl (kpw, 64, .inl xpw)), (apt, .inl (kpt, 2, .inl xpt))] U.heap ∧ va_K (dC, dI) vwCl [(kba, .int), (kpr, .int), (kpw, .int), (kpt, .int)] U ∧ va_D (fun _ => True) [(aB, .inr (1, [.ref aP, .ref aba, .int xbs, .int xbd, .int xbe, .int xbx])), (aba, .inl (kba, 4, .inl xba)), (aP, .inr (2, [.ref apr, .ref apw, .ref apt, .int xpc, .int xrn, .int xca, .int xst, .int xps])), (apr, .inl (kpr, 8, .inl xpr)), (apw, .inl (kpw, 64, .inl xpw)), (apt, .inl (kpt, 2, .inl xpt))])) (va_Qv (fun (u : Int32 × (Nat → Int32) × (Nat → Int32)) => some u = some o) (fun (u : Int32 × (Nat → Int32) × (Nat → Int32)) (t : State) => va_P (dC, dI) vwCl [(aB, .inr (1, [.ref aP, .ref aba, .int xbs, .int xbd, .int u.1, .int xbx])), (aba, .inl (kba, 4, .inl xba)), (aP, .inr (2, [.ref apr, .ref apw, .ref apt, .int xpc, .int xrn, .int xca, .int xst, .int xps])), (apr, .inl (kpr, 8, .inl u.2.1)), (apw, .inl (kpw, 64, .inl u.2.2)), (apt, .inl (kpt, 2, .inl xpt))] t.heap ∧ va_D (va_A [(aB, .inr (1, [.ref aP, .ref aba, .int xbs, .int xbd, .int xbe, .int xbx])), (aba, .inl (kba, 4, .inl xba)), (aP, .inr (2, [.ref apr, .ref apw, .ref apt, .int xpc, .int xrn, .int xca, .int xst, .int xps])), (apr, .inl (kpr, 8, .inl xpr)), (apw, .inl (kpw, 64, .inl xpw)), (apt, .inl (kpt, 2, .inl xpt))] sz) [(aB, .inr (1, [.ref aP, .ref aba, .int xbs, .int xbd, .int u.1, .int xbx])), (aba, .inl (kba, 4, .inl xba)), (aP, .inr (2, [.ref apr, .ref apw, .ref apt, .int xpc, .int xrn, .int xca, .int xst, .int xps])), (apr, .inl (kpr, 8, .inl u.2.1)), (apw, .inl (kpw, 64, .inl u.2.2)), (apt, .inl (kpt, 2, .inl xpt))]) (va_A [(aB, .inr (1, [.ref aP, .ref aba, .int xbs, .int xbd, .int xbe, .int xbx])), (aba, .inl (kba, 4, .inl xba)), (aP, .inr (2, [.ref apr, .ref apw, .ref apt, .int xpc, .int xrn, .int xca, .int xst, .int xps])), (apr, .inl (kpr, 8, .inl xpr)), (apw, .inl (kpw, 64, .inl xpw)), (apt, .inl (kpt, 2, .inl xpt))] sz)) 0 0 (va_A [(aB, .inr (1, [.ref aP, .ref aba, .int xbs, .int xbd, .int xbe, .int xbx])), (aba, .inl (kba, 4, .inl xba)), (aP, .inr (2, [.ref apr, .ref apw, .ref apt, .int xpc, .int xrn, .int xca, .int xst, .int xps])), (apr, .inl (kpr, 8, .inl xpr)), (apw, .inl (kpw, 64, .inl xpw)), (apt, .inl (kpt, 2, .inl xpt))] sz) := by
  refine Met.ofW (cc := cX1_doProgram) (maxL := 3) (ret := none) (by decide) rfl ?_
  intro p e s m args below meth c s₁ B hml hv
  obtain ⟨rfl, hsz, hP, hK, hD0⟩ := hv
  have hx := B.exec
  have hb := B.bytes
  have hr := B.returns
  have hts := atoms_spec (ws := wsX1_doProgram) B.pre
  have hown : s.vm.findClass RX1 = some m.cls := findClass_of_methodNamed B.named
  have hlocks := B.notSynchronized
  subst hsz
  have hD := hD0.self (sz := s.heap.size)
  generalize hAe : va_A [(aB, .inr (1, [.ref aP, .ref aba, .int xbs, .int xbd, .int xbe, .int xbx])), (aba, .inl (kba, 4, .inl xba)), (aP, .inr (2, [.ref apr, .ref apw, .ref apt, .int xpc, .int xrn, .int xca, .int xst, .int xps])), (apr, .inl (kpr, 8, .inl xpr)), (apw, .inl (kpw, 64, .inl xpw)), (apt, .inl (kpt, 2, .inl xpt))] s.heap.size = A at hD ⊢
  have hA : ∀ q : Nat, s.heap.size ≤ q → A q := fun q h => by rw [← hAe]; exact Or.inr h
  have hS : va_S A s.heap s.heap [] := va_S.rf
  have hP : va_P (dC, dI) vwCl [(aB, .inr (1, [.ref aP, .ref aba, .int xbs, .int xbd, .int xbe, .int xbx])), (aba, .inl (kba, 4, .inl xba)), (aP, .inr (2, [.ref apr, .ref apw, .ref apt, .int xpc, .int xrn, .int xca, .int xst, .int xps])), (apr, .inl (kpr, 8, .inl xpr)), (apw, .inl (kpw, 64, .inl xpw)), (apt, .inl (kpt, 2, .inl xpt))] s.heap := hP
  have hf11 := hts (.fieldLink RX1 11 "ProbeBench$Probe" "program" "[I") (by decide +kernel)
  have hf23 := hts (.fieldLink RX1 23 "ProbeBench$Probe" "error" "I") (by decide +kernel)
  have hf29 := hts (.fieldLink RX1 29 "ProbeBench$Probe" "processor" "LProbeBench$Processor;") (by decide +kernel)
  have hinX1 : ∀ w ∈ u_ws RX1 TX1 6, w ∈ wsX1_doProgram := by decide +kernel
  have k_2 : ∀ (n : Nat), ∀ (H : Heap) (locs : List Loc) (ls : Array Slot) (xbe : Int32) (xpr : (Nat → Int32)) (xpw : (Nat → Int32)) (z1 : Int32), va_P (dC, dI) vwCl [(aB, .inr (1, [.ref aP, .ref aba, .int xbs, .int xbd, .int xbe, .int xbx])), (aba, .inl (kba, 4, .inl xba)), (aP, .inr (2, [.ref apr, .ref apw, .ref apt, .int xpc, .int xrn, .int xca, .int xst, .int xps])), (apr, .inl (kpr, 8, .inl xpr)), (apw, .inl (kpw, 64, .inl xpw)), (apt, .inl (kpt, 2, .inl xpt))] H → va_D A [(aB, .inr (1, [.ref aP, .ref aba, .int xbs, .int xbd, .int xbe, .int xbx])), (aba, .inl (kba, 4, .inl xba)), (aP, .inr (2, [.ref apr, .ref apw, .ref apt, .int xpc, .int xrn, .int xca, .int xst, .int xps])), (apr, .inl (kpr, 8, .inl xpr)), (apw, .inl (kpw, 64, .inl xpw)), (apt, .inl (kpt, 2, .inl xpt))] → va_S A s.heap H locs → lv_has ls 3 [(0, .ref aB), (1, .int z1)] → fn_B_doProgram_L2 n xba xbe xpr xpw z1 = some o → W p l e (headSpec wsX1_doProgram ({ frames := 1, cells := 0, slots := 0, locals := 25 })).room s m ([.ref aB] : List Value).toArray below meth c H locs 0 0 (MQ below (va_Qv (fun (u : Int32 × (Nat → Int32) × (Nat → Int32)) => some u = some o) (fun (u : Int32 × (Nat → Int32) × (Nat → Int32)) (t : State) => va_P (dC, dI) vwCl [(aB, .inr (1, [.ref aP, .ref aba, .int xbs, .int xbd, .int u.1, .int xbx])), (aba, .inl (kba, 4, .inl xba)), (aP, .inr (2, [.ref apr, .ref apw, .ref apt, .int xpc, .int xrn, .int xca, .int xst, .int xps])), (apr, .inl (kpr, 8, .inl u.2.1)), (apw, .inl (kpw, 64, .inl u.2.2)), (apt, .inl (kpt, 2, .inl xpt))] t.heap ∧ va_D A [(aB, .inr (1, [.ref aP, .ref aba, .int xbs, .int xbd, .int u.1, .int xbx])), (aba, .inl (kba, 4, .inl xba)), (aP, .inr (2, [.ref apr, .ref apw, .ref apt, .int xpc, .int xrn, .int xca, .int xst, .int xps])), (apr, .inl (kpr, 8, .inl u.2.1)), (apw, .inl (kpw, 64, .inl u.2.2)), (apt, .inl (kpt, 2, .inl xpt))]) A) ([.ref aB] : List Value).toArray s 0 0 A) (F0 m 2 ls []) := by
    intro n
    induction n with
    | zero =>
      intro H locs ls xbe xpr xpw z1 hP hD hS hl h
      exact (no_ne h).elim
    | succ n ih =>
      intro H locs ls xbe xpr xpw z1 hP hD hS hl h
      have h : fn_B_doProgram_B2 (fn_B_doProgram_L2 n) xba xbe xpr xpw z1 = some o := h
      unfold fn_B_doProgram_B2 at h
      refine lv_iload_n hx hb dX1_doProgram_2 rfl (lv_at hl 1 rfl) ?_
      refine lv_aload_n hx hb dX1_doProgram_3 rfl (lv_at hl 0 rfl) ?_
      refine va_get (D := (dC, dI)) (ci := 1) (v := .ref aba) (C := RX1) (T := TX1) (N := 6) hx hb hts hinX1 hown hK hP 0 rfl rfl 1 (by decide) hf11 (fun _ h9 => h9) rfl dX1_doProgram_4 ?_
      refine va_alen (v := (4 : Int32)) hx hb hK hP 1 0 rfl rfl rfl dX1_doProgram_7 ?_
      refine lv_icmp_ge (tgt := 55) hx hb dX1_doProgram_8 (by decide) (fun hc => ?_) (fun hc => ?_)
      · have h := if_y h hc
        exact W.vret hx hb hr (fun t ht hW => ⟨⟨(xbe, xpr, xpw), rfl, h, by rw [ht]; exact hP, hD⟩, hS.F ht⟩) hS.2.2 dX1_doProgram_55
      · have h := if_n h hc
        refine lv_aload_n hx hb dX1_doProgram_11 rfl (lv_at hl 0 rfl) ?_
        refine va_get (D := (dC, dI)) (ci := 1) (v := .ref aba) (C := RX1) (T := TX1) (N := 6) hx hb hts hinX1 hown hK hP 0 rfl rfl 1 (by decide) hf11 (fun _ h9 => h9) rfl dX1_doProgram_12 ?_
        refine lv_iload_n hx hb dX1_doProgram_15 rfl (lv_at hl 1 rfl) ?_
        obtain ⟨hi, h⟩ := ck_in h
        refine va_iald hx hb hK hP 1 0 rfl rfl hi dX1_doProgram_16 ?_
        refine lv_istore_n hx hb dX1_doProgram_17 rfl hl (by decide) rfl (fun ls hl => ?_)
        have hl : lv_has ls 3 [(2, .int (xba (Int32.toNatClampNeg z1))), (0, .ref aB), (1, .int z1)] := hl
        refine lv_iload_n hx hb dX1_doProgram_18 rfl (lv_at hl 0 rfl) ?_
        refine lv_bipush (v := (12 : Int32)) hx hb dX1_doProgram_19 (by decide) ?_
        refine lv_ishr hx hb dX1_doProgram_21 ?_
        refine lv_bipush (v := (10 : Int32)) hx hb dX1_doProgram_22 (by decide) ?_
        refine lv_icmp_ne (tgt := 28) hx hb dX1_doProgram_24 (by decide) (fun hc => ?_) (fun hc => ?_)
        · have h := if_n h hc
          refine lv_iload_n hx hb dX1_doProgram_28 rfl (lv_at hl 0 rfl) ?_
          obtain ⟨v29, hv, h⟩ := bn_ex h
          have hPc := hP.sub (ws' := []) [] rfl
          have hDc := hD.sub (ws' := []) [] (by decide) rfl
          have hKc := hK.sub (tys' := []) [] rfl
          have hFc := va_free (wc := []) hD hS hA [] rfl
          refine va_calli (va_runS (As := [.int (xba (Int32.toNatClampNeg z1))]) (rest := []) ⟨hx, hb, hml, hown, hts⟩ (ct_P_isJump l dC dI  H.size  (xba (Int32.toNatClampNeg z1)) v29 hv) (va_cwS 1 hts gX1_doProgram_X2_isJump rfl rfl rfl (by decide +kernel) ⟨Nat.le_of_ble_eq_true rfl, Nat.le_of_ble_eq_true rfl⟩) ⟨fun a U g mk q => by obtain ⟨q0, q1, qP, qK, qD⟩ := q; exact ⟨q0, q1, qP, va_K.moved (u := U) (U := U.calling g mk a) (Vm.Alike.refl U.vm) qK, qD⟩, fun U hU hW => ⟨rfl, by rw [hU], by rw [hU]; exact hPc, va_K.moved hW.alike hKc, hDc.weaken (fun _ _ _ _ => trivial)⟩⟩ rfl rfl hl.1 rfl (lv_room (Nat.le_of_ble_eq_true rfl)) dX1_doProgram_29 ⟨Nat.zero_le _, Nat.zero_le _⟩) hS (fun q _ h => hFc q h) hFc (fun r u t H locs ht hvm hw hB hz1 hk1 hS => ?_)
          obtain rfl := pr_0 hw
          obtain ⟨hP1, hD1⟩ := hB
          rw [ht] at hP1
          obtain ⟨hP, hD⟩ := va_join (wr := [(aB, .inr (1, [.ref aP, .ref aba, .int xbs, .int xbd, .int xbe, .int xbx])), (aba, .inl (kba, 4, .inl xba)), (aP, .inr (2, [.ref apr, .ref apw, .ref apt, .int xpc, .int xrn, .int xca, .int xst, .int xps])), (apr, .inl (kpr, 8, .inl xpr)), (apw, .inl (kpw, 64, .inl xpw)), (apt, .inl (kpt, 2, .inl xpt))]) (w1 := []) hP hD [] [0, 1, 2, 3, 4, 5] rfl rfl (by decide) (by decide) hk1 hFc hP1 hD1
          have hP : va_P (dC, dI) vwCl [(aB, .inr (1, [.ref aP, .ref aba, .int xbs, .int xbd, .int xbe, .int xbx])), (aba, .inl (kba, 4, .inl xba)), (aP, .inr (2, [.ref apr, .ref apw, .ref apt, .int xpc, .int xrn, .int xca, .int xst, .int xps])), (apr, .inl (kpr, 8, .inl xpr)), (apw, .inl (kpw, 64, .inl xpw)), (apt, .inl (kpt, 2, .inl xpt))] H := hP
          have hD : va_D A [(aB, .inr (1, [.ref aP, .ref aba, .int xbs, .int xbd, .int xbe, .int xbx])), (aba, .inl (kba, 4, .inl xba)), (aP, .inr (2, [.ref apr, .ref apw, .ref apt, .int xpc, .int xrn, .int xca, .int xst, .int xps])), (apr, .inl (kpr, 8, .inl xpr)), (apw, .inl (kpw, 64, .inl xpw)), (apt, .inl (kpt, 2, .inl xpt))] := hD
          refine lv_if_eq (tgt := 41) hx hb dX1_doProgram_32 (by decide) (fun hc => ?_) (fun hc => ?_)
          · have h := if_y h hc
            refine lv_aload_n hx hb dX1_doProgram_41 rfl (lv_at hl 1 rfl) ?_
            refine va_get (D := (dC, dI)) (ci := 1) (v := .ref aP) (C := RX1) (T := TX1) (N := 6) hx hb hts hinX1 hown hK hP 0 rfl rfl 0 (by decide) hf29 (fun _ h9 => h9) rfl dX1_doProgram_42 ?_
            refine lv_iload_n hx hb dX1_doProgram_45 rfl (lv_at hl 0 rfl) ?_
            obtain ⟨v46, hv, h⟩ := bn_ex h
            have hPc := hP.sub (ws' := [(aP, .inr (2, [.ref apr, .ref apw, .ref apt, .int xpc, .int xrn, .int xca, .int xst, .int xps])), (apr, .inl (kpr, 8, .inl xpr)), (apw, .inl (kpw, 64, .inl xpw)), (apt, .inl (kpt, 2, .inl xpt))]) [2, 3, 4, 5] rfl
            have hDc := hD.sub (ws' := [(aP, .inr (2, [.ref apr, .ref apw, .ref apt, .int xpc, .int xrn, .int xca, .int xst, .int xps])), (apr, .inl (kpr, 8, .inl xpr)), (apw, .inl (kpw, 64, .inl xpw)), (apt, .inl (kpt, 2, .inl xpt))]) [2, 3, 4, 5] (by decide) rfl
            have hKc := hK.sub (tys' := [(kpr, .int), (kpw, .int), (kpt, .int)]) [1, 2, 3] rfl
            have hFc := va_free (wc := [(aP, .inr (2, [.ref apr, .ref apw, .ref apt, .int xpc, .int xrn, .int xca, .int xst, .int xps])), (apr, .inl (kpr, 8, .inl xpr)), (apw, .inl (kpw, 64, .inl xpw)), (apt, .inl (kpt, 2, .inl xpt))]) hD hS hA [2, 3, 4, 5] rfl
            refine va_callv (va_runV (As := [.int (xba (Int32.toNatClampNeg z1))]) (rest := []) ⟨hx, hb, hml, hown, hts⟩ (ct_P_perform l dC dI aP apr apw apt kpr kpw kpt H.size xpr xpw xpt xpc xrn xca xst xps (xba (Int32.toNatClampNeg z1)) v46 hv) (cwV 1 hts gX1_doProgram_X2_perform rfl rfl rfl (by decide +kernel) ⟨Nat.le_of_ble_eq_true rfl, Nat.le_of_ble_eq_true rfl⟩) ⟨fun a U g mk q => by obtain ⟨q0, q1, qP, qK, qD⟩ := q; exact ⟨q0, q1, qP, va_K.moved (u := U) (U := U.calling g mk a) (Vm.Alike.refl U.vm) qK, qD⟩, va_recv (ci := 2) (q0 := 2) hK hP rfl rfl, fun U hU hW => ⟨rfl, by rw [hU], by rw [hU]; exact hPc, va_K.moved hW.alike hKc, hDc.weaken (fun _ _ _ _ => trivial)⟩⟩ rfl rfl hl.1 rfl (lv_room (Nat.le_of_ble_eq_true rfl)) dX1_doProgram_46 ⟨Nat.zero_le _, Nat.zero_le _⟩) hS (fun q _ h => hFc q h) hFc (fun u t H locs ht hvm hw hB hz1 hk1 hS => ?_)
            obtain rfl := pr_0 hw
            obtain ⟨hP1, hD1⟩ := hB
            rw [ht] at hP1
            obtain ⟨hP, hD⟩ := va_join (wr := [(aB, .inr (1, [.ref aP, .ref aba, .int xbs, .int xbd, .int xbe, .int xbx])), (aba, .inl (kba, 4, .inl xba))]) (w1 := [(aP, .inr (2, [.ref apr, .ref apw, .ref apt, .int xpc, .int xrn, .int xca, .int xst, .int xps])), (apr, .inl (kpr, 8, .inl v46.1)), (apw, .inl (kpw, 64, .inl v46.2)), (apt, .inl (kpt, 2, .inl xpt))]) hP hD [2, 3, 4, 5] [0, 1] rfl rfl (by decide) (by decide) hk1 hFc hP1 hD1
            have hP : va_P (dC, dI) vwCl [(aB, .inr (1, [.ref aP, .ref aba, .int xbs, .int xbd, .int xbe, .int xbx])), (aba, .inl (kba, 4, .inl xba)), (aP, .inr (2, [.ref apr, .ref apw, .ref apt, .int xpc, .int xrn, .int xca, .int xst, .int xps])), (apr, .inl (kpr, 8, .inl v46.1)), (apw, .inl (kpw, 64, .inl v46.2)), (apt, .inl (kpt, 2, .inl xpt))] H := hP
            have hD : va_D A [(aB, .inr (1, [.ref aP, .ref aba, .int xbs, .int xbd, .int xbe, .int xbx])), (aba, .inl (kba, 4, .inl xba)), (aP, .inr (2, [.ref apr, .ref apw, .ref apt, .int xpc, .int xrn, .int xca, .int xst, .int xps])), (apr, .inl (kpr, 8, .inl v46.1)), (apw, .inl (kpw, 64, .inl v46.2)), (apt, .inl (kpt, 2, .inl xpt))] := hD
            refine lv_iinc (k := 2) (v := (z1 + (1 : Int32))) hx hb dX1_doProgram_49 hl rfl (ik_p1 _) (by decide) rfl (fun ls hl => ?_)
            have hl : lv_has ls 3 [(1, .int (z1 + (1 : Int32))), (2, .int (xba (Int32.toNatClampNeg z1))), (0, .ref aB)] := hl
            refine lv_goto (tgt := 2) hx hb dX1_doProgram_52 (by decide) ?_
            exact ih _ _ _ _ _ _ _ hP hD hS (lv_sub hl [2, 0] rfl) h
          · have h := if_n h hc
            refine lv_aload_n hx hb dX1_doProgram_35 rfl (lv_at hl 1 rfl) ?_
            refine lv_iconst (v := (3 : Int32)) hx hb dX1_doProgram_36 (by decide) ?_
            refine va_put (D := (dC, dI)) (ci := 1) (v := .int (3 : Int32)) (ty := .int) (C := RX1) (T := TX1) (N := 6) hx hb hts hinX1 tyX1 tyX1_ok nmX1 hown hK hP hD hS 0 rfl rfl 4 (by decide) hf23 (fun _ h9 => h9) rfl (by decide +kernel) rfl rfl (Nat.le_of_ble_eq_true rfl) dX1_doProgram_37 (fun H locs hP hD hS => ?_)
            have hP : va_P (dC, dI) vwCl [(aB, .inr (1, [.ref aP, .ref aba, .int xbs, .int xbd, .int (3 : Int32), .int xbx])), (aba, .inl (kba, 4, .inl xba)), (aP, .inr (2, [.ref apr, .ref apw, .ref apt, .int xpc, .int xrn, .int xca, .int xst, .int xps])), (apr, .inl (kpr, 8, .inl xpr)), (apw, .inl (kpw, 64, .inl xpw)), (apt, .inl (kpt, 2, .inl xpt))] H := hP
            have hD : va_D A [(aB, .inr (1, [.ref aP, .ref aba, .int xbs, .int xbd, .int (3 : Int32), .int xbx])), (aba, .inl (kba, 4, .inl xba)), (aP, .inr (2, [.ref apr, .ref apw, .ref apt, .int xpc, .int xrn, .int xca, .int xst, .int xps])), (apr, .inl (kpr, 8, .inl xpr)), (apw, .inl (kpw, 64, .inl xpw)), (apt, .inl (kpt, 2, .inl xpt))] := hD
            exact W.vret hx hb hr (fun t ht hW => ⟨⟨((3 : Int32), xpr, xpw), rfl, h, by rw [ht]; exact hP, hD⟩, hS.F ht⟩) hS.2.2 dX1_doProgram_40
        · have h := if_y h hc
          exact W.vret hx hb hr (fun t ht hW => ⟨⟨(xbe, xpr, xpw), rfl, h, by rw [ht]; exact hP, hD⟩, hS.F ht⟩) hS.2.2 dX1_doProgram_27
  have hl := lv_entry ([.ref aB]) (n := 3) (Nat.le_of_ble_eq_true rfl)
  rw [lg_entry_eq]
  generalize (lg_sl ([.ref aB]) ++ List.replicate (3 - (lg_sl ([.ref aB])).length) Slot.unset).toArray = ls at hl ⊢
  have hl : lv_has ls 3 [(0, .ref aB)] := hl
  unfold fn_B_doProgram at h
  refine lv_iconst (v := (0 : Int32)) hx hb dX1_doProgram_0 (by decide) ?_
  refine lv_istore_n hx hb dX1_doProgram_1 rfl hl (by decide) rfl (fun ls hl => ?_)
  have hl : lv_has ls 3 [(1, .int (0 : Int32)), (0, .ref aB)] := hl
  exact k_2 64 _ _ _ _ _ _ _ hP hD hS (lv_sub hl [1, 0] rfl) h
set_option maxHeartbeats 4000000 in
set_option maxRecDepth 100000 in
theorem ct_B_command (l : Launch) (dC : Nat → ClassId) (dI : Nat → Nat → Nat) (aB aba aP apr apw apt : Nat) (kba kpr kpw kpt : ClassId) (sz : Nat) (xba : (Nat → Int32)) (xbs : Int32) (xbd : Int32) (xbe : Int32) (xbx : Int32) (xpr : (Nat → Int32)) (xpw : (Nat → Int32)) (xpt : (Nat → Int32)) (xpc : Int32) (xrn : Int32) (xca : Int32) (xst : Int32) (xps : Int32) (j1 : Int32) (o : Int32 × Int32 × (Nat → Int32) × (Nat → Int32) × Int32) (h : fn_B_command xba xbd xbe xpr xpw xpc xrn j1 = some o) : Met l yX1_command wsX1_command ({ frames := 2, cells := 0, slots := 0, locals := 47 }) (va_Pc [.ref aB, .int j1] (fun U => U.heap.size = sz ∧ va_P (dC, dI) vwCl [(aB, .inr (1, [.ref aP, .ref aba, .int xbs, .int xbd, .int xbe, .int xbx])), (aba, .inl (kba, 4, .inl xba)), (aP, .inr (2, [.ref apr, .ref apw, .ref apt, .int xpc, .int xrn, .int xca, .int xst, .int xps])), (apr, .inl (kpr, 8, .inl xpr)), (apw, .inl (kpw, 64, .inl xpw)), (apt, .inl (kpt, 2, .inl xpt))] U.heap ∧ va_K (dC, dI) vwCl [(kba, .int), (kpr, .int), (kpw, .int), (kpt, .int)] U ∧ va_D (fun _ => True) [(aB, .inr (1, [.ref aP, .ref aba, .int xbs, .int xbd, .int xbe, .int xbx])), (aba, .inl (kba, 4, .inl xba)), (aP, .inr (2, [.ref apr, .ref apw, .ref apt, .int xpc, .int xrn, .int xca, .int xst, .int xps])), (apr, .inl (kpr, 8, .inl xpr)), (apw, .inl (kpw, 64, .inl xpw)), (apt, .inl (kpt, 2, .inl xpt))])) (va_Qv (fun (u : Int32 × Int32 × (Nat → Int32) × (Nat → Int32) × Int32) => some u = some o) (fun (u : Int32 × Int32 × (Nat → Int32) × (Nat → Int32) × Int32) (t : State) => va_P (dC, dI) vwCl [(aB, .inr (1, [.ref aP, .ref aba, .int xbs, .int u.1, .int u.2.1, .int xbx])), (aba, .inl (kba, 4, .inl xba)), (aP, .inr (2, [.ref apr, .ref apw, .ref apt, .int u.2.2.2.2, .int xrn, .int xca, .int xst, .int xps])), (apr, .inl (kpr, 8, .inl u.2.2.1)), (apw, .inl (kpw, 64, .inl u.2.2.2.1)), (apt, .inl (kpt, 2, .inl xpt))] t.heap ∧ va_D (va_A [(aB, .inr (1, [.ref aP, .ref aba, .int xbs, .int xbd, .int xbe, .int xbx])), (aba, .inl (kba, 4, .inl xba)), (aP, .inr (2, [.ref apr, .ref apw, .ref apt, .int xpc, .int xrn, .int xca, .int xst, .int xps])), (apr, .inl (kpr, 8, .inl xpr)), (apw, .inl (kpw, 64, .inl xpw)), (apt, .inl (kpt, 2, .inl xpt))] sz) [(aB, .inr (1, [.ref aP, .ref aba, .int xbs, .int u.1, .int u.2.1, .int xbx])), (aba, .inl (kba, 4, .inl xba)), (aP, .inr (2, [.ref apr, .ref apw, .ref apt, .int u.2.2.2.2, .int xrn, .int xca, .int xst, .int xps])), (apr, .inl (kpr, 8, .inl u.2.2.1)), (apw, .inl (kpw, 64, .inl u.2.2.2.1)), (apt, .inl (kpt, 2, .inl xpt))]) (va_A [(aB, .inr (1, [.ref aP, .ref aba, .int xbs, .int xbd, .int xbe, .int xbx])), (aba, .inl (kba, 4, .inl xba)), (aP, .inr (2, [.ref apr, .ref apw, .ref apt, .int xpc, .int xrn, .int xca, .int xst, .int xps])), (apr, .inl (kpr, 8, .inl xpr)), (apw, .inl (kpw, 64, .inl xpw)), (apt, .inl (kpt, 2, .inl xpt))] sz)) 0 0 (va_A [(aB, .inr (1, [.ref aP, .ref aba, .int xbs, .int xbd, .int xbe, .int xbx])), (aba, .inl (kba, 4, .inl xba)), (aP, .inr (2, [.ref apr, .ref apw, .ref apt, .int xpc, .int xrn, .int xca, .int xst, .int xps])), (apr, .inl (kpr, 8, .inl xpr)), (apw, .inl (kpw, 64, .inl xpw)), (apt, .inl (kpt, 2, .inl xpt))] sz) := by
  refine Met.ofW (cc := cX1_command) (maxL := 2) (ret := none) (by decide) rfl ?_
  intro p e s m args below meth c s₁ B hml hv
  obtain ⟨rfl, hsz, hP, hK, hD0⟩ := hv
  have hx := B.exec
  have hb := B.bytes
  have hr := B.returns
  have hts := atoms_spec (ws := wsX1_command) B.pre
  have hown : s.vm.findClass RX1 = some m.cls := findClass_of_methodNamed B.named
  have hlocks := B.notSynchronized
  subst hsz
  have hD := hD0.self (sz := s.heap.size)
  generalize hAe : va_A [(aB, .inr (1, [.ref aP, .ref aba, .int xbs, .int xbd, .int xbe, .int xbx])), (aba, .inl (kba, 4, .inl xba)), (aP, .inr (2, [.ref apr, .ref apw, .ref apt, .int xpc, .int xrn, .int xca, .int xst, .int xps])), (apr, .inl (kpr, 8, .inl xpr)), (apw, .inl (kpw, 64, .inl xpw)), (apt, .inl (kpt, 2, .inl xpt))] s.heap.size = A at hD ⊢
  have hA : ∀ q : Nat, s.heap.size ≤ q → A q := fun q h => by rw [← hAe]; exact Or.inr h
  have hS : va_S A s.heap s.heap [] := va_S.rf
  have hP : va_P (dC, dI) vwCl [(aB, .inr (1, [.ref aP, .ref aba, .int xbs, .int xbd, .int xbe, .int xbx])), (aba, .inl (kba, 4, .inl xba)), (aP, .inr (2, [.ref apr, .ref apw, .ref apt, .int xpc, .int xrn, .int xca, .int xst, .int xps])), (apr, .inl (kpr, 8, .inl xpr)), (apw, .inl (kpw, 64, .inl xpw)), (apt, .inl (kpt, 2, .inl xpt))] s.heap := hP
  have hf19 := hts (.fieldLink RX1 19 "ProbeBench$Probe" "data" "I") (by decide +kernel)
  have hf23 := hts (.fieldLink RX1 23 "ProbeBench$Probe" "error" "I") (by decide +kernel)
  have hf29 := hts (.fieldLink RX1 29 "ProbeBench$Probe" "processor" "LProbeBench$Processor;") (by decide +kernel)
  have hf59 := hts (.fieldLink RX1 59 "ProbeBench$Processor" "running" "Z") (by decide +kernel)
  have hf72 := hts (.fieldLink RX1 72 "ProbeBench$Processor" "registers" "[I") (by decide +kernel)
  have hf75 := hts (.fieldLink RX1 75 "ProbeBench$Processor" "counter" "I") (by decide +kernel)
  have hinX1 : ∀ w ∈ u_ws RX1 TX1 6, w ∈ wsX1_command := by decide +kernel
  have hinX2 : ∀ w ∈ u_ws RX2 TX2 8, w ∈ wsX1_command := by decide +kernel
  have hl := lv_entry ([.ref aB, .int j1]) (n := 2) (Nat.le_of_ble_eq_true rfl)
  rw [lg_entry_eq]
  generalize (lg_sl ([.ref aB, .int j1]) ++ List.replicate (2 - (lg_sl ([.ref aB, .int j1])).length) Slot.unset).toArray = ls at hl ⊢
  have hl : lv_has ls 2 [(0, .ref aB), (1, .int j1)] := hl
  unfold fn_B_command at h
  refine lv_aload_n hx hb dX1_command_0 rfl (lv_at hl 0 rfl) ?_
  refine va_get (D := (dC, dI)) (ci := 1) (v := .int xbe) (C := RX1) (T := TX1) (N := 6) hx hb hts hinX1 hown hK hP 0 rfl rfl 4 (by decide) hf23 (fun _ h9 => h9) rfl dX1_command_1 ?_
  refine lv_if_eq (tgt := 8) hx hb dX1_command_4 (by decide) (fun hc => ?_) (fun hc => ?_)
  · have h := if_y h hc
    refine lv_aload_n hx hb dX1_command_8 rfl (lv_at hl 0 rfl) ?_
    refine va_get (D := (dC, dI)) (ci := 1) (v := .ref aP) (C := RX1) (T := TX1) (N := 6) hx hb hts hinX1 hown hK hP 0 rfl rfl 0 (by decide) hf29 (fun _ h9 => h9) rfl dX1_command_9 ?_
    refine va_get (D := (dC, dI)) (ci := 2) (v := .int xrn) (C := RX2) (T := TX2) (N := 8) hx hb hts hinX2 hown hK hP 2 rfl rfl 4 (by decide) hf59 (fun _ h9 => h9) rfl dX1_command_12 ?_
    refine lv_if_eq (tgt := 24) hx hb dX1_command_15 (by decide) (fun hc => ?_) (fun hc => ?_)
    · have h := if_y h hc
      refine lv_iload_n hx hb dX1_command_24 rfl (lv_at hl 1 rfl) ?_
      refine lv_bipush (v := (8 : Int32)) hx hb dX1_command_25 (by decide) ?_
      refine lv_ishr hx hb dX1_command_27 ?_
      refine lv_bipush (v := (7 : Int32)) hx hb dX1_command_28 (by decide) ?_
      refine lv_iand hx hb dX1_command_30 ?_
      by_cases hc0 : ((j1 >>> ((8 : Int32) &&& (31 : Int32))) &&& (7 : Int32)) = (0 : Int32)
      · have h := if_y h hc0
        refine lv_tableIn (tgt := 64) (off := 33) hx hb dX1_command_31 (by rw [hc0]; decide) (by rw [hc0]; decide) (by rw [hc0]; rfl) (by decide) ?_
        refine lv_aload_n hx hb dX1_command_64 rfl (lv_at hl 0 rfl) ?_
        refine lv_aload_n hx hb dX1_command_65 rfl (lv_at hl 0 rfl) ?_
        refine va_get (D := (dC, dI)) (ci := 1) (v := .ref aP) (C := RX1) (T := TX1) (N := 6) hx hb hts hinX1 hown hK hP 0 rfl rfl 0 (by decide) hf29 (fun _ h9 => h9) rfl dX1_command_66 ?_
        refine va_get (D := (dC, dI)) (ci := 2) (v := .ref apr) (C := RX2) (T := TX2) (N := 8) hx hb hts hinX2 hown hK hP 2 rfl rfl 0 (by decide) hf72 (fun _ h9 => h9) rfl dX1_command_69 ?_
        refine lv_iload_n hx hb dX1_command_72 rfl (lv_at hl 1 rfl) ?_
        refine lv_bipush (v := (7 : Int32)) hx hb dX1_command_73 (by decide) ?_
        refine lv_iand hx hb dX1_command_75 ?_
        obtain ⟨hi, h⟩ := ck_in h
        refine va_iald hx hb hK hP 3 1 rfl rfl hi dX1_command_76 ?_
        refine va_put (D := (dC, dI)) (ci := 1) (v := .int (xpr (Int32.toNatClampNeg (j1 &&& (7 : Int32))))) (ty := .int) (C := RX1) (T := TX1) (N := 6) hx hb hts hinX1 tyX1 tyX1_ok nmX1 hown hK hP hD hS 0 rfl rfl 3 (by decide) hf19 (fun _ h9 => h9) rfl (by decide +kernel) rfl rfl (Nat.le_of_ble_eq_true rfl) dX1_command_77 (fun H locs hP hD hS => ?_)
        have hP : va_P (dC, dI) vwCl [(aB, .inr (1, [.ref aP, .ref aba, .int xbs, .int (xpr (Int32.toNatClampNeg (j1 &&& (7 : Int32)))), .int xbe, .int xbx])), (aba, .inl (kba, 4, .inl xba)), (aP, .inr (2, [.ref apr, .ref apw, .ref apt, .int xpc, .int xrn, .int xca, .int xst, .int xps])), (apr, .inl (kpr, 8, .inl xpr)), (apw, .inl (kpw, 64, .inl xpw)), (apt, .inl (kpt, 2, .inl xpt))] H := hP
        have hD : va_D A [(aB, .inr (1, [.ref aP, .ref aba, .int xbs, .int (xpr (Int32.toNatClampNeg (j1 &&& (7 : Int32)))), .int xbe, .int xbx])), (aba, .inl (kba, 4, .inl xba)), (aP, .inr (2, [.ref apr, .ref apw, .ref apt, .int xpc, .int xrn, .int xca, .int xst, .int xps])), (apr, .inl (kpr, 8, .inl xpr)), (apw, .inl (kpw, 64, .inl xpw)), (apt, .inl (kpt, 2, .inl xpt))] := hD
        refine lv_goto (tgt := 145) hx hb dX1_command_80 (by decide) ?_
        exact W.vret hx hb hr (fun t ht hW => ⟨⟨((xpr (Int32.toNatClampNeg (j1 &&& (7 : Int32)))), xbe, xpr, xpw, xpc), rfl, h, by rw [ht]; exact hP, hD⟩, hS.F ht⟩) hS.2.2 dX1_command_145
      · have h := if_n h hc0
        by_cases hc1 : ((j1 >>> ((8 : Int32) &&& (31 : Int32))) &&& (7 : Int32)) = (1 : Int32)
        · have h := if_y h hc1
          refine lv_tableIn (tgt := 83) (off := 52) hx hb dX1_command_31 (by rw [hc1]; decide) (by rw [hc1]; decide) (by rw [hc1]; rfl) (by decide) ?_
          refine lv_aload_n hx hb dX1_command_83 rfl (lv_at hl 0 rfl) ?_
          refine va_get (D := (dC, dI)) (ci := 1) (v := .ref aP) (C := RX1) (T := TX1) (N := 6) hx hb hts hinX1 hown hK hP 0 rfl rfl 0 (by decide) hf29 (fun _ h9 => h9) rfl dX1_command_84 ?_
          refine va_get (D := (dC, dI)) (ci := 2) (v := .ref apr) (C := RX2) (T := TX2) (N := 8) hx hb hts hinX2 hown hK hP 2 rfl rfl 0 (by decide) hf72 (fun _ h9 => h9) rfl dX1_command_87 ?_
          refine lv_iload_n hx hb dX1_command_90 rfl (lv_at hl 1 rfl) ?_
          refine lv_bipush (v := (7 : Int32)) hx hb dX1_command_91 (by decide) ?_
          refine lv_iand hx hb dX1_command_93 ?_
          refine lv_aload_n hx hb dX1_command_94 rfl (lv_at hl 0 rfl) ?_
          refine va_get (D := (dC, dI)) (ci := 1) (v := .int xbd) (C := RX1) (T := TX1) (N := 6) hx hb hts hinX1 hown hK hP 0 rfl rfl 3 (by decide) hf19 (fun _ h9 => h9) rfl dX1_command_95 ?_
          obtain ⟨hi, h⟩ := ck_in h
          refine va_iast hx hb hK hP hD hS 3 1 rfl rfl hi dX1_command_98 (fun H locs hP hD hS => ?_)
          have hP : va_P (dC, dI) vwCl [(aB, .inr (1, [.ref aP, .ref aba, .int xbs, .int xbd, .int xbe, .int xbx])), (aba, .inl (kba, 4, .inl xba)), (aP, .inr (2, [.ref apr, .ref apw, .ref apt, .int xpc, .int xrn, .int xca, .int xst, .int xps])), (apr, .inl (kpr, 8, .inl (upd xpr (Int32.toNatClampNeg (j1 &&& (7 : Int32))) xbd))), (apw, .inl (kpw, 64, .inl xpw)), (apt, .inl (kpt, 2, .inl xpt))] H := hP
          have hD : va_D A [(aB, .inr (1, [.ref aP, .ref aba, .int xbs, .int xbd, .int xbe, .int xbx])), (aba, .inl (kba, 4, .inl xba)), (aP, .inr (2, [.ref apr, .ref apw, .ref apt, .int xpc, .int xrn, .int xca, .int xst, .int xps])), (apr, .inl (kpr, 8, .inl (upd xpr (Int32.toNatClampNeg (j1 &&& (7 : Int32))) xbd))), (apw, .inl (kpw, 64, .inl xpw)), (apt, .inl (kpt, 2, .inl xpt))] := hD
          refine lv_goto (tgt := 145) hx hb dX1_command_99 (by decide) ?_
          exact W.vret hx hb hr (fun t ht hW => ⟨⟨(xbd, xbe, (upd xpr (Int32.toNatClampNeg (j1 &&& (7 : Int32))) xbd), xpw, xpc), rfl, h, by rw [ht]; exact hP, hD⟩, hS.F ht⟩) hS.2.2 dX1_command_145
        · have h := if_n h hc1
          by_cases hc2 : ((j1 >>> ((8 : Int32) &&& (31 : Int32))) &&& (7 : Int32)) = (2 : Int32)
          · have h := if_y h hc2
            refine lv_tableIn (tgt := 102) (off := 71) hx hb dX1_command_31 (by rw [hc2]; decide) (by rw [hc2]; decide) (by rw [hc2]; rfl) (by decide) ?_
            refine lv_aload_n hx hb dX1_command_102 rfl (lv_at hl 0 rfl) ?_
            refine lv_aload_n hx hb dX1_command_103 rfl (lv_at hl 0 rfl) ?_
            refine va_get (D := (dC, dI)) (ci := 1) (v := .ref aP) (C := RX1) (T := TX1) (N := 6) hx hb hts hinX1 hown hK hP 0 rfl rfl 0 (by decide) hf29 (fun _ h9 => h9) rfl dX1_command_104 ?_
            refine va_get (D := (dC, dI)) (ci := 2) (v := .int xpc) (C := RX2) (T := TX2) (N := 8) hx hb hts hinX2 hown hK hP 2 rfl rfl 3 (by decide) hf75 (fun _ h9 => h9) rfl dX1_command_107 ?_
            refine va_put (D := (dC, dI)) (ci := 1) (v := .int xpc) (ty := .int) (C := RX1) (T := TX1) (N := 6) hx hb hts hinX1 tyX1 tyX1_ok nmX1 hown hK hP hD hS 0 rfl rfl 3 (by decide) hf19 (fun _ h9 => h9) rfl (by decide +kernel) rfl rfl (Nat.le_of_ble_eq_true rfl) dX1_command_110 (fun H locs hP hD hS => ?_)
            have hP : va_P (dC, dI) vwCl [(aB, .inr (1, [.ref aP, .ref aba, .int xbs, .int xpc, .int xbe, .int xbx])), (aba, .inl (kba, 4, .inl xba)), (aP, .inr (2, [.ref apr, .ref apw, .ref apt, .int xpc, .int xrn, .int xca, .int xst, .int xps])), (apr, .inl (kpr, 8, .inl xpr)), (apw, .inl (kpw, 64, .inl xpw)), (apt, .inl (kpt, 2, .inl xpt))] H := hP
            have hD : va_D A [(aB, .inr (1, [.ref aP, .ref aba, .int xbs, .int xpc, .int xbe, .int xbx])), (aba, .inl (kba, 4, .inl xba)), (aP, .inr (2, [.ref apr, .ref apw, .ref apt, .int xpc, .int xrn, .int xca, .int xst, .int xps])), (apr, .inl (kpr, 8, .inl xpr)), (apw, .inl (kpw, 64, .inl xpw)), (apt, .inl (kpt, 2, .inl xpt))] := hD
            refine lv_goto (tgt := 145) hx hb dX1_command_113 (by decide) ?_
            exact W.vret hx hb hr (fun t ht hW => ⟨⟨(xpc, xbe, xpr, xpw, xpc), rfl, h, by rw [ht]; exact hP, hD⟩, hS.F ht⟩) hS.2.2 dX1_command_145
          · have h := if_n h hc2
            by_cases hc3 : ((j1 >>> ((8 : Int32) &&& (31 : Int32))) &&& (7 : Int32)) = (3 : Int32)
            · have h := if_y h hc3
              refine lv_tableIn (tgt := 116) (off := 85) hx hb dX1_command_31 (by rw [hc3]; decide) (by rw [hc3]; decide) (by rw [hc3]; rfl) (by decide) ?_
              refine lv_aload_n hx hb dX1_command_116 rfl (lv_at hl 0 rfl) ?_
              refine va_get (D := (dC, dI)) (ci := 1) (v := .ref aP) (C := RX1) (T := TX1) (N := 6) hx hb hts hinX1 hown hK hP 0 rfl rfl 0 (by decide) hf29 (fun _ h9 => h9) rfl dX1_command_117 ?_
              refine lv_aload_n hx hb dX1_command_120 rfl (lv_at hl 0 rfl) ?_
              refine va_get (D := (dC, dI)) (ci := 1) (v := .int xbd) (C := RX1) (T := TX1) (N := 6) hx hb hts hinX1 hown hK hP 0 rfl rfl 3 (by decide) hf19 (fun _ h9 => h9) rfl dX1_command_121 ?_
              refine lv_bipush (v := (63 : Int32)) hx hb dX1_command_124 (by decide) ?_
              refine lv_iand hx hb dX1_command_126 ?_
              refine va_put (D := (dC, dI)) (ci := 2) (v := .int (xbd &&& (63 : Int32))) (ty := .int) (C := RX2) (T := TX2) (N := 8) hx hb hts hinX2 tyX2 tyX2_ok nmX2 hown hK hP hD hS 2 rfl rfl 3 (by decide) hf75 (fun _ h9 => h9) rfl (by decide +kernel) rfl rfl (Nat.le_of_ble_eq_true rfl) dX1_command_127 (fun H locs hP hD hS => ?_)
              have hP : va_P (dC, dI) vwCl [(aB, .inr (1, [.ref aP, .ref aba, .int xbs, .int xbd, .int xbe, .int xbx])), (aba, .inl (kba, 4, .inl xba)), (aP, .inr (2, [.ref apr, .ref apw, .ref apt, .int (xbd &&& (63 : Int32)), .int xrn, .int xca, .int xst, .int xps])), (apr, .inl (kpr, 8, .inl xpr)), (apw, .inl (kpw, 64, .inl xpw)), (apt, .inl (kpt, 2, .inl xpt))] H := hP
              have hD : va_D A [(aB, .inr (1, [.ref aP, .ref aba, .int xbs, .int xbd, .int xbe, .int xbx])), (aba, .inl (kba, 4, .inl xba)), (aP, .inr (2, [.ref apr, .ref apw, .ref apt, .int (xbd &&& (63 : Int32)), .int xrn, .int xca, .int xst, .int xps])), (apr, .inl (kpr, 8, .inl xpr)), (apw, .inl (kpw, 64, .inl xpw)), (apt, .inl (kpt, 2, .inl xpt))] := hD
              refine lv_goto (tgt := 145) hx hb dX1_command_130 (by decide) ?_
              exact W.vret hx hb hr (fun t ht hW => ⟨⟨(xbd, xbe, xpr, xpw, (xbd &&& (63 : Int32))), rfl, h, by rw [ht]; exact hP, hD⟩, hS.F ht⟩) hS.2.2 dX1_command_145
            · have h := if_n h hc3
              by_cases hc4 : ((j1 >>> ((8 : Int32) &&& (31 : Int32))) &&& (7 : Int32)) = (4 : Int32)
              · have h := if_y h hc4
                refine lv_tableIn (tgt := 133) (off := 102) hx hb dX1_command_31 (by rw [hc4]; decide) (by rw [hc4]; decide) (by rw [hc4]; rfl) (by decide) ?_
                refine lv_aload_n hx hb dX1_command_133 rfl (lv_at hl 0 rfl) ?_
                obtain ⟨v134, hv, h⟩ := bn_ex h
                have hPc := hP.sub (ws' := [(aB, .inr (1, [.ref aP, .ref aba, .int xbs, .int xbd, .int xbe, .int xbx])), (aba, .inl (kba, 4, .inl xba)), (aP, .inr (2, [.ref apr, .ref apw, .ref apt, .int xpc, .int xrn, .int xca, .int xst, .int xps])), (apr, .inl (kpr, 8, .inl xpr)), (apw, .inl (kpw, 64, .inl xpw)), (apt, .inl (kpt, 2, .inl xpt))]) [0, 1, 2, 3, 4, 5] rfl
                have hDc := hD.sub (ws' := [(aB, .inr (1, [.ref aP, .ref aba, .int xbs, .int xbd, .int xbe, .int xbx])), (aba, .inl (kba, 4, .inl xba)), (aP, .inr (2, [.ref apr, .ref apw, .ref apt, .int xpc, .int xrn, .int xca, .int xst, .int xps])), (apr, .inl (kpr, 8, .inl xpr)), (apw, .inl (kpw, 64, .inl xpw)), (apt, .inl (kpt, 2, .inl xpt))]) [0, 1, 2, 3, 4, 5] (by decide) rfl
                have hKc := hK.sub (tys' := [(kba, .int), (kpr, .int), (kpw, .int), (kpt, .int)]) [0, 1, 2, 3] rfl
                have hFc := va_free (wc := [(aB, .inr (1, [.ref aP, .ref aba, .int xbs, .int xbd, .int xbe, .int xbx])), (aba, .inl (kba, 4, .inl xba)), (aP, .inr (2, [.ref apr, .ref apw, .ref apt, .int xpc, .int xrn, .int xca, .int xst, .int xps])), (apr, .inl (kpr, 8, .inl xpr)), (apw, .inl (kpw, 64, .inl xpw)), (apt, .inl (kpt, 2, .inl xpt))]) hD hS hA [0, 1, 2, 3, 4, 5] rfl
                refine va_callv (va_runV (As := []) (rest := []) ⟨hx, hb, hml, hown, hts⟩ (ct_B_doProgram l dC dI aB aba aP apr apw apt kba kpr kpw kpt s.heap.size xba xbs xbd xbe xbx xpr xpw xpt xpc xrn xca xst xps v134 hv) (cwV 0 hts gX1_command_X1_doProgram rfl rfl rfl (by decide +kernel) ⟨Nat.le_of_ble_eq_true rfl, Nat.le_of_ble_eq_true rfl⟩) ⟨fun a U g mk q => by obtain ⟨q0, q1, qP, qK, qD⟩ := q; exact ⟨q0, q1, qP, va_K.moved (u := U) (U := U.calling g mk a) (Vm.Alike.refl U.vm) qK, qD⟩, va_recv (ci := 1) (q0 := 0) hK hP rfl rfl, fun U hU hW => ⟨rfl, by rw [hU], by rw [hU]; exact hPc, va_K.moved hW.alike hKc, hDc.weaken (fun _ _ _ _ => trivial)⟩⟩ rfl rfl hl.1 rfl (lv_room (Nat.le_of_ble_eq_true rfl)) dX1_command_134 ⟨Nat.zero_le _, Nat.zero_le _⟩) hS (fun q _ h => hFc q h) hFc (fun u t H locs ht hvm hw hB hz1 hk1 hS => ?_)
                obtain rfl := pr_0 hw
                obtain ⟨hP1, hD1⟩ := hB
                rw [ht] at hP1
                obtain ⟨hP, hD⟩ := va_join (wr := []) (w1 := [(aB, .inr (1, [.ref aP, .ref aba, .int xbs, .int xbd, .int v134.1, .int xbx])), (aba, .inl (kba, 4, .inl xba)), (aP, .inr (2, [.ref apr, .ref apw, .ref apt, .int xpc, .int xrn, .int xca, .int xst, .int xps])), (apr, .inl (kpr, 8, .inl v134.2.1)), (apw, .inl (kpw, 64, .inl v134.2.2)), (apt, .inl (kpt, 2, .inl xpt))]) hP hD [0, 1, 2, 3, 4, 5] [] rfl rfl (by decide) (by decide) hk1 hFc hP1 hD1
                have hP : va_P (dC, dI) vwCl [(aB, .inr (1, [.ref aP, .ref aba, .int xbs, .int xbd, .int v134.1, .int xbx])), (aba, .inl (kba, 4, .inl xba)), (aP, .inr (2, [.ref apr, .ref apw, .ref apt, .int xpc, .int xrn, .int xca, .int xst, .int xps])), (apr, .inl (kpr, 8, .inl v134.2.1)), (apw, .inl (kpw, 64, .inl v134.2.2)), (apt, .inl (kpt, 2, .inl xpt))] H := hP
                have hD : va_D A [(aB, .inr (1, [.ref aP, .ref aba, .int xbs, .int xbd, .int v134.1, .int xbx])), (aba, .inl (kba, 4, .inl xba)), (aP, .inr (2, [.ref apr, .ref apw, .ref apt, .int xpc, .int xrn, .int xca, .int xst, .int xps])), (apr, .inl (kpr, 8, .inl v134.2.1)), (apw, .inl (kpw, 64, .inl v134.2.2)), (apt, .inl (kpt, 2, .inl xpt))] := hD
                refine lv_goto (tgt := 145) hx hb dX1_command_137 (by decide) ?_
                exact W.vret hx hb hr (fun t ht hW => ⟨⟨(xbd, v134.1, v134.2.1, v134.2.2, xpc), rfl, h, by rw [ht]; exact hP, hD⟩, hS.F ht⟩) hS.2.2 dX1_command_145
              · have h := if_n h hc4
                have e0 := lv_neT (a := 0) hc0 (by decide)
                have e1 := lv_neT (a := 1) hc1 (by decide)
                have e2 := lv_neT (a := 2) hc2 (by decide)
                have e3 := lv_neT (a := 3) hc3 (by decide)
                have e4 := lv_neT (a := 4) hc4 (by decide)
                refine lv_tableOut (tgt := 140) hx hb dX1_command_31 (by omega) (by decide) ?_
                refine lv_aload_n hx hb dX1_command_140 rfl (lv_at hl 0 rfl) ?_
                refine lv_iconst (v := (2 : Int32)) hx hb dX1_command_141 (by decide) ?_
                refine va_put (D := (dC, dI)) (ci := 1) (v := .int (2 : Int32)) (ty := .int) (C := RX1) (T := TX1) (N := 6) hx hb hts hinX1 tyX1 tyX1_ok nmX1 hown hK hP hD hS 0 rfl rfl 4 (by decide) hf23 (fun _ h9 => h9) rfl (by decide +kernel) rfl rfl (Nat.le_of_ble_eq_true rfl) dX1_command_142 (fun H locs hP hD hS => ?_)
                have hP : va_P (dC, dI) vwCl [(aB, .inr (1, [.ref aP, .ref aba, .int xbs, .int xbd, .int (2 : Int32), .int xbx])), (aba, .inl (kba, 4, .inl xba)), (aP, .inr (2, [.ref apr, .ref apw, .ref apt, .int xpc, .int xrn, .int xca, .int xst, .int xps])), (apr, .inl (kpr, 8, .inl xpr)), (apw, .inl (kpw, 64, .inl xpw)), (apt, .inl (kpt, 2, .inl xpt))] H := hP
                have hD : va_D A [(aB, .inr (1, [.ref aP, .ref aba, .int xbs, .int xbd, .int (2 : Int32), .int xbx])), (aba, .inl (kba, 4, .inl xba)), (aP, .inr (2, [.ref apr, .ref apw, .ref apt, .int xpc, .int xrn, .int xca, .int xst, .int xps])), (apr, .inl (kpr, 8, .inl xpr)), (apw, .inl (kpw, 64, .inl xpw)), (apt, .inl (kpt, 2, .inl xpt))] := hD
                exact W.vret hx hb hr (fun t ht hW => ⟨⟨(xbd, (2 : Int32), xpr, xpw, xpc), rfl, h, by rw [ht]; exact hP, hD⟩, hS.F ht⟩) hS.2.2 dX1_command_145
    · have h := if_n h hc
      refine lv_aload_n hx hb dX1_command_18 rfl (lv_at hl 0 rfl) ?_
      refine lv_iconst (v := (1 : Int32)) hx hb dX1_command_19 (by decide) ?_
      refine va_put (D := (dC, dI)) (ci := 1) (v := .int (1 : Int32)) (ty := .int) (C := RX1) (T := TX1) (N := 6) hx hb hts hinX1 tyX1 tyX1_ok nmX1 hown hK hP hD hS 0 rfl rfl 4 (by decide) hf23 (fun _ h9 => h9) rfl (by decide +kernel) rfl rfl (Nat.le_of_ble_eq_true rfl) dX1_command_20 (fun H locs hP hD hS => ?_)
      have hP : va_P (dC, dI) vwCl [(aB, .inr (1, [.ref aP, .ref aba, .int xbs, .int xbd, .int (1 : Int32), .int xbx])), (aba, .inl (kba, 4, .inl xba)), (aP, .inr (2, [.ref apr, .ref apw, .ref apt, .int xpc, .int xrn, .int xca, .int xst, .int xps])), (apr, .inl (kpr, 8, .inl xpr)), (apw, .inl (kpw, 64, .inl xpw)), (apt, .inl (kpt, 2, .inl xpt))] H := hP
      have hD : va_D A [(aB, .inr (1, [.ref aP, .ref aba, .int xbs, .int xbd, .int (1 : Int32), .int xbx])), (aba, .inl (kba, 4, .inl xba)), (aP, .inr (2, [.ref apr, .ref apw, .ref apt, .int xpc, .int xrn, .int xca, .int xst, .int xps])), (apr, .inl (kpr, 8, .inl xpr)), (apw, .inl (kpw, 64, .inl xpw)), (apt, .inl (kpt, 2, .inl xpt))] := hD
      exact W.vret hx hb hr (fun t ht hW => ⟨⟨(xbd, (1 : Int32), xpr, xpw, xpc), rfl, h, by rw [ht]; exact hP, hD⟩, hS.F ht⟩) hS.2.2 dX1_command_23
  · have h := if_n h hc
    exact W.vret hx hb hr (fun t ht hW => ⟨⟨(xbd, xbe, xpr, xpw, xpc), rfl, h, by rw [ht]; exact hP, hD⟩, hS.F ht⟩) hS.2.2 dX1_command_7
set_option maxHeartbeats 4000000 in
set_option maxRecDepth 100000 in
theorem ct_B_fetch (l : Launch) (dC : Nat → ClassId) (dI : Nat → Nat → Nat) (aB aba aP apr apw apt : Nat) (kba kpr kpw kpt : ClassId) (sz : Nat) (xba : (Nat → Int32)) (xbs : Int32) (xbd : Int32) (xbe : Int32) (xbx : Int32) (xpr : (Nat → Int32)) (xpw : (Nat → Int32)) (xpt : (Nat → Int32)) (xpc : Int32) (xrn : Int32) (xca : Int32) (xst : Int32) (xps : Int32) (j1 : Int32) (o : Int32 × Int32) (h : fn_B_fetch xba xbs xbd xbe xbx xpw xpt xpc xrn xca j1 = some o) : Met l yX1_fetch wsX1_fetch ({ frames := 1, cells := 0, slots := 0, locals := 21 }) (va_Pc [.ref aB, .int j1] (fun U => U.heap.size = sz ∧ va_P (dC, dI) vwCl [(aB, .inr (1, [.ref aP, .ref aba, .int xbs, .int xbd, .int xbe, .int xbx])), (aba, .inl (kba, 4, .inl xba)), (aP, .inr (2, [.ref apr, .ref apw, .ref apt, .int xpc, .int xrn, .int xca, .int xst, .int xps])), (apr, .inl (kpr, 8, .inl xpr)), (apw, .inl (kpw, 64, .inl xpw)), (apt, .inl (kpt, 2, .inl xpt))] U.heap ∧ va_K (dC, dI) vwCl [(kba, .int), (kpr, .int), (kpw, .int), (kpt, .int)] U ∧ va_D (fun _ => True) [(aB, .inr (1, [.ref aP, .ref aba, .int xbs, .int xbd, .int xbe, .int xbx])), (aba, .inl (kba, 4, .inl xba)), (aP, .inr (2, [.ref apr, .ref apw, .ref apt, .int xpc, .int xrn, .int xca, .int xst, .int xps])), (apr, .inl (kpr, 8, .inl xpr)), (apw, .inl (kpw, 64, .inl xpw)), (apt, .inl (kpt, 2, .inl xpt))])) (va_Qi (fun (r : Int32) (u : Int32) => some (r, u) = some o) (fun (u : Int32) (t : State) => va_P (dC, dI) vwCl [(aB, .inr (1, [.ref aP, .ref aba, .int xbs, .int xbd, .int xbe, .int u])), (aba, .inl (kba, 4, .inl xba)), (aP, .inr (2, [.ref apr, .ref apw, .ref apt, .int xpc, .int xrn, .int xca, .int xst, .int xps])), (apr, .inl (kpr, 8, .inl xpr)), (apw, .inl (kpw, 64, .inl xpw)), (apt, .inl (kpt, 2, .inl xpt))] t.heap ∧ va_D (va_A [(aB, .inr (1, [.ref aP, .ref aba, .int xbs, .int xbd, .int xbe, .int xbx])), (aba, .inl (kba, 4, .inl xba)), (aP, .inr (2, [.ref apr, .ref apw, .ref apt, .int xpc, .int xrn, .int xca, .int xst, .int xps])), (apr, .inl (kpr, 8, .inl xpr)), (apw, .inl (kpw, 64, .inl xpw)), (apt, .inl (kpt, 2, .inl xpt))] sz) [(aB, .inr (1, [.ref aP, .ref aba, .int xbs, .int xbd, .int xbe, .int u])), (aba, .inl (kba, 4, .inl xba)), (aP, .inr (2, [.ref apr, .ref apw, .ref apt, .int xpc, .int xrn, .int xca, .int xst, .int xps])), (apr, .inl (kpr, 8, .inl xpr)), (apw, .inl (kpw, 64, .inl xpw)), (apt, .inl (kpt, 2, .inl xpt))]) (va_A [(aB, .inr (1, [.ref aP, .ref aba, .int xbs, .int xbd, .int xbe, .int xbx])), (aba, .inl (kba, 4, .inl xba)), (aP, .inr (2, [.ref apr, .ref apw, .ref apt, .int xpc, .int xrn, .int xca, .int xst, .int xps])), (apr, .inl (kpr, 8, .inl xpr)), (apw, .inl (kpw, 64, .inl xpw)), (apt, .inl (kpt, 2, .inl xpt))] sz)) 0 0 (va_A [(aB, .inr (1, [.ref aP, .ref aba, .int xbs, .int xbd, .int xbe, .int xbx])), (aba, .inl (kba, 4, .inl xba)), (aP, .inr (2, [.ref apr, .ref apw, .ref apt, .int xpc, .int xrn, .int xca, .int xst, .int xps])), (apr, .inl (kpr, 8, .inl xpr)), (apw, .inl (kpw, 64, .inl xpw)), (apt, .inl (kpt, 2, .inl xpt))] sz) := by
  refine Met.ofW (cc := cX1_fetch) (maxL := 2) (ret := (some .int)) (by decide) rfl ?_
  intro p e s m args below meth c s₁ B hml hv
  obtain ⟨rfl, hsz, hP, hK, hD0⟩ := hv
  have hx := B.exec
  have hb := B.bytes
  have hr := B.returns
  have hts := atoms_spec (ws := wsX1_fetch) B.pre
  have hown : s.vm.findClass RX1 = some m.cls := findClass_of_methodNamed B.named
  have hlocks := B.notSynchronized
  subst hsz
  have hD := hD0.self (sz := s.heap.size)
  generalize hAe : va_A [(aB, .inr (1, [.ref aP, .ref aba, .int xbs, .int xbd, .int xbe, .int xbx])), (aba, .inl (kba, 4, .inl xba)), (aP, .inr (2, [.ref apr, .ref apw, .ref apt, .int xpc, .int xrn, .int xca, .int xst, .int xps])), (apr, .inl (kpr, 8, .inl xpr)), (apw, .inl (kpw, 64, .inl xpw)), (apt, .inl (kpt, 2, .inl xpt))] s.heap.size = A at hD ⊢
  have hA : ∀ q : Nat, s.heap.size ≤ q → A q := fun q h => by rw [← hAe]; exact Or.inr h
  have hS : va_S A s.heap s.heap [] := va_S.rf
  have hP : va_P (dC, dI) vwCl [(aB, .inr (1, [.ref aP, .ref aba, .int xbs, .int xbd, .int xbe, .int xbx])), (aba, .inl (kba, 4, .inl xba)), (aP, .inr (2, [.ref apr, .ref apw, .ref apt, .int xpc, .int xrn, .int xca, .int xst, .int xps])), (apr, .inl (kpr, 8, .inl xpr)), (apw, .inl (kpw, 64, .inl xpw)), (apt, .inl (kpt, 2, .inl xpt))] s.heap := hP
  have hf11 := hts (.fieldLink RX1 11 "ProbeBench$Probe" "program" "[I") (by decide +kernel)
  have hf15 := hts (.fieldLink RX1 15 "ProbeBench$Probe" "stepping" "Z") (by decide +kernel)
  have hf19 := hts (.fieldLink RX1 19 "ProbeBench$Probe" "data" "I") (by decide +kernel)
  have hf23 := hts (.fieldLink RX1 23 "ProbeBench$Probe" "error" "I") (by decide +kernel)
  have hf26 := hts (.fieldLink RX1 26 "ProbeBench$Probe" "address" "I") (by decide +kernel)
  have hf29 := hts (.fieldLink RX1 29 "ProbeBench$Probe" "processor" "LProbeBench$Processor;") (by decide +kernel)
  have hf33 := hts (.fieldLink RX1 33 "ProbeBench$Processor" "traps" "[I") (by decide +kernel)
  have hf42 := hts (.fieldLink RX1 42 "ProbeBench$Processor" "words" "[I") (by decide +kernel)
  have hinX1 : ∀ w ∈ u_ws RX1 TX1 6, w ∈ wsX1_fetch := by decide +kernel
  have hinX2 : ∀ w ∈ u_ws RX2 TX2 8, w ∈ wsX1_fetch := by decide +kernel
  have k_45 : ∀ (H : Heap) (locs : List Loc) (ls : Array Slot) (xbx : Int32) (z1 : Int32), va_P (dC, dI) vwCl [(aB, .inr (1, [.ref aP, .ref aba, .int xbs, .int xbd, .int xbe, .int xbx])), (aba, .inl (kba, 4, .inl xba)), (aP, .inr (2, [.ref apr, .ref apw, .ref apt, .int xpc, .int xrn, .int xca, .int xst, .int xps])), (apr, .inl (kpr, 8, .inl xpr)), (apw, .inl (kpw, 64, .inl xpw)), (apt, .inl (kpt, 2, .inl xpt))] H → va_D A [(aB, .inr (1, [.ref aP, .ref aba, .int xbs, .int xbd, .int xbe, .int xbx])), (aba, .inl (kba, 4, .inl xba)), (aP, .inr (2, [.ref apr, .ref apw, .ref apt, .int xpc, .int xrn, .int xca, .int xst, .int xps])), (apr, .inl (kpr, 8, .inl xpr)), (apw, .inl (kpw, 64, .inl xpw)), (apt, .inl (kpt, 2, .inl xpt))] → va_S A s.heap H locs → lv_has ls 2 [(0, .ref aB), (1, .int z1)] → fn_B_fetch_J45 xba xbs xbd xbe xbx xpw xpt xpc xrn xca z1 = some o → W p l e (headSpec wsX1_fetch ({ frames := 1, cells := 0, slots := 0, locals := 21 })).room s m ([.ref aB, .int j1] : List Value).toArray below meth c H locs 0 0 (MQ below (va_Qi (fun (r : Int32) (u : Int32) => some (r, u) = some o) (fun (u : Int32) (t : State) => va_P (dC, dI) vwCl [(aB, .inr (1, [.ref aP, .ref aba, .int xbs, .int xbd, .int xbe, .int u])), (aba, .inl (kba, 4, .inl xba)), (aP, .inr (2, [.ref apr, .ref apw, .ref apt, .int xpc, .int xrn, .int xca, .int xst, .int xps])), (apr, .inl (kpr, 8, .inl xpr)), (apw, .inl (kpw, 64, .inl xpw)), (apt, .inl (kpt, 2, .inl xpt))] t.heap ∧ va_D A [(aB, .inr (1, [.ref aP, .ref aba, .int xbs, .int xbd, .int xbe, .int u])), (aba, .inl (kba, 4, .inl xba)), (aP, .inr (2, [.ref apr, .ref apw, .ref apt, .int xpc, .int xrn, .int xca, .int xst, .int xps])), (apr, .inl (kpr, 8, .inl xpr)), (apw, .inl (kpw, 64, .inl xpw)), (apt, .inl (kpt, 2, .inl xpt))]) A) ([.ref aB, .int j1] : List Value).toArray s 0 0 A) (F0 m 45 ls []) := by
    intro H locs ls xbx z1 hP hD hS hl h
    unfold fn_B_fetch_J45 at h
    refine lv_iload_n hx hb dX1_fetch_45 rfl (lv_at hl 1 rfl) ?_
    by_cases hc0 : z1 = (0 : Int32)
    · have h := if_y h hc0
      refine lv_tableIn (tgt := 116) (off := 70) hx hb dX1_fetch_46 (by rw [hc0]; decide) (by rw [hc0]; decide) (by rw [hc0]; rfl) (by decide) ?_
      refine lv_aload_n hx hb dX1_fetch_116 rfl (lv_at hl 0 rfl) ?_
      refine va_get (D := (dC, dI)) (ci := 1) (v := .int xbs) (C := RX1) (T := TX1) (N := 6) hx hb hts hinX1 hown hK hP 0 rfl rfl 2 (by decide) hf15 (fun _ h9 => h9) rfl dX1_fetch_117 ?_
      refine lv_if_eq (tgt := 127) hx hb dX1_fetch_120 (by decide) (fun hc => ?_) (fun hc => ?_)
      · have h := if_y h hc
        refine lv_iconst (v := (0 : Int32)) hx hb dX1_fetch_127 (by decide) ?_
        exact W.iret hx hb hr (fun t ht hW => ⟨⟨(0 : Int32), xbx, rfl, h, by rw [ht]; exact hP, hD⟩, hS.F ht⟩) hS.2.2 dX1_fetch_128
      · have h := if_n h hc
        refine lv_iconst (v := (4 : Int32)) hx hb dX1_fetch_123 (by decide) ?_
        refine lv_goto (tgt := 128) hx hb dX1_fetch_124 (by decide) ?_
        exact W.iret hx hb hr (fun t ht hW => ⟨⟨(4 : Int32), xbx, rfl, h, by rw [ht]; exact hP, hD⟩, hS.F ht⟩) hS.2.2 dX1_fetch_128
    · have h := if_n h hc0
      by_cases hc1 : z1 = (1 : Int32)
      · have h := if_y h hc1
        refine lv_tableIn (tgt := 129) (off := 83) hx hb dX1_fetch_46 (by rw [hc1]; decide) (by rw [hc1]; decide) (by rw [hc1]; rfl) (by decide) ?_
        refine lv_aload_n hx hb dX1_fetch_129 rfl (lv_at hl 0 rfl) ?_
        refine va_get (D := (dC, dI)) (ci := 1) (v := .ref aP) (C := RX1) (T := TX1) (N := 6) hx hb hts hinX1 hown hK hP 0 rfl rfl 0 (by decide) hf29 (fun _ h9 => h9) rfl dX1_fetch_130 ?_
        obtain ⟨v133, hv, h⟩ := bn_ex h
        have hPc := hP.sub (ws' := [(aP, .inr (2, [.ref apr, .ref apw, .ref apt, .int xpc, .int xrn, .int xca, .int xst, .int xps])), (apr, .inl (kpr, 8, .inl xpr)), (apw, .inl (kpw, 64, .inl xpw)), (apt, .inl (kpt, 2, .inl xpt))]) [2, 3, 4, 5] rfl
        have hDc := hD.sub (ws' := [(aP, .inr (2, [.ref apr, .ref apw, .ref apt, .int xpc, .int xrn, .int xca, .int xst, .int xps])), (apr, .inl (kpr, 8, .inl xpr)), (apw, .inl (kpw, 64, .inl xpw)), (apt, .inl (kpt, 2, .inl xpt))]) [2, 3, 4, 5] (by decide) rfl
        have hKc := hK.sub (tys' := [(kpr, .int), (kpw, .int), (kpt, .int)]) [1, 2, 3] rfl
        have hFc := va_free (wc := [(aP, .inr (2, [.ref apr, .ref apw, .ref apt, .int xpc, .int xrn, .int xca, .int xst, .int xps])), (apr, .inl (kpr, 8, .inl xpr)), (apw, .inl (kpw, 64, .inl xpw)), (apt, .inl (kpt, 2, .inl xpt))]) hD hS hA [2, 3, 4, 5] rfl
        refine va_calli (va_runV (As := []) (rest := []) ⟨hx, hb, hml, hown, hts⟩ (ct_P_status l dC dI aP apr apw apt kpr kpw kpt H.size xpr xpw xpt xpc xrn xca xst xps v133 hv) (cwV 0 hts gX1_fetch_X2_status rfl rfl rfl (by decide +kernel) ⟨Nat.le_of_ble_eq_true rfl, Nat.le_of_ble_eq_true rfl⟩) ⟨fun a U g mk q => by obtain ⟨q0, q1, qP, qK, qD⟩ := q; exact ⟨q0, q1, qP, va_K.moved (u := U) (U := U.calling g mk a) (Vm.Alike.refl U.vm) qK, qD⟩, va_recv (ci := 2) (q0 := 2) hK hP rfl rfl, fun U hU hW => ⟨rfl, by rw [hU], by rw [hU]; exact hPc, va_K.moved hW.alike hKc, hDc.weaken (fun _ _ _ _ => trivial)⟩⟩ rfl rfl hl.1 rfl (lv_room (Nat.le_of_ble_eq_true rfl)) dX1_fetch_133 ⟨Nat.zero_le _, Nat.zero_le _⟩) hS (fun q _ h => hFc q h) hFc (fun r u t H locs ht hvm hw hB hz1 hk1 hS => ?_)
        obtain rfl := pr_0 hw
        obtain ⟨hP1, hD1⟩ := hB
        rw [ht] at hP1
        obtain ⟨hP, hD⟩ := va_join (wr := [(aB, .inr (1, [.ref aP, .ref aba, .int xbs, .int xbd, .int xbe, .int xbx])), (aba, .inl (kba, 4, .inl xba))]) (w1 := [(aP, .inr (2, [.ref apr, .ref apw, .ref apt, .int xpc, .int xrn, .int xca, .int xst, .int xps])), (apr, .inl (kpr, 8, .inl xpr)), (apw, .inl (kpw, 64, .inl xpw)), (apt, .inl (kpt, 2, .inl xpt))]) hP hD [2, 3, 4, 5] [0, 1] rfl rfl (by decide) (by decide) hk1 hFc hP1 hD1
        have hP : va_P (dC, dI) vwCl [(aB, .inr (1, [.ref aP, .ref aba, .int xbs, .int xbd, .int xbe, .int xbx])), (aba, .inl (kba, 4, .inl xba)), (aP, .inr (2, [.ref apr, .ref apw, .ref apt, .int xpc, .int xrn, .int xca, .int xst, .int xps])), (apr, .inl (kpr, 8, .inl xpr)), (apw, .inl (kpw, 64, .inl xpw)), (apt, .inl (kpt, 2, .inl xpt))] H := hP
        have hD : va_D A [(aB, .inr (1, [.ref aP, .ref aba, .int xbs, .int xbd, .int xbe, .int xbx])), (aba, .inl (kba, 4, .inl xba)), (aP, .inr (2, [.ref apr, .ref apw, .ref apt, .int xpc, .int xrn, .int xca, .int xst, .int xps])), (apr, .inl (kpr, 8, .inl xpr)), (apw, .inl (kpw, 64, .inl xpw)), (apt, .inl (kpt, 2, .inl xpt))] := hD
        exact W.iret hx hb hr (fun t ht hW => ⟨⟨v133, xbx, rfl, h, by rw [ht]; exact hP, hD⟩, hS.F ht⟩) hS.2.2 dX1_fetch_136
      · have h := if_n h hc1
        by_cases hc2 : z1 = (2 : Int32)
        · have h := if_y h hc2
          refine lv_tableIn (tgt := 137) (off := 91) hx hb dX1_fetch_46 (by rw [hc2]; decide) (by rw [hc2]; decide) (by rw [hc2]; rfl) (by decide) ?_
          refine lv_aload_n hx hb dX1_fetch_137 rfl (lv_at hl 0 rfl) ?_
          refine va_get (D := (dC, dI)) (ci := 1) (v := .int xbd) (C := RX1) (T := TX1) (N := 6) hx hb hts hinX1 hown hK hP 0 rfl rfl 3 (by decide) hf19 (fun _ h9 => h9) rfl dX1_fetch_138 ?_
          exact W.iret hx hb hr (fun t ht hW => ⟨⟨xbd, xbx, rfl, h, by rw [ht]; exact hP, hD⟩, hS.F ht⟩) hS.2.2 dX1_fetch_141
        · have h := if_n h hc2
          by_cases hc3 : z1 = (3 : Int32)
          · have h := if_y h hc3
            refine lv_tableIn (tgt := 169) (off := 123) hx hb dX1_fetch_46 (by rw [hc3]; decide) (by rw [hc3]; decide) (by rw [hc3]; rfl) (by decide) ?_
            refine lv_iconst (v := (0 : Int32)) hx hb dX1_fetch_169 (by decide) ?_
            exact W.iret hx hb hr (fun t ht hW => ⟨⟨(0 : Int32), xbx, rfl, h, by rw [ht]; exact hP, hD⟩, hS.F ht⟩) hS.2.2 dX1_fetch_170
          · have h := if_n h hc3
            by_cases hc4 : z1 = (4 : Int32)
            · have h := if_y h hc4
              refine lv_tableIn (tgt := 142) (off := 96) hx hb dX1_fetch_46 (by rw [hc4]; decide) (by rw [hc4]; decide) (by rw [hc4]; rfl) (by decide) ?_
              refine lv_aload_n hx hb dX1_fetch_142 rfl (lv_at hl 0 rfl) ?_
              refine va_get (D := (dC, dI)) (ci := 1) (v := .int xbe) (C := RX1) (T := TX1) (N := 6) hx hb hts hinX1 hown hK hP 0 rfl rfl 4 (by decide) hf23 (fun _ h9 => h9) rfl dX1_fetch_143 ?_
              exact W.iret hx hb hr (fun t ht hW => ⟨⟨xbe, xbx, rfl, h, by rw [ht]; exact hP, hD⟩, hS.F ht⟩) hS.2.2 dX1_fetch_146
            · have h := if_n h hc4
              by_cases hc5 : z1 = (5 : Int32)
              · have h := if_y h hc5
                refine lv_tableIn (tgt := 169) (off := 123) hx hb dX1_fetch_46 (by rw [hc5]; decide) (by rw [hc5]; decide) (by rw [hc5]; rfl) (by decide) ?_
                refine lv_iconst (v := (0 : Int32)) hx hb dX1_fetch_169 (by decide) ?_
                exact W.iret hx hb hr (fun t ht hW => ⟨⟨(0 : Int32), xbx, rfl, h, by rw [ht]; exact hP, hD⟩, hS.F ht⟩) hS.2.2 dX1_fetch_170
              · have h := if_n h hc5
                by_cases hc6 : z1 = (6 : Int32)
                · have h := if_y h hc6
                  refine lv_tableIn (tgt := 169) (off := 123) hx hb dX1_fetch_46 (by rw [hc6]; decide) (by rw [hc6]; decide) (by rw [hc6]; rfl) (by decide) ?_
                  refine lv_iconst (v := (0 : Int32)) hx hb dX1_fetch_169 (by decide) ?_
                  exact W.iret hx hb hr (fun t ht hW => ⟨⟨(0 : Int32), xbx, rfl, h, by rw [ht]; exact hP, hD⟩, hS.F ht⟩) hS.2.2 dX1_fetch_170
                · have h := if_n h hc6
                  by_cases hc7 : z1 = (7 : Int32)
                  · have h := if_y h hc7
                    refine lv_tableIn (tgt := 169) (off := 123) hx hb dX1_fetch_46 (by rw [hc7]; decide) (by rw [hc7]; decide) (by rw [hc7]; rfl) (by decide) ?_
                    refine lv_iconst (v := (0 : Int32)) hx hb dX1_fetch_169 (by decide) ?_
                    exact W.iret hx hb hr (fun t ht hW => ⟨⟨(0 : Int32), xbx, rfl, h, by rw [ht]; exact hP, hD⟩, hS.F ht⟩) hS.2.2 dX1_fetch_170
                  · have h := if_n h hc7
                    by_cases hc8 : z1 = (8 : Int32)
                    · have h := if_y h hc8
                      refine lv_tableIn (tgt := 169) (off := 123) hx hb dX1_fetch_46 (by rw [hc8]; decide) (by rw [hc8]; decide) (by rw [hc8]; rfl) (by decide) ?_
                      refine lv_iconst (v := (0 : Int32)) hx hb dX1_fetch_169 (by decide) ?_
                      exact W.iret hx hb hr (fun t ht hW => ⟨⟨(0 : Int32), xbx, rfl, h, by rw [ht]; exact hP, hD⟩, hS.F ht⟩) hS.2.2 dX1_fetch_170
                    · have h := if_n h hc8
                      by_cases hc9 : z1 = (9 : Int32)
                      · have h := if_y h hc9
                        refine lv_tableIn (tgt := 147) (off := 101) hx hb dX1_fetch_46 (by rw [hc9]; decide) (by rw [hc9]; decide) (by rw [hc9]; rfl) (by decide) ?_
                        refine lv_aload_n hx hb dX1_fetch_147 rfl (lv_at hl 0 rfl) ?_
                        refine va_get (D := (dC, dI)) (ci := 1) (v := .int xbx) (C := RX1) (T := TX1) (N := 6) hx hb hts hinX1 hown hK hP 0 rfl rfl 5 (by decide) hf26 (fun _ h9 => h9) rfl dX1_fetch_148 ?_
                        exact W.iret hx hb hr (fun t ht hW => ⟨⟨xbx, xbx, rfl, h, by rw [ht]; exact hP, hD⟩, hS.F ht⟩) hS.2.2 dX1_fetch_151
                      · have h := if_n h hc9
                        by_cases hc10 : z1 = (10 : Int32)
                        · have h := if_y h hc10
                          refine lv_tableIn (tgt := 152) (off := 106) hx hb dX1_fetch_46 (by rw [hc10]; decide) (by rw [hc10]; decide) (by rw [hc10]; rfl) (by decide) ?_
                          refine lv_aload_n hx hb dX1_fetch_152 rfl (lv_at hl 0 rfl) ?_
                          refine va_get (D := (dC, dI)) (ci := 1) (v := .ref aP) (C := RX1) (T := TX1) (N := 6) hx hb hts hinX1 hown hK hP 0 rfl rfl 0 (by decide) hf29 (fun _ h9 => h9) rfl dX1_fetch_153 ?_
                          refine va_get (D := (dC, dI)) (ci := 2) (v := .ref apw) (C := RX2) (T := TX2) (N := 8) hx hb hts hinX2 hown hK hP 2 rfl rfl 1 (by decide) hf42 (fun _ h9 => h9) rfl dX1_fetch_156 ?_
                          refine lv_aload_n hx hb dX1_fetch_159 rfl (lv_at hl 0 rfl) ?_
                          obtain ⟨v160, hv, h⟩ := bn_ex h
                          have hPc := hP.sub (ws' := [(aB, .inr (1, [.ref aP, .ref aba, .int xbs, .int xbd, .int xbe, .int xbx])), (aba, .inl (kba, 4, .inl xba))]) [0, 1] rfl
                          have hDc := hD.sub (ws' := [(aB, .inr (1, [.ref aP, .ref aba, .int xbs, .int xbd, .int xbe, .int xbx])), (aba, .inl (kba, 4, .inl xba))]) [0, 1] (by decide) rfl
                          have hKc := hK.sub (tys' := [(kba, .int)]) [0] rfl
                          have hFc := va_free (wc := [(aB, .inr (1, [.ref aP, .ref aba, .int xbs, .int xbd, .int xbe, .int xbx])), (aba, .inl (kba, 4, .inl xba))]) hD hS hA [0, 1] rfl
                          refine va_calli (va_runV (As := []) (rest := [.ref apw]) ⟨hx, hb, hml, hown, hts⟩ (ct_B_passAddress l dC dI aB aba aP kba H.size xba xbs xbd xbe xbx v160 hv) (cwV 0 hts gX1_fetch_X1_passAddress rfl rfl rfl (by decide +kernel) ⟨Nat.le_of_ble_eq_true rfl, Nat.le_of_ble_eq_true rfl⟩) ⟨fun a U g mk q => by obtain ⟨q0, q1, qP, qK, qD⟩ := q; exact ⟨q0, q1, qP, va_K.moved (u := U) (U := U.calling g mk a) (Vm.Alike.refl U.vm) qK, qD⟩, va_recv (ci := 1) (q0 := 0) hK hP rfl rfl, fun U hU hW => ⟨rfl, by rw [hU], by rw [hU]; exact hPc, va_K.moved hW.alike hKc, hDc.weaken (fun _ _ _ _ => trivial)⟩⟩ rfl rfl hl.1 rfl (lv_room (Nat.le_of_ble_eq_true rfl)) dX1_fetch_160 ⟨Nat.zero_le _, Nat.zero_le _⟩) hS (fun q _ h => hFc q h) hFc (fun r u t H locs ht hvm hw hB hz1 hk1 hS => ?_)
                          obtain ⟨rfl, rfl⟩ := pr_2 hw
                          obtain ⟨hP1, hD1⟩ := hB
                          rw [ht] at hP1
                          obtain ⟨hP, hD⟩ := va_join (wr := [(aP, .inr (2, [.ref apr, .ref apw, .ref apt, .int xpc, .int xrn, .int xca, .int xst, .int xps])), (apr, .inl (kpr, 8, .inl xpr)), (apw, .inl (kpw, 64, .inl xpw)), (apt, .inl (kpt, 2, .inl xpt))]) (w1 := [(aB, .inr (1, [.ref aP, .ref aba, .int xbs, .int xbd, .int xbe, .int v160.2])), (aba, .inl (kba, 4, .inl xba))]) hP hD [0, 1] [2, 3, 4, 5] rfl rfl (by decide) (by decide) hk1 hFc hP1 hD1
                          have hP : va_P (dC, dI) vwCl [(aP, .inr (2, [.ref apr, .ref apw, .ref apt, .int xpc, .int xrn, .int xca, .int xst, .int xps])), (apr, .inl (kpr, 8, .inl xpr)), (apw, .inl (kpw, 64, .inl xpw)), (apt, .inl (kpt, 2, .inl xpt)), (aB, .inr (1, [.ref aP, .ref aba, .int xbs, .int xbd, .int xbe, .int v160.2])), (aba, .inl (kba, 4, .inl xba))] H := hP
                          have hD : va_D A [(aP, .inr (2, [.ref apr, .ref apw, .ref apt, .int xpc, .int xrn, .int xca, .int xst, .int xps])), (apr, .inl (kpr, 8, .inl xpr)), (apw, .inl (kpw, 64, .inl xpw)), (apt, .inl (kpt, 2, .inl xpt)), (aB, .inr (1, [.ref aP, .ref aba, .int xbs, .int xbd, .int xbe, .int v160.2])), (aba, .inl (kba, 4, .inl xba))] := hD
                          obtain ⟨hi, h⟩ := ck_in h
                          refine va_iald hx hb hK hP 2 2 rfl rfl hi dX1_fetch_163 ?_
                          have hP9 := hP.sub (ws' := [(aB, .inr (1, [.ref aP, .ref aba, .int xbs, .int xbd, .int xbe, .int v160.2])), (aba, .inl (kba, 4, .inl xba)), (aP, .inr (2, [.ref apr, .ref apw, .ref apt, .int xpc, .int xrn, .int xca, .int xst, .int xps])), (apr, .inl (kpr, 8, .inl xpr)), (apw, .inl (kpw, 64, .inl xpw)), (apt, .inl (kpt, 2, .inl xpt))]) [4, 5, 0, 1, 2, 3] rfl
                          have hD9 := hD.sub (ws' := [(aB, .inr (1, [.ref aP, .ref aba, .int xbs, .int xbd, .int xbe, .int v160.2])), (aba, .inl (kba, 4, .inl xba)), (aP, .inr (2, [.ref apr, .ref apw, .ref apt, .int xpc, .int xrn, .int xca, .int xst, .int xps])), (apr, .inl (kpr, 8, .inl xpr)), (apw, .inl (kpw, 64, .inl xpw)), (apt, .inl (kpt, 2, .inl xpt))]) [4, 5, 0, 1, 2, 3] (by decide) rfl
                          exact W.iret hx hb hr (fun t ht hW => ⟨⟨(xpw (Int32.toNatClampNeg v160.1)), v160.2, rfl, h, by rw [ht]; exact hP9, hD9⟩, hS.F ht⟩) hS.2.2 dX1_fetch_164
                        · have h := if_n h hc10
                          by_cases hc11 : z1 = (11 : Int32)
                          · have h := if_y h hc11
                            refine lv_tableIn (tgt := 169) (off := 123) hx hb dX1_fetch_46 (by rw [hc11]; decide) (by rw [hc11]; decide) (by rw [hc11]; rfl) (by decide) ?_
                            refine lv_iconst (v := (0 : Int32)) hx hb dX1_fetch_169 (by decide) ?_
                            exact W.iret hx hb hr (fun t ht hW => ⟨⟨(0 : Int32), xbx, rfl, h, by rw [ht]; exact hP, hD⟩, hS.F ht⟩) hS.2.2 dX1_fetch_170
                          · have h := if_n h hc11
                            by_cases hc12 : z1 = (12 : Int32)
                            · have h := if_y h hc12
                              refine lv_tableIn (tgt := 169) (off := 123) hx hb dX1_fetch_46 (by rw [hc12]; decide) (by rw [hc12]; decide) (by rw [hc12]; rfl) (by decide) ?_
                              refine lv_iconst (v := (0 : Int32)) hx hb dX1_fetch_169 (by decide) ?_
                              exact W.iret hx hb hr (fun t ht hW => ⟨⟨(0 : Int32), xbx, rfl, h, by rw [ht]; exact hP, hD⟩, hS.F ht⟩) hS.2.2 dX1_fetch_170
                            · have h := if_n h hc12
                              by_cases hc13 : z1 = (13 : Int32)
                              · have h := if_y h hc13
                                refine lv_tableIn (tgt := 165) (off := 119) hx hb dX1_fetch_46 (by rw [hc13]; decide) (by rw [hc13]; decide) (by rw [hc13]; rfl) (by decide) ?_
                                refine lv_sipush (v := (23130 : Int32)) hx hb dX1_fetch_165 (by decide) ?_
                                exact W.iret hx hb hr (fun t ht hW => ⟨⟨(23130 : Int32), xbx, rfl, h, by rw [ht]; exact hP, hD⟩, hS.F ht⟩) hS.2.2 dX1_fetch_168
                              · have h := if_n h hc13
                                have e0 := lv_neT (a := 0) hc0 (by decide)
                                have e1 := lv_neT (a := 1) hc1 (by decide)
                                have e2 := lv_neT (a := 2) hc2 (by decide)
                                have e3 := lv_neT (a := 3) hc3 (by decide)
                                have e4 := lv_neT (a := 4) hc4 (by decide)
                                have e5 := lv_neT (a := 5) hc5 (by decide)
                                have e6 := lv_neT (a := 6) hc6 (by decide)
                                have e7 := lv_neT (a := 7) hc7 (by decide)
                                have e8 := lv_neT (a := 8) hc8 (by decide)
                                have e9 := lv_neT (a := 9) hc9 (by decide)
                                have e10 := lv_neT (a := 10) hc10 (by decide)
                                have e11 := lv_neT (a := 11) hc11 (by decide)
                                have e12 := lv_neT (a := 12) hc12 (by decide)
                                have e13 := lv_neT (a := 13) hc13 (by decide)
                                refine lv_tableOut (tgt := 169) hx hb dX1_fetch_46 (by omega) (by decide) ?_
                                refine lv_iconst (v := (0 : Int32)) hx hb dX1_fetch_169 (by decide) ?_
                                exact W.iret hx hb hr (fun t ht hW => ⟨⟨(0 : Int32), xbx, rfl, h, by rw [ht]; exact hP, hD⟩, hS.F ht⟩) hS.2.2 dX1_fetch_170
  have hl := lv_entry ([.ref aB, .int j1]) (n := 2) (Nat.le_of_ble_eq_true rfl)
  rw [lg_entry_eq]
  generalize (lg_sl ([.ref aB, .int j1]) ++ List.replicate (2 - (lg_sl ([.ref aB, .int j1])).length) Slot.unset).toArray = ls at hl ⊢
  have hl : lv_has ls 2 [(0, .ref aB), (1, .int j1)] := hl
  unfold fn_B_fetch at h
  refine lv_iload_n hx hb dX1_fetch_0 rfl (lv_at hl 1 rfl) ?_
  refine lv_iconst (v := (5 : Int32)) hx hb dX1_fetch_1 (by decide) ?_
  refine lv_icmp_lt (tgt := 20) hx hb dX1_fetch_2 (by decide) (fun hc => ?_) (fun hc => ?_)
  · have h := if_y h hc
    refine lv_iload_n hx hb dX1_fetch_20 rfl (lv_at hl 1 rfl) ?_
    refine lv_bipush (v := (11 : Int32)) hx hb dX1_fetch_21 (by decide) ?_
    refine lv_icmp_lt (tgt := 45) hx hb dX1_fetch_23 (by decide) (fun hc => ?_) (fun hc => ?_)
    · have h := if_y h hc
      exact k_45 _ _ _ _ _ hP hD hS hl h
    · have h := if_n h hc
      refine lv_iload_n hx hb dX1_fetch_26 rfl (lv_at hl 1 rfl) ?_
      refine lv_bipush (v := (12 : Int32)) hx hb dX1_fetch_27 (by decide) ?_
      refine lv_icmp_gt (tgt := 45) hx hb dX1_fetch_29 (by decide) (fun hc => ?_) (fun hc => ?_)
      · have h := if_y h hc
        exact k_45 _ _ _ _ _ hP hD hS hl h
      · have h := if_n h hc
        refine lv_aload_n hx hb dX1_fetch_32 rfl (lv_at hl 0 rfl) ?_
        refine va_get (D := (dC, dI)) (ci := 1) (v := .ref aP) (C := RX1) (T := TX1) (N := 6) hx hb hts hinX1 hown hK hP 0 rfl rfl 0 (by decide) hf29 (fun _ h9 => h9) rfl dX1_fetch_33 ?_
        refine va_get (D := (dC, dI)) (ci := 2) (v := .ref apt) (C := RX2) (T := TX2) (N := 8) hx hb hts hinX2 hown hK hP 2 rfl rfl 2 (by decide) hf33 (fun _ h9 => h9) rfl dX1_fetch_36 ?_
        refine lv_iload_n hx hb dX1_fetch_39 rfl (lv_at hl 1 rfl) ?_
        refine lv_bipush (v := (11 : Int32)) hx hb dX1_fetch_40 (by decide) ?_
        refine lv_isub hx hb dX1_fetch_42 ?_
        obtain ⟨hi, h⟩ := ck_in h
        refine va_iald hx hb hK hP 5 3 rfl rfl hi dX1_fetch_43 ?_
        exact W.iret hx hb hr (fun t ht hW => ⟨⟨(xpt (Int32.toNatClampNeg (j1 - (11 : Int32)))), xbx, rfl, h, by rw [ht]; exact hP, hD⟩, hS.F ht⟩) hS.2.2 dX1_fetch_44
  · have h := if_n h hc
    refine lv_iload_n hx hb dX1_fetch_5 rfl (lv_at hl 1 rfl) ?_
    refine lv_bipush (v := (8 : Int32)) hx hb dX1_fetch_6 (by decide) ?_
    refine lv_icmp_gt (tgt := 20) hx hb dX1_fetch_8 (by decide) (fun hc => ?_) (fun hc => ?_)
    · have h := if_y h hc
      refine lv_iload_n hx hb dX1_fetch_20 rfl (lv_at hl 1 rfl) ?_
      refine lv_bipush (v := (11 : Int32)) hx hb dX1_fetch_21 (by decide) ?_
      refine lv_icmp_lt (tgt := 45) hx hb dX1_fetch_23 (by decide) (fun hc => ?_) (fun hc => ?_)
      · have h := if_y h hc
        exact k_45 _ _ _ _ _ hP hD hS hl h
      · have h := if_n h hc
        refine lv_iload_n hx hb dX1_fetch_26 rfl (lv_at hl 1 rfl) ?_
        refine lv_bipush (v := (12 : Int32)) hx hb dX1_fetch_27 (by decide) ?_
        refine lv_icmp_gt (tgt := 45) hx hb dX1_fetch_29 (by decide) (fun hc => ?_) (fun hc => ?_)
        · have h := if_y h hc
          exact k_45 _ _ _ _ _ hP hD hS hl h
        · have h := if_n h hc
          refine lv_aload_n hx hb dX1_fetch_32 rfl (lv_at hl 0 rfl) ?_
          refine va_get (D := (dC, dI)) (ci := 1) (v := .ref aP) (C := RX1) (T := TX1) (N := 6) hx hb hts hinX1 hown hK hP 0 rfl rfl 0 (by decide) hf29 (fun _ h9 => h9) rfl dX1_fetch_33 ?_
          refine va_get (D := (dC, dI)) (ci := 2) (v := .ref apt) (C := RX2) (T := TX2) (N := 8) hx hb hts hinX2 hown hK hP 2 rfl rfl 2 (by decide) hf33 (fun _ h9 => h9) rfl dX1_fetch_36 ?_
          refine lv_iload_n hx hb dX1_fetch_39 rfl (lv_at hl 1 rfl) ?_
          refine lv_bipush (v := (11 : Int32)) hx hb dX1_fetch_40 (by decide) ?_
          refine lv_isub hx hb dX1_fetch_42 ?_
          obtain ⟨hi, h⟩ := ck_in h
          refine va_iald hx hb hK hP 5 3 rfl rfl hi dX1_fetch_43 ?_
          exact W.iret hx hb hr (fun t ht hW => ⟨⟨(xpt (Int32.toNatClampNeg (j1 - (11 : Int32)))), xbx, rfl, h, by rw [ht]; exact hP, hD⟩, hS.F ht⟩) hS.2.2 dX1_fetch_44
    · have h := if_n h hc
      refine lv_aload_n hx hb dX1_fetch_11 rfl (lv_at hl 0 rfl) ?_
      refine va_get (D := (dC, dI)) (ci := 1) (v := .ref aba) (C := RX1) (T := TX1) (N := 6) hx hb hts hinX1 hown hK hP 0 rfl rfl 1 (by decide) hf11 (fun _ h9 => h9) rfl dX1_fetch_12 ?_
      refine lv_iload_n hx hb dX1_fetch_15 rfl (lv_at hl 1 rfl) ?_
      refine lv_iconst (v := (5 : Int32)) hx hb dX1_fetch_16 (by decide) ?_
      refine lv_isub hx hb dX1_fetch_17 ?_
      obtain ⟨hi, h⟩ := ck_in h
      refine va_iald hx hb hK hP 1 0 rfl rfl hi dX1_fetch_18 ?_
      exact W.iret hx hb hr (fun t ht hW => ⟨⟨(xba (Int32.toNatClampNeg (j1 - (5 : Int32)))), xbx, rfl, h, by rw [ht]; exact hP, hD⟩, hS.F ht⟩) hS.2.2 dX1_fetch_19
set_option maxHeartbeats 4000000 in
set_option maxRecDepth 100000 in
theorem ct_B_put (l : Launch) (dC : Nat → ClassId) (dI : Nat → Nat → Nat) (aB aba aP apr apw apt : Nat) (kba kpr kpw kpt : ClassId) (sz : Nat) (xba : (Nat → Int32)) (xbs : Int32) (xbd : Int32) (xbe : Int32) (xbx : Int32) (xpr : (Nat → Int32)) (xpw : (Nat → Int32)) (xpt : (Nat → Int32)) (xpc : Int32) (xrn : Int32) (xca : Int32) (xst : Int32) (xps : Int32) (j1 j2 : Int32) (o : (Nat → Int32) × Int32 × Int32 × Int32 × Int32 × (Nat → Int32) × (Nat → Int32) × (Nat → Int32) × Int32 × Int32 × Int32 × Int32 × Int32) (h : fn_B_put xba xbs xbd xbe xbx xpr xpw xpt xpc xrn xca xst xps j1 j2 = some o) : Met l yX1_put wsX1_put ({ frames := 3, cells := 0, slots := 0, locals := 68 }) (va_Pc [.ref aB, .int j1, .int j2] (fun U => U.heap.size = sz ∧ va_P (dC, dI) vwCl [(aB, .inr (1, [.ref aP, .ref aba, .int xbs, .int xbd, .int xbe, .int xbx])), (aba, .inl (kba, 4, .inl xba)), (aP, .inr (2, [.ref apr, .ref apw, .ref apt, .int xpc, .int xrn, .int xca, .int xst, .int xps])), (apr, .inl (kpr, 8, .inl xpr)), (apw, .inl (kpw, 64, .inl xpw)), (apt, .inl (kpt, 2, .inl xpt))] U.heap ∧ va_K (dC, dI) vwCl [(kba, .int), (kpr, .int), (kpw, .int), (kpt, .int)] U ∧ va_D (fun _ => True) [(aB, .inr (1, [.ref aP, .ref aba, .int xbs, .int xbd, .int xbe, .int xbx])), (aba, .inl (kba, 4, .inl xba)), (aP, .inr (2, [.ref apr, .ref apw, .ref apt, .int xpc, .int xrn, .int xca, .int xst, .int xps])), (apr, .inl (kpr, 8, .inl xpr)), (apw, .inl (kpw, 64, .inl xpw)), (apt, .inl (kpt, 2, .inl xpt))])) (va_Qv (fun (u : (Nat → Int32) × Int32 × Int32 × Int32 × Int32 × (Nat → Int32) × (Nat → Int32) × (Nat → Int32) × Int32 × Int32 × Int32 × Int32 × Int32) => some u = some o) (fun (u : (Nat → Int32) × Int32 × Int32 × Int32 × Int32 × (Nat → Int32) × (Nat → Int32) × (Nat → Int32) × Int32 × Int32 × Int32 × Int32 × Int32) (t : State) => va_P (dC, dI) vwCl [(aB, .inr (1, [.ref aP, .ref aba, .int u.2.1, .int u.2.2.1, .int u.2.2.2.1, .int u.2.2.2.2.1])), (aba, .inl (kba, 4, .inl u.1)), (aP, .inr (2, [.ref apr, .ref apw, .ref apt, .int u.2.2.2.2.2.2.2.2.1, .int u.2.2.2.2.2.2.2.2.2.1, .int u.2.2.2.2.2.2.2.2.2.2.1, .int u.2.2.2.2.2.2.2.2.2.2.2.1, .int u.2.2.2.2.2.2.2.2.2.2.2.2])), (apr, .inl (kpr, 8, .inl u.2.2.2.2.2.1)), (apw, .inl (kpw, 64, .inl u.2.2.2.2.2.2.1)), (apt, .inl (kpt, 2, .inl u.2.2.2.2.2.2.2.1))] t.heap ∧ va_D (va_A [(aB, .inr (1, [.ref aP, .ref aba, .int xbs, .int xbd, .int xbe, .int xbx])), (aba, .inl (kba, 4, .inl xba)), (aP, .inr (2, [.ref apr, .ref apw, .ref apt, .int xpc, .int xrn, .int xca, .int xst, .int xps])), (apr, .inl (kpr, 8, .inl xpr)), (apw, .inl (kpw, 64, .inl xpw)), (apt, .inl (kpt, 2, .inl xpt))] sz) [(aB, .inr (1, [.ref aP, .ref aba, .int u.2.1, .int u.2.2.1, .int u.2.2.2.1, .int u.2.2.2.2.1])), (aba, .inl (kba, 4, .inl u.1)), (aP, .inr (2, [.ref apr, .ref apw, .ref apt, .int u.2.2.2.2.2.2.2.2.1, .int u.2.2.2.2.2.2.2.2.2.1, .int u.2.2.2.2.2.2.2.2.2.2.1, .int u.2.2.2.2.2.2.2.2.2.2.2.1, .int u.2.2.2.2.2.2.2.2.2.2.2.2])), (apr, .inl (kpr, 8, .inl u.2.2.2.2.2.1)), (apw, .inl (kpw, 64, .inl u.2.2.2.2.2.2.1)), (apt, .inl (kpt, 2, .inl u.2.2.2.2.2.2.2.1))]) (va_A [(aB, .inr (1, [.ref aP, .ref aba, .int xbs, .int xbd, .int xbe, .int xbx])), (aba, .inl (kba, 4, .inl xba)), (aP, .inr (2, [.ref apr, .ref apw, .ref apt, .int xpc, .int xrn, .int xca, .int xst, .int xps])), (apr, .inl (kpr, 8, .inl xpr)), (apw, .inl (kpw, 64, .inl xpw)), (apt, .inl (kpt, 2, .inl xpt))] sz)) 0 0 (va_A [(aB, .inr (1, [.ref aP, .ref aba, .int xbs, .int xbd, .int xbe, .int xbx])), (aba, .inl (kba, 4, .inl xba)), (aP, .inr (2, [.ref apr, .ref apw, .ref apt, .int xpc, .int xrn, .int xca, .int xst, .int xps])), (apr, .inl (kpr, 8, .inl xpr)), (apw, .inl (kpw, 64, .inl xpw)), (apt, .inl (kpt, 2, .inl xpt))] sz) := by
  refine Met.ofW (cc := cX1_put) (maxL := 3) (ret := none) (by decide) rfl ?_
  intro p e s m args below meth c s₁ B hml hv
  obtain ⟨rfl, hsz, hP, hK, hD0⟩ := hv
  have hx := B.exec
  have hb := B.bytes
  have hr := B.returns
  have hts := atoms_spec (ws := wsX1_put) B.pre
  have hown : s.vm.findClass RX1 = some m.cls := findClass_of_methodNamed B.named
  have hlocks := B.notSynchronized
  subst hsz
  have hD := hD0.self (sz := s.heap.size)
  generalize hAe : va_A [(aB, .inr (1, [.ref aP, .ref aba, .int xbs, .int xbd, .int xbe, .int xbx])), (aba, .inl (kba, 4, .inl xba)), (aP, .inr (2, [.ref apr, .ref apw, .ref apt, .int xpc, .int xrn, .int xca, .int xst, .int xps])), (apr, .inl (kpr, 8, .inl xpr)), (apw, .inl (kpw, 64, .inl xpw)), (apt, .inl (kpt, 2, .inl xpt))] s.heap.size = A at hD ⊢
  have hA : ∀ q : Nat, s.heap.size ≤ q → A q := fun q h => by rw [← hAe]; exact Or.inr h
  have hS : va_S A s.heap s.heap [] := va_S.rf
  have hP : va_P (dC, dI) vwCl [(aB, .inr (1, [.ref aP, .ref aba, .int xbs, .int xbd, .int xbe, .int xbx])), (aba, .inl (kba, 4, .inl xba)), (aP, .inr (2, [.ref apr, .ref apw, .ref apt, .int xpc, .int xrn, .int xca, .int xst, .int xps])), (apr, .inl (kpr, 8, .inl xpr)), (apw, .inl (kpw, 64, .inl xpw)), (apt, .inl (kpt, 2, .inl xpt))] s.heap := hP
  have hf11 := hts (.fieldLink RX1 11 "ProbeBench$Probe" "program" "[I") (by decide +kernel)
  have hf19 := hts (.fieldLink RX1 19 "ProbeBench$Probe" "data" "I") (by decide +kernel)
  have hf23 := hts (.fieldLink RX1 23 "ProbeBench$Probe" "error" "I") (by decide +kernel)
  have hf26 := hts (.fieldLink RX1 26 "ProbeBench$Probe" "address" "I") (by decide +kernel)
  have hf29 := hts (.fieldLink RX1 29 "ProbeBench$Probe" "processor" "LProbeBench$Processor;") (by decide +kernel)
  have hf42 := hts (.fieldLink RX1 42 "ProbeBench$Processor" "words" "[I") (by decide +kernel)
  have hinX1 : ∀ w ∈ u_ws RX1 TX1 6, w ∈ wsX1_put := by decide +kernel
  have hinX2 : ∀ w ∈ u_ws RX2 TX2 8, w ∈ wsX1_put := by decide +kernel
  have k_46 : ∀ (H : Heap) (locs : List Loc) (ls : Array Slot) (xba : (Nat → Int32)) (xbs : Int32) (xbd : Int32) (xbe : Int32) (xbx : Int32) (xpr : (Nat → Int32)) (xpw : (Nat → Int32)) (xpt : (Nat → Int32)) (xpc : Int32) (xrn : Int32) (xca : Int32) (xst : Int32) (xps : Int32) (z1 : Int32) (z2 : Int32), va_P (dC, dI) vwCl [(aB, .inr (1, [.ref aP, .ref aba, .int xbs, .int xbd, .int xbe, .int xbx])), (aba, .inl (kba, 4, .inl xba)), (aP, .inr (2, [.ref apr, .ref apw, .ref apt, .int xpc, .int xrn, .int xca, .int xst, .int xps])), (apr, .inl (kpr, 8, .inl xpr)), (apw, .inl (kpw, 64, .inl xpw)), (apt, .inl (kpt, 2, .inl xpt))] H → va_D A [(aB, .inr (1, [.ref aP, .ref aba, .int xbs, .int xbd, .int xbe, .int xbx])), (aba, .inl (kba, 4, .inl xba)), (aP, .inr (2, [.ref apr, .ref apw, .ref apt, .int xpc, .int xrn, .int xca, .int xst, .int xps])), (apr, .inl (kpr, 8, .inl xpr)), (apw, .inl (kpw, 64, .inl xpw)), (apt, .inl (kpt, 2, .inl xpt))] → va_S A s.heap H locs → lv_has ls 3 [(0, .ref aB), (1, .int z1), (2, .int z2)] → fn_B_put_J46 xba xbs xbd xbe xbx xpr xpw xpt xpc xrn xca xst xps z1 z2 = some o → W p l e (headSpec wsX1_put ({ frames := 3, cells := 0, slots := 0, locals := 68 })).room s m ([.ref aB, .int j1, .int j2] : List Value).toArray below meth c H locs 0 0 (MQ below (va_Qv (fun (u : (Nat → Int32) × Int32 × Int32 × Int32 × Int32 × (Nat → Int32) × (Nat → Int32) × (Nat → Int32) × Int32 × Int32 × Int32 × Int32 × Int32) => some u = some o) (fun (u : (Nat → Int32) × Int32 × Int32 × Int32 × Int32 × (Nat → Int32) × (Nat → Int32) × (Nat → Int32) × Int32 × Int32 × Int32 × Int32 × Int32) (t : State) => va_P (dC, dI) vwCl [(aB, .inr (1, [.ref aP, .ref aba, .int u.2.1, .int u.2.2.1, .int u.2.2.2.1, .int u.2.2.2.2.1])), (aba, .inl (kba, 4, .inl u.1)), (aP, .inr (2, [.ref apr, .ref apw, .ref apt, .int u.2.2.2.2.2.2.2.2.1, .int u.2.2.2.2.2.2.2.2.2.1, .int u.2.2.2.2.2.2.2.2.2.2.1, .int u.2.2.2.2.2.2.2.2.2.2.2.1, .int u.2.2.2.2.2.2.2.2.2.2.2.2])), (apr, .inl (kpr, 8, .inl u.2.2.2.2.2.1)), (apw, .inl (kpw, 64, .inl u.2.2.2.2.2.2.1)), (apt, .inl (kpt, 2, .inl u.2.2.2.2.2.2.2.1))] t.heap ∧ va_D A [(aB, .inr (1, [.ref aP, .ref aba, .int u.2.1, .int u.2.2.1, .int u.2.2.2.1, .int u.2.2.2.2.1])), (aba, .inl (kba, 4, .inl u.1)), (aP, .inr (2, [.ref apr, .ref apw, .ref apt, .int u.2.2.2.2.2.2.2.2.1, .int u.2.2.2.2.2.2.2.2.2.1, .int u.2.2.2.2.2.2.2.2.2.2.1, .int u.2.2.2.2.2.2.2.2.2.2.2.1, .int u.2.2.2.2.2.2.2.2.2.2.2.2])), (apr, .inl (kpr, 8, .inl u.2.2.2.2.2.1)), (apw, .inl (kpw, 64, .inl u.2.2.2.2.2.2.1)), (apt, .inl (kpt, 2, .inl u.2.2.2.2.2.2.2.1))]) A) ([.ref aB, .int j1, .int j2] : List Value).toArray s 0 0 A) (F0 m 46 ls []) := by
    intro H locs ls xba xbs xbd xbe xbx xpr xpw xpt xpc xrn xca xst xps z1 z2 hP hD hS hl h
    unfold fn_B_put_J46 at h
    refine lv_iload_n hx hb dX1_put_46 rfl (lv_at hl 1 rfl) ?_
    by_cases hc0 : z1 = (0 : Int32)
    · have h := if_y h hc0
      refine lv_tableIn (tgt := 104) (off := 57) hx hb dX1_put_47 (by rw [hc0]; decide) (by rw [hc0]; decide) (by rw [hc0]; rfl) (by decide) ?_
      refine lv_aload_n hx hb dX1_put_104 rfl (lv_at hl 0 rfl) ?_
      refine lv_iload_n hx hb dX1_put_105 rfl (lv_at hl 2 rfl) ?_
      obtain ⟨v106, hv, h⟩ := bn_ex h
      have hPc := hP.sub (ws' := [(aB, .inr (1, [.ref aP, .ref aba, .int xbs, .int xbd, .int xbe, .int xbx])), (aba, .inl (kba, 4, .inl xba)), (aP, .inr (2, [.ref apr, .ref apw, .ref apt, .int xpc, .int xrn, .int xca, .int xst, .int xps])), (apr, .inl (kpr, 8, .inl xpr)), (apw, .inl (kpw, 64, .inl xpw)), (apt, .inl (kpt, 2, .inl xpt))]) [0, 1, 2, 3, 4, 5] rfl
      have hDc := hD.sub (ws' := [(aB, .inr (1, [.ref aP, .ref aba, .int xbs, .int xbd, .int xbe, .int xbx])), (aba, .inl (kba, 4, .inl xba)), (aP, .inr (2, [.ref apr, .ref apw, .ref apt, .int xpc, .int xrn, .int xca, .int xst, .int xps])), (apr, .inl (kpr, 8, .inl xpr)), (apw, .inl (kpw, 64, .inl xpw)), (apt, .inl (kpt, 2, .inl xpt))]) [0, 1, 2, 3, 4, 5] (by decide) rfl
      have hKc := hK.sub (tys' := [(kba, .int), (kpr, .int), (kpw, .int), (kpt, .int)]) [0, 1, 2, 3] rfl
      have hFc := va_free (wc := [(aB, .inr (1, [.ref aP, .ref aba, .int xbs, .int xbd, .int xbe, .int xbx])), (aba, .inl (kba, 4, .inl xba)), (aP, .inr (2, [.ref apr, .ref apw, .ref apt, .int xpc, .int xrn, .int xca, .int xst, .int xps])), (apr, .inl (kpr, 8, .inl xpr)), (apw, .inl (kpw, 64, .inl xpw)), (apt, .inl (kpt, 2, .inl xpt))]) hD hS hA [0, 1, 2, 3, 4, 5] rfl
      refine va_callv (va_runV (As := [.int z2]) (rest := []) ⟨hx, hb, hml, hown, hts⟩ (ct_B_control l dC dI aB aba aP apr apw apt kba kpr kpw kpt H.size xba xbs xbd xbe xbx xpr xpw xpt xpc xrn xca xst xps z2 v106 hv) (cwV 1 hts gX1_put_X1_control rfl rfl rfl (by decide +kernel) ⟨Nat.le_of_ble_eq_true rfl, Nat.le_of_ble_eq_true rfl⟩) ⟨fun a U g mk q => by obtain ⟨q0, q1, qP, qK, qD⟩ := q; exact ⟨q0, q1, qP, va_K.moved (u := U) (U := U.calling g mk a) (Vm.Alike.refl U.vm) qK, qD⟩, va_recv (ci := 1) (q0 := 0) hK hP rfl rfl, fun U hU hW => ⟨rfl, by rw [hU], by rw [hU]; exact hPc, va_K.moved hW.alike hKc, hDc.weaken (fun _ _ _ _ => trivial)⟩⟩ rfl rfl hl.1 rfl (lv_room (Nat.le_of_ble_eq_true rfl)) dX1_put_106 ⟨Nat.zero_le _, Nat.zero_le _⟩) hS (fun q _ h => hFc q h) hFc (fun u t H locs ht hvm hw hB hz1 hk1 hS => ?_)
      obtain rfl := pr_0 hw
      obtain ⟨hP1, hD1⟩ := hB
      rw [ht] at hP1
      obtain ⟨hP, hD⟩ := va_join (wr := []) (w1 := [(aB, .inr (1, [.ref aP, .ref aba, .int v106.1, .int xbd, .int xbe, .int xbx])), (aba, .inl (kba, 4, .inl xba)), (aP, .inr (2, [.ref apr, .ref apw, .ref apt, .int v106.2.2.2.1, .int v106.2.2.2.2.1, .int v106.2.2.2.2.2.1, .int v106.2.2.2.2.2.2.1, .int v106.2.2.2.2.2.2.2])), (apr, .inl (kpr, 8, .inl v106.2.1)), (apw, .inl (kpw, 64, .inl v106.2.2.1)), (apt, .inl (kpt, 2, .inl xpt))]) hP hD [0, 1, 2, 3, 4, 5] [] rfl rfl (by decide) (by decide) hk1 hFc hP1 hD1
      have hP : va_P (dC, dI) vwCl [(aB, .inr (1, [.ref aP, .ref aba, .int v106.1, .int xbd, .int xbe, .int xbx])), (aba, .inl (kba, 4, .inl xba)), (aP, .inr (2, [.ref apr, .ref apw, .ref apt, .int v106.2.2.2.1, .int v106.2.2.2.2.1, .int v106.2.2.2.2.2.1, .int v106.2.2.2.2.2.2.1, .int v106.2.2.2.2.2.2.2])), (apr, .inl (kpr, 8, .inl v106.2.1)), (apw, .inl (kpw, 64, .inl v106.2.2.1)), (apt, .inl (kpt, 2, .inl xpt))] H := hP
      have hD : va_D A [(aB, .inr (1, [.ref aP, .ref aba, .int v106.1, .int xbd, .int xbe, .int xbx])), (aba, .inl (kba, 4, .inl xba)), (aP, .inr (2, [.ref apr, .ref apw, .ref apt, .int v106.2.2.2.1, .int v106.2.2.2.2.1, .int v106.2.2.2.2.2.1, .int v106.2.2.2.2.2.2.1, .int v106.2.2.2.2.2.2.2])), (apr, .inl (kpr, 8, .inl v106.2.1)), (apw, .inl (kpw, 64, .inl v106.2.2.1)), (apt, .inl (kpt, 2, .inl xpt))] := hD
      refine lv_goto (tgt := 177) hx hb dX1_put_109 (by decide) ?_
      exact W.vret hx hb hr (fun t ht hW => ⟨⟨(xba, v106.1, xbd, xbe, xbx, v106.2.1, v106.2.2.1, xpt, v106.2.2.2.1, v106.2.2.2.2.1, v106.2.2.2.2.2.1, v106.2.2.2.2.2.2.1, v106.2.2.2.2.2.2.2), rfl, h, by rw [ht]; exact hP, hD⟩, hS.F ht⟩) hS.2.2 dX1_put_177
    · have h := if_n h hc0
      by_cases hc1 : z1 = (1 : Int32)
      · have h := if_y h hc1
        refine lv_tableIn (tgt := 177) (off := 130) hx hb dX1_put_47 (by rw [hc1]; decide) (by rw [hc1]; decide) (by rw [hc1]; rfl) (by decide) ?_
        exact W.vret hx hb hr (fun t ht hW => ⟨⟨(xba, xbs, xbd, xbe, xbx, xpr, xpw, xpt, xpc, xrn, xca, xst, xps), rfl, h, by rw [ht]; exact hP, hD⟩, hS.F ht⟩) hS.2.2 dX1_put_177
      · have h := if_n h hc1
        by_cases hc2 : z1 = (2 : Int32)
        · have h := if_y h hc2
          refine lv_tableIn (tgt := 112) (off := 65) hx hb dX1_put_47 (by rw [hc2]; decide) (by rw [hc2]; decide) (by rw [hc2]; rfl) (by decide) ?_
          refine lv_aload_n hx hb dX1_put_112 rfl (lv_at hl 0 rfl) ?_
          refine lv_iload_n hx hb dX1_put_113 rfl (lv_at hl 2 rfl) ?_
          refine va_put (D := (dC, dI)) (ci := 1) (v := .int z2) (ty := .int) (C := RX1) (T := TX1) (N := 6) hx hb hts hinX1 tyX1 tyX1_ok nmX1 hown hK hP hD hS 0 rfl rfl 3 (by decide) hf19 (fun _ h9 => h9) rfl (by decide +kernel) rfl rfl (Nat.le_of_ble_eq_true rfl) dX1_put_114 (fun H locs hP hD hS => ?_)
          have hP : va_P (dC, dI) vwCl [(aB, .inr (1, [.ref aP, .ref aba, .int xbs, .int z2, .int xbe, .int xbx])), (aba, .inl (kba, 4, .inl xba)), (aP, .inr (2, [.ref apr, .ref apw, .ref apt, .int xpc, .int xrn, .int xca, .int xst, .int xps])), (apr, .inl (kpr, 8, .inl xpr)), (apw, .inl (kpw, 64, .inl xpw)), (apt, .inl (kpt, 2, .inl xpt))] H := hP
          have hD : va_D A [(aB, .inr (1, [.ref aP, .ref aba, .int xbs, .int z2, .int xbe, .int xbx])), (aba, .inl (kba, 4, .inl xba)), (aP, .inr (2, [.ref apr, .ref apw, .ref apt, .int xpc, .int xrn, .int xca, .int xst, .int xps])), (apr, .inl (kpr, 8, .inl xpr)), (apw, .inl (kpw, 64, .inl xpw)), (apt, .inl (kpt, 2, .inl xpt))] := hD
          refine lv_goto (tgt := 177) hx hb dX1_put_117 (by decide) ?_
          exact W.vret hx hb hr (fun t ht hW => ⟨⟨(xba, xbs, z2, xbe, xbx, xpr, xpw, xpt, xpc, xrn, xca, xst, xps), rfl, h, by rw [ht]; exact hP, hD⟩, hS.F ht⟩) hS.2.2 dX1_put_177
        · have h := if_n h hc2
          by_cases hc3 : z1 = (3 : Int32)
          · have h := if_y h hc3
            refine lv_tableIn (tgt := 120) (off := 73) hx hb dX1_put_47 (by rw [hc3]; decide) (by rw [hc3]; decide) (by rw [hc3]; rfl) (by decide) ?_
            refine lv_aload_n hx hb dX1_put_120 rfl (lv_at hl 0 rfl) ?_
            refine lv_iload_n hx hb dX1_put_121 rfl (lv_at hl 2 rfl) ?_
            obtain ⟨v122, hv, h⟩ := bn_ex h
            have hPc := hP.sub (ws' := [(aB, .inr (1, [.ref aP, .ref aba, .int xbs, .int xbd, .int xbe, .int xbx])), (aba, .inl (kba, 4, .inl xba)), (aP, .inr (2, [.ref apr, .ref apw, .ref apt, .int xpc, .int xrn, .int xca, .int xst, .int xps])), (apr, .inl (kpr, 8, .inl xpr)), (apw, .inl (kpw, 64, .inl xpw)), (apt, .inl (kpt, 2, .inl xpt))]) [0, 1, 2, 3, 4, 5] rfl
            have hDc := hD.sub (ws' := [(aB, .inr (1, [.ref aP, .ref aba, .int xbs, .int xbd, .int xbe, .int xbx])), (aba, .inl (kba, 4, .inl xba)), (aP, .inr (2, [.ref apr, .ref apw, .ref apt, .int xpc, .int xrn, .int xca, .int xst, .int xps])), (apr, .inl (kpr, 8, .inl xpr)), (apw, .inl (kpw, 64, .inl xpw)), (apt, .inl (kpt, 2, .inl xpt))]) [0, 1, 2, 3, 4, 5] (by decide) rfl
            have hKc := hK.sub (tys' := [(kba, .int), (kpr, .int), (kpw, .int), (kpt, .int)]) [0, 1, 2, 3] rfl
            have hFc := va_free (wc := [(aB, .inr (1, [.ref aP, .ref aba, .int xbs, .int xbd, .int xbe, .int xbx])), (aba, .inl (kba, 4, .inl xba)), (aP, .inr (2, [.ref apr, .ref apw, .ref apt, .int xpc, .int xrn, .int xca, .int xst, .int xps])), (apr, .inl (kpr, 8, .inl xpr)), (apw, .inl (kpw, 64, .inl xpw)), (apt, .inl (kpt, 2, .inl xpt))]) hD hS hA [0, 1, 2, 3, 4, 5] rfl
            refine va_callv (va_runV (As := [.int z2]) (rest := []) ⟨hx, hb, hml, hown, hts⟩ (ct_B_command l dC dI aB aba aP apr apw apt kba kpr kpw kpt H.size xba xbs xbd xbe xbx xpr xpw xpt xpc xrn xca xst xps z2 v122 hv) (cwV 1 hts gX1_put_X1_command rfl rfl rfl (by decide +kernel) ⟨Nat.le_of_ble_eq_true rfl, Nat.le_of_ble_eq_true rfl⟩) ⟨fun a U g mk q => by obtain ⟨q0, q1, qP, qK, qD⟩ := q; exact ⟨q0, q1, qP, va_K.moved (u := U) (U := U.calling g mk a) (Vm.Alike.refl U.vm) qK, qD⟩, va_recv (ci := 1) (q0 := 0) hK hP rfl rfl, fun U hU hW => ⟨rfl, by rw [hU], by rw [hU]; exact hPc, va_K.moved hW.alike hKc, hDc.weaken (fun _ _ _ _ => trivial)⟩⟩ rfl rfl hl.1 rfl (lv_room (Nat.le_of_ble_eq_true rfl)) dX1_put_122 ⟨Nat.zero_le _, Nat.zero_le _⟩) hS (fun q _ h => hFc q h) hFc (fun u t H locs ht hvm hw hB hz1 hk1 hS => ?_)
            obtain rfl := pr_0 hw
            obtain ⟨hP1, hD1⟩ := hB
            rw [ht] at hP1
            obtain ⟨hP, hD⟩ := va_join (wr := []) (w1 := [(aB, .inr (1, [.ref aP, .ref aba, .int xbs, .int v122.1, .int v122.2.1, .int xbx])), (aba, .inl (kba, 4, .inl xba)), (aP, .inr (2, [.ref apr, .ref apw, .ref apt, .int v122.2.2.2.2, .int xrn, .int xca, .int xst, .int xps])), (apr, .inl (kpr, 8, .inl v122.2.2.1)), (apw, .inl (kpw, 64, .inl v122.2.2.2.1)), (apt, .inl (kpt, 2, .inl xpt))]) hP hD [0, 1, 2, 3, 4, 5] [] rfl rfl (by decide) (by decide) hk1 hFc hP1 hD1
            have hP : va_P (dC, dI) vwCl [(aB, .inr (1, [.ref aP, .ref aba, .int xbs, .int v122.1, .int v122.2.1, .int xbx])), (aba, .inl (kba, 4, .inl xba)), (aP, .inr (2, [.ref apr, .ref apw, .ref apt, .int v122.2.2.2.2, .int xrn, .int xca, .int xst, .int xps])), (apr, .inl (kpr, 8, .inl v122.2.2.1)), (apw, .inl (kpw, 64, .inl v122.2.2.2.1)), (apt, .inl (kpt, 2, .inl xpt))] H := hP
            have hD : va_D A [(aB, .inr (1, [.ref aP, .ref aba, .int xbs, .int v122.1, .int v122.2.1, .int xbx])), (aba, .inl (kba, 4, .inl xba)), (aP, .inr (2, [.ref apr, .ref apw, .ref apt, .int v122.2.2.2.2, .int xrn, .int xca, .int xst, .int xps])), (apr, .inl (kpr, 8, .inl v122.2.2.1)), (apw, .inl (kpw, 64, .inl v122.2.2.2.1)), (apt, .inl (kpt, 2, .inl xpt))] := hD
            refine lv_goto (tgt := 177) hx hb dX1_put_125 (by decide) ?_
            exact W.vret hx hb hr (fun t ht hW => ⟨⟨(xba, xbs, v122.1, v122.2.1, xbx, v122.2.2.1, v122.2.2.2.1, xpt, v122.2.2.2.2, xrn, xca, xst, xps), rfl, h, by rw [ht]; exact hP, hD⟩, hS.F ht⟩) hS.2.2 dX1_put_177
          · have h := if_n h hc3
            by_cases hc4 : z1 = (4 : Int32)
            · have h := if_y h hc4
              refine lv_tableIn (tgt := 128) (off := 81) hx hb dX1_put_47 (by rw [hc4]; decide) (by rw [hc4]; decide) (by rw [hc4]; rfl) (by decide) ?_
              refine lv_aload_n hx hb dX1_put_128 rfl (lv_at hl 0 rfl) ?_
              refine lv_iload_n hx hb dX1_put_129 rfl (lv_at hl 2 rfl) ?_
              refine lv_iconst (v := (1 : Int32)) hx hb dX1_put_130 (by decide) ?_
              refine lv_iand hx hb dX1_put_131 ?_
              refine lv_iconst (v := (1 : Int32)) hx hb dX1_put_132 (by decide) ?_
              refine lv_icmp_ne (tgt := 140) hx hb dX1_put_133 (by decide) (fun hc => ?_) (fun hc => ?_)
              · have h := if_n h hc
                refine lv_aload_n hx hb dX1_put_140 rfl (lv_at hl 0 rfl) ?_
                refine va_get (D := (dC, dI)) (ci := 1) (v := .int xbe) (C := RX1) (T := TX1) (N := 6) hx hb hts hinX1 hown hK hP 0 rfl rfl 4 (by decide) hf23 (fun _ h9 => h9) rfl dX1_put_141 ?_
                refine va_put (D := (dC, dI)) (ci := 1) (v := .int xbe) (ty := .int) (C := RX1) (T := TX1) (N := 6) hx hb hts hinX1 tyX1 tyX1_ok nmX1 hown hK hP hD hS 0 rfl rfl 4 (by decide) hf23 (fun _ h9 => h9) rfl (by decide +kernel) rfl rfl (Nat.le_of_ble_eq_true rfl) dX1_put_144 (fun H locs hP hD hS => ?_)
                have hP : va_P (dC, dI) vwCl [(aB, .inr (1, [.ref aP, .ref aba, .int xbs, .int xbd, .int xbe, .int xbx])), (aba, .inl (kba, 4, .inl xba)), (aP, .inr (2, [.ref apr, .ref apw, .ref apt, .int xpc, .int xrn, .int xca, .int xst, .int xps])), (apr, .inl (kpr, 8, .inl xpr)), (apw, .inl (kpw, 64, .inl xpw)), (apt, .inl (kpt, 2, .inl xpt))] H := hP
                have hD : va_D A [(aB, .inr (1, [.ref aP, .ref aba, .int xbs, .int xbd, .int xbe, .int xbx])), (aba, .inl (kba, 4, .inl xba)), (aP, .inr (2, [.ref apr, .ref apw, .ref apt, .int xpc, .int xrn, .int xca, .int xst, .int xps])), (apr, .inl (kpr, 8, .inl xpr)), (apw, .inl (kpw, 64, .inl xpw)), (apt, .inl (kpt, 2, .inl xpt))] := hD
                refine lv_goto (tgt := 177) hx hb dX1_put_147 (by decide) ?_
                exact W.vret hx hb hr (fun t ht hW => ⟨⟨(xba, xbs, xbd, xbe, xbx, xpr, xpw, xpt, xpc, xrn, xca, xst, xps), rfl, h, by rw [ht]; exact hP, hD⟩, hS.F ht⟩) hS.2.2 dX1_put_177
              · have h := if_y h hc
                refine lv_iconst (v := (0 : Int32)) hx hb dX1_put_136 (by decide) ?_
                refine lv_goto (tgt := 144) hx hb dX1_put_137 (by decide) ?_
                refine va_put (D := (dC, dI)) (ci := 1) (v := .int (0 : Int32)) (ty := .int) (C := RX1) (T := TX1) (N := 6) hx hb hts hinX1 tyX1 tyX1_ok nmX1 hown hK hP hD hS 0 rfl rfl 4 (by decide) hf23 (fun _ h9 => h9) rfl (by decide +kernel) rfl rfl (Nat.le_of_ble_eq_true rfl) dX1_put_144 (fun H locs hP hD hS => ?_)
                have hP : va_P (dC, dI) vwCl [(aB, .inr (1, [.ref aP, .ref aba, .int xbs, .int xbd, .int (0 : Int32), .int xbx])), (aba, .inl (kba, 4, .inl xba)), (aP, .inr (2, [.ref apr, .ref apw, .ref apt, .int xpc, .int xrn, .int xca, .int xst, .int xps])), (apr, .inl (kpr, 8, .inl xpr)), (apw, .inl (kpw, 64, .inl xpw)), (apt, .inl (kpt, 2, .inl xpt))] H := hP
                have hD : va_D A [(aB, .inr (1, [.ref aP, .ref aba, .int xbs, .int xbd, .int (0 : Int32), .int xbx])), (aba, .inl (kba, 4, .inl xba)), (aP, .inr (2, [.ref apr, .ref apw, .ref apt, .int xpc, .int xrn, .int xca, .int xst, .int xps])), (apr, .inl (kpr, 8, .inl xpr)), (apw, .inl (kpw, 64, .inl xpw)), (apt, .inl (kpt, 2, .inl xpt))] := hD
                refine lv_goto (tgt := 177) hx hb dX1_put_147 (by decide) ?_
                exact W.vret hx hb hr (fun t ht hW => ⟨⟨(xba, xbs, xbd, (0 : Int32), xbx, xpr, xpw, xpt, xpc, xrn, xca, xst, xps), rfl, h, by rw [ht]; exact hP, hD⟩, hS.F ht⟩) hS.2.2 dX1_put_177
            · have h := if_n h hc4
              by_cases hc5 : z1 = (5 : Int32)
              · have h := if_y h hc5
                refine lv_tableIn (tgt := 177) (off := 130) hx hb dX1_put_47 (by rw [hc5]; decide) (by rw [hc5]; decide) (by rw [hc5]; rfl) (by decide) ?_
                exact W.vret hx hb hr (fun t ht hW => ⟨⟨(xba, xbs, xbd, xbe, xbx, xpr, xpw, xpt, xpc, xrn, xca, xst, xps), rfl, h, by rw [ht]; exact hP, hD⟩, hS.F ht⟩) hS.2.2 dX1_put_177
              · have h := if_n h hc5
                by_cases hc6 : z1 = (6 : Int32)
                · have h := if_y h hc6
                  refine lv_tableIn (tgt := 177) (off := 130) hx hb dX1_put_47 (by rw [hc6]; decide) (by rw [hc6]; decide) (by rw [hc6]; rfl) (by decide) ?_
                  exact W.vret hx hb hr (fun t ht hW => ⟨⟨(xba, xbs, xbd, xbe, xbx, xpr, xpw, xpt, xpc, xrn, xca, xst, xps), rfl, h, by rw [ht]; exact hP, hD⟩, hS.F ht⟩) hS.2.2 dX1_put_177
                · have h := if_n h hc6
                  by_cases hc7 : z1 = (7 : Int32)
                  · have h := if_y h hc7
                    refine lv_tableIn (tgt := 177) (off := 130) hx hb dX1_put_47 (by rw [hc7]; decide) (by rw [hc7]; decide) (by rw [hc7]; rfl) (by decide) ?_
                    exact W.vret hx hb hr (fun t ht hW => ⟨⟨(xba, xbs, xbd, xbe, xbx, xpr, xpw, xpt, xpc, xrn, xca, xst, xps), rfl, h, by rw [ht]; exact hP, hD⟩, hS.F ht⟩) hS.2.2 dX1_put_177
                  · have h := if_n h hc7
                    by_cases hc8 : z1 = (8 : Int32)
                    · have h := if_y h hc8
                      refine lv_tableIn (tgt := 177) (off := 130) hx hb dX1_put_47 (by rw [hc8]; decide) (by rw [hc8]; decide) (by rw [hc8]; rfl) (by decide) ?_
                      exact W.vret hx hb hr (fun t ht hW => ⟨⟨(xba, xbs, xbd, xbe, xbx, xpr, xpw, xpt, xpc, xrn, xca, xst, xps), rfl, h, by rw [ht]; exact hP, hD⟩, hS.F ht⟩) hS.2.2 dX1_put_177
                    · have h := if_n h hc8
                      by_cases hc9 : z1 = (9 : Int32)
                      · have h := if_y h hc9
                        refine lv_tableIn (tgt := 150) (off := 103) hx hb dX1_put_47 (by rw [hc9]; decide) (by rw [hc9]; decide) (by rw [hc9]; rfl) (by decide) ?_
                        refine lv_aload_n hx hb dX1_put_150 rfl (lv_at hl 0 rfl) ?_
                        refine lv_iload_n hx hb dX1_put_151 rfl (lv_at hl 2 rfl) ?_
                        refine lv_bipush (v := (63 : Int32)) hx hb dX1_put_152 (by decide) ?_
                        refine lv_iand hx hb dX1_put_154 ?_
                        refine va_put (D := (dC, dI)) (ci := 1) (v := .int (z2 &&& (63 : Int32))) (ty := .int) (C := RX1) (T := TX1) (N := 6) hx hb hts hinX1 tyX1 tyX1_ok nmX1 hown hK hP hD hS 0 rfl rfl 5 (by decide) hf26 (fun _ h9 => h9) rfl (by decide +kernel) rfl rfl (Nat.le_of_ble_eq_true rfl) dX1_put_155 (fun H locs hP hD hS => ?_)
                        have hP : va_P (dC, dI) vwCl [(aB, .inr (1, [.ref aP, .ref aba, .int xbs, .int xbd, .int xbe, .int (z2 &&& (63 : Int32))])), (aba, .inl (kba, 4, .inl xba)), (aP, .inr (2, [.ref apr, .ref apw, .ref apt, .int xpc, .int xrn, .int xca, .int xst, .int xps])), (apr, .inl (kpr, 8, .inl xpr)), (apw, .inl (kpw, 64, .inl xpw)), (apt, .inl (kpt, 2, .inl xpt))] H := hP
                        have hD : va_D A [(aB, .inr (1, [.ref aP, .ref aba, .int xbs, .int xbd, .int xbe, .int (z2 &&& (63 : Int32))])), (aba, .inl (kba, 4, .inl xba)), (aP, .inr (2, [.ref apr, .ref apw, .ref apt, .int xpc, .int xrn, .int xca, .int xst, .int xps])), (apr, .inl (kpr, 8, .inl xpr)), (apw, .inl (kpw, 64, .inl xpw)), (apt, .inl (kpt, 2, .inl xpt))] := hD
                        refine lv_goto (tgt := 177) hx hb dX1_put_158 (by decide) ?_
                        exact W.vret hx hb hr (fun t ht hW => ⟨⟨(xba, xbs, xbd, xbe, (z2 &&& (63 : Int32)), xpr, xpw, xpt, xpc, xrn, xca, xst, xps), rfl, h, by rw [ht]; exact hP, hD⟩, hS.F ht⟩) hS.2.2 dX1_put_177
                      · have h := if_n h hc9
                        by_cases hc10 : z1 = (10 : Int32)
                        · have h := if_y h hc10
                          refine lv_tableIn (tgt := 161) (off := 114) hx hb dX1_put_47 (by rw [hc10]; decide) (by rw [hc10]; decide) (by rw [hc10]; rfl) (by decide) ?_
                          refine lv_aload_n hx hb dX1_put_161 rfl (lv_at hl 0 rfl) ?_
                          refine va_get (D := (dC, dI)) (ci := 1) (v := .ref aP) (C := RX1) (T := TX1) (N := 6) hx hb hts hinX1 hown hK hP 0 rfl rfl 0 (by decide) hf29 (fun _ h9 => h9) rfl dX1_put_162 ?_
                          refine va_get (D := (dC, dI)) (ci := 2) (v := .ref apw) (C := RX2) (T := TX2) (N := 8) hx hb hts hinX2 hown hK hP 2 rfl rfl 1 (by decide) hf42 (fun _ h9 => h9) rfl dX1_put_165 ?_
                          refine lv_aload_n hx hb dX1_put_168 rfl (lv_at hl 0 rfl) ?_
                          obtain ⟨v169, hv, h⟩ := bn_ex h
                          have hPc := hP.sub (ws' := [(aB, .inr (1, [.ref aP, .ref aba, .int xbs, .int xbd, .int xbe, .int xbx])), (aba, .inl (kba, 4, .inl xba))]) [0, 1] rfl
                          have hDc := hD.sub (ws' := [(aB, .inr (1, [.ref aP, .ref aba, .int xbs, .int xbd, .int xbe, .int xbx])), (aba, .inl (kba, 4, .inl xba))]) [0, 1] (by decide) rfl
                          have hKc := hK.sub (tys' := [(kba, .int)]) [0] rfl
                          have hFc := va_free (wc := [(aB, .inr (1, [.ref aP, .ref aba, .int xbs, .int xbd, .int xbe, .int xbx])), (aba, .inl (kba, 4, .inl xba))]) hD hS hA [0, 1] rfl
                          refine va_calli (va_runV (As := []) (rest := [.ref apw]) ⟨hx, hb, hml, hown, hts⟩ (ct_B_passAddress l dC dI aB aba aP kba H.size xba xbs xbd xbe xbx v169 hv) (cwV 0 hts gX1_put_X1_passAddress rfl rfl rfl (by decide +kernel) ⟨Nat.le_of_ble_eq_true rfl, Nat.le_of_ble_eq_true rfl⟩) ⟨fun a U g mk q => by obtain ⟨q0, q1, qP, qK, qD⟩ := q; exact ⟨q0, q1, qP, va_K.moved (u := U) (U := U.calling g mk a) (Vm.Alike.refl U.vm) qK, qD⟩, va_recv (ci := 1) (q0 := 0) hK hP rfl rfl, fun U hU hW => ⟨rfl, by rw [hU], by rw [hU]; exact hPc, va_K.moved hW.alike hKc, hDc.weaken (fun _ _ _ _ => trivial)⟩⟩ rfl rfl hl.1 rfl (lv_room (Nat.le_of_ble_eq_true rfl)) dX1_put_169 ⟨Nat.zero_le _, Nat.zero_le _⟩) hS (fun q _ h => hFc q h) hFc (fun r u t H locs ht hvm hw hB hz1 hk1 hS => ?_)
                          obtain ⟨rfl, rfl⟩ := pr_2 hw
                          obtain ⟨hP1, hD1⟩ := hB
                          rw [ht] at hP1
                          obtain ⟨hP, hD⟩ := va_join (wr := [(aP, .inr (2, [.ref apr, .ref apw, .ref apt, .int xpc, .int xrn, .int xca, .int xst, .int xps])), (apr, .inl (kpr, 8, .inl xpr)), (apw, .inl (kpw, 64, .inl xpw)), (apt, .inl (kpt, 2, .inl xpt))]) (w1 := [(aB, .inr (1, [.ref aP, .ref aba, .int xbs, .int xbd, .int xbe, .int v169.2])), (aba, .inl (kba, 4, .inl xba))]) hP hD [0, 1] [2, 3, 4, 5] rfl rfl (by decide) (by decide) hk1 hFc hP1 hD1
                          have hP : va_P (dC, dI) vwCl [(aP, .inr (2, [.ref apr, .ref apw, .ref apt, .int xpc, .int xrn, .int xca, .int xst, .int xps])), (apr, .inl (kpr, 8, .inl xpr)), (apw, .inl (kpw, 64, .inl xpw)), (apt, .inl (kpt, 2, .inl xpt)), (aB, .inr (1, [.ref aP, .ref aba, .int xbs, .int xbd, .int xbe, .int v169.2])), (aba, .inl (kba, 4, .inl xba))] H := hP
                          have hD : va_D A [(aP, .inr (2, [.ref apr, .ref apw, .ref apt, .int xpc, .int xrn, .int xca, .int xst, .int xps])), (apr, .inl (kpr, 8, .inl xpr)), (apw, .inl (kpw, 64, .inl xpw)), (apt, .inl (kpt, 2, .inl xpt)), (aB, .inr (1, [.ref aP, .ref aba, .int xbs, .int xbd, .int xbe, .int v169.2])), (aba, .inl (kba, 4, .inl xba))] := hD
                          refine lv_iload_n hx hb dX1_put_172 rfl (lv_at hl 2 rfl) ?_
                          obtain ⟨hi, h⟩ := ck_in h
                          refine va_iast hx hb hK hP hD hS 2 2 rfl rfl hi dX1_put_173 (fun H locs hP hD hS => ?_)
                          have hP : va_P (dC, dI) vwCl [(aP, .inr (2, [.ref apr, .ref apw, .ref apt, .int xpc, .int xrn, .int xca, .int xst, .int xps])), (apr, .inl (kpr, 8, .inl xpr)), (apw, .inl (kpw, 64, .inl (upd xpw (Int32.toNatClampNeg v169.1) z2))), (apt, .inl (kpt, 2, .inl xpt)), (aB, .inr (1, [.ref aP, .ref aba, .int xbs, .int xbd, .int xbe, .int v169.2])), (aba, .inl (kba, 4, .inl xba))] H := hP
                          have hD : va_D A [(aP, .inr (2, [.ref apr, .ref apw, .ref apt, .int xpc, .int xrn, .int xca, .int xst, .int xps])), (apr, .inl (kpr, 8, .inl xpr)), (apw, .inl (kpw, 64, .inl (upd xpw (Int32.toNatClampNeg v169.1) z2))), (apt, .inl (kpt, 2, .inl xpt)), (aB, .inr (1, [.ref aP, .ref aba, .int xbs, .int xbd, .int xbe, .int v169.2])), (aba, .inl (kba, 4, .inl xba))] := hD
                          refine lv_goto (tgt := 177) hx hb dX1_put_174 (by decide) ?_
                          have hP9 := hP.sub (ws' := [(aB, .inr (1, [.ref aP, .ref aba, .int xbs, .int xbd, .int xbe, .int v169.2])), (aba, .inl (kba, 4, .inl xba)), (aP, .inr (2, [.ref apr, .ref apw, .ref apt, .int xpc, .int xrn, .int xca, .int xst, .int xps])), (apr, .inl (kpr, 8, .inl xpr)), (apw, .inl (kpw, 64, .inl (upd xpw (Int32.toNatClampNeg v169.1) z2))), (apt, .inl (kpt, 2, .inl xpt))]) [4, 5, 0, 1, 2, 3] rfl
                          have hD9 := hD.sub (ws' := [(aB, .inr (1, [.ref aP, .ref aba, .int xbs, .int xbd, .int xbe, .int v169.2])), (aba, .inl (kba, 4, .inl xba)), (aP, .inr (2, [.ref apr, .ref apw, .ref apt, .int xpc, .int xrn, .int xca, .int xst, .int xps])), (apr, .inl (kpr, 8, .inl xpr)), (apw, .inl (kpw, 64, .inl (upd xpw (Int32.toNatClampNeg v169.1) z2))), (apt, .inl (kpt, 2, .inl xpt))]) [4, 5, 0, 1, 2, 3] (by decide) rfl
                          exact W.vret hx hb hr (fun t ht hW => ⟨⟨(xba, xbs, xbd, xbe, v169.2, xpr, (upd xpw (Int32.toNatClampNeg v169.1) z2), xpt, xpc, xrn, xca, xst, xps), rfl, h, by rw [ht]; exact hP9, hD9⟩, hS.F ht⟩) hS.2.2 dX1_put_177
                        · have h := if_n h hc10
                          have e0 := lv_neT (a := 0) hc0 (by decide)
                          have e1 := lv_neT (a := 1) hc1 (by decide)
                          have e2 := lv_neT (a := 2) hc2 (by decide)
                          have e3 := lv_neT (a := 3) hc3 (by decide)
                          have e4 := lv_neT (a := 4) hc4 (by decide)
                          have e5 := lv_neT (a := 5) hc5 (by decide)
                          have e6 := lv_neT (a := 6) hc6 (by decide)
                          have e7 := lv_neT (a := 7) hc7 (by decide)
                          have e8 := lv_neT (a := 8) hc8 (by decide)
                          have e9 := lv_neT (a := 9) hc9 (by decide)
                          have e10 := lv_neT (a := 10) hc10 (by decide)
                          refine lv_tableOut (tgt := 177) hx hb dX1_put_47 (by omega) (by decide) ?_
                          exact W.vret hx hb hr (fun t ht hW => ⟨⟨(xba, xbs, xbd, xbe, xbx, xpr, xpw, xpt, xpc, xrn, xca, xst, xps), rfl, h, by rw [ht]; exact hP, hD⟩, hS.F ht⟩) hS.2.2 dX1_put_177
  have hl := lv_entry ([.ref aB, .int j1, .int j2]) (n := 3) (Nat.le_of_ble_eq_true rfl)
  rw [lg_entry_eq]
  generalize (lg_sl ([.ref aB, .int j1, .int j2]) ++ List.replicate (3 - (lg_sl ([.ref aB, .int j1, .int j2])).length) Slot.unset).toArray = ls at hl ⊢
  have hl : lv_has ls 3 [(0, .ref aB), (1, .int j1), (2, .int j2)] := hl
  unfold fn_B_put at h
  refine lv_iload_n hx hb dX1_put_0 rfl (lv_at hl 1 rfl) ?_
  refine lv_iconst (v := (5 : Int32)) hx hb dX1_put_1 (by decide) ?_
  refine lv_icmp_lt (tgt := 21) hx hb dX1_put_2 (by decide) (fun hc => ?_) (fun hc => ?_)
  · have h := if_y h hc
    refine lv_iload_n hx hb dX1_put_21 rfl (lv_at hl 1 rfl) ?_
    refine lv_bipush (v := (11 : Int32)) hx hb dX1_put_22 (by decide) ?_
    refine lv_icmp_lt (tgt := 46) hx hb dX1_put_24 (by decide) (fun hc => ?_) (fun hc => ?_)
    · have h := if_y h hc
      exact k_46 _ _ _ _ _ _ _ _ _ _ _ _ _ _ _ _ _ _ hP hD hS hl h
    · have h := if_n h hc
      refine lv_iload_n hx hb dX1_put_27 rfl (lv_at hl 1 rfl) ?_
      refine lv_bipush (v := (12 : Int32)) hx hb dX1_put_28 (by decide) ?_
      refine lv_icmp_gt (tgt := 46) hx hb dX1_put_30 (by decide) (fun hc => ?_) (fun hc => ?_)
      · have h := if_y h hc
        exact k_46 _ _ _ _ _ _ _ _ _ _ _ _ _ _ _ _ _ _ hP hD hS hl h
      · have h := if_n h hc
        refine lv_aload_n hx hb dX1_put_33 rfl (lv_at hl 0 rfl) ?_
        refine va_get (D := (dC, dI)) (ci := 1) (v := .ref aP) (C := RX1) (T := TX1) (N := 6) hx hb hts hinX1 hown hK hP 0 rfl rfl 0 (by decide) hf29 (fun _ h9 => h9) rfl dX1_put_34 ?_
        refine lv_iload_n hx hb dX1_put_37 rfl (lv_at hl 1 rfl) ?_
        refine lv_bipush (v := (11 : Int32)) hx hb dX1_put_38 (by decide) ?_
        refine lv_isub hx hb dX1_put_40 ?_
        refine lv_iload_n hx hb dX1_put_41 rfl (lv_at hl 2 rfl) ?_
        obtain ⟨v42, hv, h⟩ := bn_ex h
        have hPc := hP.sub (ws' := [(aP, .inr (2, [.ref apr, .ref apw, .ref apt, .int xpc, .int xrn, .int xca, .int xst, .int xps])), (apr, .inl (kpr, 8, .inl xpr)), (apw, .inl (kpw, 64, .inl xpw)), (apt, .inl (kpt, 2, .inl xpt))]) [2, 3, 4, 5] rfl
        have hDc := hD.sub (ws' := [(aP, .inr (2, [.ref apr, .ref apw, .ref apt, .int xpc, .int xrn, .int xca, .int xst, .int xps])), (apr, .inl (kpr, 8, .inl xpr)), (apw, .inl (kpw, 64, .inl xpw)), (apt, .inl (kpt, 2, .inl xpt))]) [2, 3, 4, 5] (by decide) rfl
        have hKc := hK.sub (tys' := [(kpr, .int), (kpw, .int), (kpt, .int)]) [1, 2, 3] rfl
        have hFc := va_free (wc := [(aP, .inr (2, [.ref apr, .ref apw, .ref apt, .int xpc, .int xrn, .int xca, .int xst, .int xps])), (apr, .inl (kpr, 8, .inl xpr)), (apw, .inl (kpw, 64, .inl xpw)), (apt, .inl (kpt, 2, .inl xpt))]) hD hS hA [2, 3, 4, 5] rfl
        refine va_callv (va_runV (As := [.int (j1 - (11 : Int32)), .int j2]) (rest := []) ⟨hx, hb, hml, hown, hts⟩ (ct_P_setTrap l dC dI aP apr apw apt kpr kpw kpt s.heap.size xpr xpw xpt xpc xrn xca xst xps (j1 - (11 : Int32)) j2 v42 hv) (cwV 2 hts gX1_put_X2_setTrap rfl rfl rfl (by decide +kernel) ⟨Nat.le_of_ble_eq_true rfl, Nat.le_of_ble_eq_true rfl⟩) ⟨fun a U g mk q => by obtain ⟨q0, q1, qP, qK, qD⟩ := q; exact ⟨q0, q1, qP, va_K.moved (u := U) (U := U.calling g mk a) (Vm.Alike.refl U.vm) qK, qD⟩, va_recv (ci := 2) (q0 := 2) hK hP rfl rfl, fun U hU hW => ⟨rfl, by rw [hU], by rw [hU]; exact hPc, va_K.moved hW.alike hKc, hDc.weaken (fun _ _ _ _ => trivial)⟩⟩ rfl rfl hl.1 rfl (lv_room (Nat.le_of_ble_eq_true rfl)) dX1_put_42 ⟨Nat.zero_le _, Nat.zero_le _⟩) hS (fun q _ h => hFc q h) hFc (fun u t H locs ht hvm hw hB hz1 hk1 hS => ?_)
        obtain rfl := pr_0 hw
        obtain ⟨hP1, hD1⟩ := hB
        rw [ht] at hP1
        obtain ⟨hP, hD⟩ := va_join (wr := [(aB, .inr (1, [.ref aP, .ref aba, .int xbs, .int xbd, .int xbe, .int xbx])), (aba, .inl (kba, 4, .inl xba))]) (w1 := [(aP, .inr (2, [.ref apr, .ref apw, .ref apt, .int xpc, .int xrn, .int xca, .int xst, .int xps])), (apr, .inl (kpr, 8, .inl xpr)), (apw, .inl (kpw, 64, .inl xpw)), (apt, .inl (kpt, 2, .inl v42))]) hP hD [2, 3, 4, 5] [0, 1] rfl rfl (by decide) (by decide) hk1 hFc hP1 hD1
        have hP : va_P (dC, dI) vwCl [(aB, .inr (1, [.ref aP, .ref aba, .int xbs, .int xbd, .int xbe, .int xbx])), (aba, .inl (kba, 4, .inl xba)), (aP, .inr (2, [.ref apr, .ref apw, .ref apt, .int xpc, .int xrn, .int xca, .int xst, .int xps])), (apr, .inl (kpr, 8, .inl xpr)), (apw, .inl (kpw, 64, .inl xpw)), (apt, .inl (kpt, 2, .inl v42))] H := hP
        have hD : va_D A [(aB, .inr (1, [.ref aP, .ref aba, .int xbs, .int xbd, .int xbe, .int xbx])), (aba, .inl (kba, 4, .inl xba)), (aP, .inr (2, [.ref apr, .ref apw, .ref apt, .int xpc, .int xrn, .int xca, .int xst, .int xps])), (apr, .inl (kpr, 8, .inl xpr)), (apw, .inl (kpw, 64, .inl xpw)), (apt, .inl (kpt, 2, .inl v42))] := hD
        exact W.vret hx hb hr (fun t ht hW => ⟨⟨(xba, xbs, xbd, xbe, xbx, xpr, xpw, v42, xpc, xrn, xca, xst, xps), rfl, h, by rw [ht]; exact hP, hD⟩, hS.F ht⟩) hS.2.2 dX1_put_45
  · have h := if_n h hc
    refine lv_iload_n hx hb dX1_put_5 rfl (lv_at hl 1 rfl) ?_
    refine lv_bipush (v := (8 : Int32)) hx hb dX1_put_6 (by decide) ?_
    refine lv_icmp_gt (tgt := 21) hx hb dX1_put_8 (by decide) (fun hc => ?_) (fun hc => ?_)
    · have h := if_y h hc
      refine lv_iload_n hx hb dX1_put_21 rfl (lv_at hl 1 rfl) ?_
      refine lv_bipush (v := (11 : Int32)) hx hb dX1_put_22 (by decide) ?_
      refine lv_icmp_lt (tgt := 46) hx hb dX1_put_24 (by decide) (fun hc => ?_) (fun hc => ?_)
      · have h := if_y h hc
        exact k_46 _ _ _ _ _ _ _ _ _ _ _ _ _ _ _ _ _ _ hP hD hS hl h
      · have h := if_n h hc
        refine lv_iload_n hx hb dX1_put_27 rfl (lv_at hl 1 rfl) ?_
        refine lv_bipush (v := (12 : Int32)) hx hb dX1_put_28 (by decide) ?_
        refine lv_icmp_gt (tgt := 46) hx hb dX1_put_30 (by decide) (fun hc => ?_) (fun hc => ?_)
        · have h := if_y h hc
          exact k_46 _ _ _ _ _ _ _ _ _ _ _ _ _ _ _ _ _ _ hP hD hS hl h
        · have h := if_n h hc
          refine lv_aload_n hx hb dX1_put_33 rfl (lv_at hl 0 rfl) ?_
          refine va_get (D := (dC, dI)) (ci := 1) (v := .ref aP) (C := RX1) (T := TX1) (N := 6) hx hb hts hinX1 hown hK hP 0 rfl rfl 0 (by decide) hf29 (fun _ h9 => h9) rfl dX1_put_34 ?_
          refine lv_iload_n hx hb dX1_put_37 rfl (lv_at hl 1 rfl) ?_
          refine lv_bipush (v := (11 : Int32)) hx hb dX1_put_38 (by decide) ?_
          refine lv_isub hx hb dX1_put_40 ?_
          refine lv_iload_n hx hb dX1_put_41 rfl (lv_at hl 2 rfl) ?_
          obtain ⟨v42, hv, h⟩ := bn_ex h
          have hPc := hP.sub (ws' := [(aP, .inr (2, [.ref apr, .ref apw, .ref apt, .int xpc, .int xrn, .int xca, .int xst, .int xps])), (apr, .inl (kpr, 8, .inl xpr)), (apw, .inl (kpw, 64, .inl xpw)), (apt, .inl (kpt, 2, .inl xpt))]) [2, 3, 4, 5] rfl
          have hDc := hD.sub (ws' := [(aP, .inr (2, [.ref apr, .ref apw, .ref apt, .int xpc, .int xrn, .int xca, .int xst, .int xps])), (apr, .inl (kpr, 8, .inl xpr)), (apw, .inl (kpw, 64, .inl xpw)), (apt, .inl (kpt, 2, .inl xpt))]) [2, 3, 4, 5] (by decide) rfl
          have hKc := hK.sub (tys' := [(kpr, .int), (kpw, .int), (kpt, .int)]) [1, 2, 3] rfl
          have hFc := va_free (wc := [(aP, .inr (2, [.ref apr, .ref apw, .ref apt, .int xpc, .int xrn, .int xca, .int xst, .int xps])), (apr, .inl (kpr, 8, .inl xpr)), (apw, .inl (kpw, 64, .inl xpw)), (apt, .inl (kpt, 2, .inl xpt))]) hD hS hA [2, 3, 4, 5] rfl
          refine va_callv (va_runV (As := [.int (j1 - (11 : Int32)), .int j2]) (rest := []) ⟨hx, hb, hml, hown, hts⟩ (ct_P_setTrap l dC dI aP apr apw apt kpr kpw kpt s.heap.size xpr xpw xpt xpc xrn xca xst xps (j1 - (11 : Int32)) j2 v42 hv) (cwV 2 hts gX1_put_X2_setTrap rfl rfl rfl (by decide +kernel) ⟨Nat.le_of_ble_eq_true rfl, Nat.le_of_ble_eq_true rfl⟩) ⟨fun a U g mk q => by obtain ⟨q0, q1, qP, qK, qD⟩ := q; exact ⟨q0, q1, qP, va_K.moved (u := U) (U := U.calling g mk a) (Vm.Alike.refl U.vm) qK, qD⟩, va_recv (ci := 2) (q0 := 2) hK hP rfl rfl, fun U hU hW => ⟨rfl, by rw [hU], by rw [hU]; exact hPc, va_K.moved hW.alike hKc, hDc.weaken (fun _ _ _ _ => trivial)⟩⟩ rfl rfl hl.1 rfl (lv_room (Nat.le_of_ble_eq_true rfl)) dX1_put_42 ⟨Nat.zero_le _, Nat.zero_le _⟩) hS (fun q _ h => hFc q h) hFc (fun u t H locs ht hvm hw hB hz1 hk1 hS => ?_)
          obtain rfl := pr_0 hw
          obtain ⟨hP1, hD1⟩ := hB
          rw [ht] at hP1
          obtain ⟨hP, hD⟩ := va_join (wr := [(aB, .inr (1, [.ref aP, .ref aba, .int xbs, .int xbd, .int xbe, .int xbx])), (aba, .inl (kba, 4, .inl xba))]) (w1 := [(aP, .inr (2, [.ref apr, .ref apw, .ref apt, .int xpc, .int xrn, .int xca, .int xst, .int xps])), (apr, .inl (kpr, 8, .inl xpr)), (apw, .inl (kpw, 64, .inl xpw)), (apt, .inl (kpt, 2, .inl v42))]) hP hD [2, 3, 4, 5] [0, 1] rfl rfl (by decide) (by decide) hk1 hFc hP1 hD1
          have hP : va_P (dC, dI) vwCl [(aB, .inr (1, [.ref aP, .ref aba, .int xbs, .int xbd, .int xbe, .int xbx])), (aba, .inl (kba, 4, .inl xba)), (aP, .inr (2, [.ref apr, .ref apw, .ref apt, .int xpc, .int xrn, .int xca, .int xst, .int xps])), (apr, .inl (kpr, 8, .inl xpr)), (apw, .inl (kpw, 64, .inl xpw)), (apt, .inl (kpt, 2, .inl v42))] H := hP
          have hD : va_D A [(aB, .inr (1, [.ref aP, .ref aba, .int xbs, .int xbd, .int xbe, .int xbx])), (aba, .inl (kba, 4, .inl xba)), (aP, .inr (2, [.ref apr, .ref apw, .ref apt, .int xpc, .int xrn, .int xca, .int xst, .int xps])), (apr, .inl (kpr, 8, .inl xpr)), (apw, .inl (kpw, 64, .inl xpw)), (apt, .inl (kpt, 2, .inl v42))] := hD
          exact W.vret hx hb hr (fun t ht hW => ⟨⟨(xba, xbs, xbd, xbe, xbx, xpr, xpw, v42, xpc, xrn, xca, xst, xps), rfl, h, by rw [ht]; exact hP, hD⟩, hS.F ht⟩) hS.2.2 dX1_put_45
    · have h := if_n h hc
      refine lv_aload_n hx hb dX1_put_11 rfl (lv_at hl 0 rfl) ?_
      refine va_get (D := (dC, dI)) (ci := 1) (v := .ref aba) (C := RX1) (T := TX1) (N := 6) hx hb hts hinX1 hown hK hP 0 rfl rfl 1 (by decide) hf11 (fun _ h9 => h9) rfl dX1_put_12 ?_
      refine lv_iload_n hx hb dX1_put_15 rfl (lv_at hl 1 rfl) ?_
      refine lv_iconst (v := (5 : Int32)) hx hb dX1_put_16 (by decide) ?_
      refine lv_isub hx hb dX1_put_17 ?_
      refine lv_iload_n hx hb dX1_put_18 rfl (lv_at hl 2 rfl) ?_
      obtain ⟨hi, h⟩ := ck_in h
      refine va_iast hx hb hK hP hD hS 1 0 rfl rfl hi dX1_put_19 (fun H locs hP hD hS => ?_)
      have hP : va_P (dC, dI) vwCl [(aB, .inr (1, [.ref aP, .ref aba, .int xbs, .int xbd, .int xbe, .int xbx])), (aba, .inl (kba, 4, .inl (upd xba (Int32.toNatClampNeg (j1 - (5 : Int32))) j2))), (aP, .inr (2, [.ref apr, .ref apw, .ref apt, .int xpc, .int xrn, .int xca, .int xst, .int xps])), (apr, .inl (kpr, 8, .inl xpr)), (apw, .inl (kpw, 64, .inl xpw)), (apt, .inl (kpt, 2, .inl xpt))] H := hP
      have hD : va_D A [(aB, .inr (1, [.ref aP, .ref aba, .int xbs, .int xbd, .int xbe, .int xbx])), (aba, .inl (kba, 4, .inl (upd xba (Int32.toNatClampNeg (j1 - (5 : Int32))) j2))), (aP, .inr (2, [.ref apr, .ref apw, .ref apt, .int xpc, .int xrn, .int xca, .int xst, .int xps])), (apr, .inl (kpr, 8, .inl xpr)), (apw, .inl (kpw, 64, .inl xpw)), (apt, .inl (kpt, 2, .inl xpt))] := hD
      exact W.vret hx hb hr (fun t ht hW => ⟨⟨((upd xba (Int32.toNatClampNeg (j1 - (5 : Int32))) j2), xbs, xbd, xbe, xbx, xpr, xpw, xpt, xpc, xrn, xca, xst, xps), rfl, h, by rw [ht]; exact hP, hD⟩, hS.F ht⟩) hS.2.2 dX1_put_20
