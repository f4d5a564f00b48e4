set_option maxHeartbeats 4000000 in
set_option maxRecDepth 100000 in
theorem ct_B_init (l : Launch) (dC : Nat → ClassId) (dI : Nat → Nat → Nat) (aB aP : Nat) (sz : Nat) : Met l yX1_init wsX1_init ({ frames := 1, cells := 1, slots := 4, locals := 12 }) (va_Pc [.ref aB, .ref aP] (fun U => U.heap.size = sz ∧ va_P (dC, dI) vwCl [(aB, .inr (1, [.null, .null, .int 0, .int 0, .int 0, .int 0]))] U.heap ∧ va_K (dC, dI) vwCl [] U ∧ va_D (fun _ => True) [(aB, .inr (1, [.null, .null, .int 0, .int 0, .int 0, .int 0]))])) (va_Qv (fun (_ : Unit) => True) (fun (_ : Unit) (t : State) => ∃ (aba : Nat) (kba : ClassId), va_P (dC, dI) vwCl [(aB, .inr (1, [.ref aP, .ref aba, .int (0 : Int32), .int (0 : Int32), .int (0 : Int32), .int (0 : Int32)])), (aba, .inl (kba, 4, .inl (fun _ => 0)))] t.heap ∧ va_K (dC, dI) vwCl [(kba, .int)] t ∧ va_D (va_A [(aB, .inr (1, [.null, .null, .int 0, .int 0, .int 0, .int 0]))] sz) [(aB, .inr (1, [.ref aP, .ref aba, .int (0 : Int32), .int (0 : Int32), .int (0 : Int32), .int (0 : Int32)])), (aba, .inl (kba, 4, .inl (fun _ => 0)))]) (va_A [(aB, .inr (1, [.null, .null, .int 0, .int 0, .int 0, .int 0]))] sz)) 1 4 (va_A [(aB, .inr (1, [.null, .null, .int 0, .int 0, .int 0, .int 0]))] sz) := by
  refine Met.ofW (cc := cX1_init) (maxL := 2) (ret := none) (by decide) rfl ?_
  intro p e s m args below meth c s₁ B hml hv
  obtain ⟨rfl, hsz, hP, hK, hD0⟩ := hv
  have hx := B.exec
  have hb := B.bytes
  have hr := B.returns
  have hts := atoms_spec (ws := wsX1_init) B.pre
  have hown : s.vm.findClass RX1 = some m.cls := findClass_of_methodNamed B.named
  have hlocks := B.notSynchronized
  have hin : meth.name = "<init>" := (name_of_methodNamed B.named B.method).1
  subst hsz
  have hD := hD0.self (sz := s.heap.size)
  generalize hAe : va_A [(aB, .inr (1, [.null, .null, .int 0, .int 0, .int 0, .int 0]))] s.heap.size = A at hD ⊢
  have hA : ∀ q : Nat, s.heap.size ≤ q → A q := fun q h => by rw [← hAe]; exact Or.inr h
  have hS : va_S A s.heap s.heap [] := va_S.rf
  have hP : va_P (dC, dI) vwCl [(aB, .inr (1, [.null, .null, .int 0, .int 0, .int 0, .int 0]))] s.heap := hP
  have hl := lv_entry ([.ref aB, .ref aP]) (n := 2) (Nat.le_of_ble_eq_true rfl)
  rw [lg_entry_eq]
  generalize (lg_sl ([.ref aB, .ref aP]) ++ List.replicate (2 - (lg_sl ([.ref aB, .ref aP])).length) Slot.unset).toArray = ls at hl ⊢
  have hl : lv_has ls 2 [(0, .ref aB), (1, .ref aP)] := hl
  refine lv_aload_n hx hb dX1_init_0 rfl (lv_at hl 0 rfl) ?_
  refine W.objInit hx hb hown (hts (.methodLink RX1 3 objectInit) (by decide +kernel)) (hts (.instanceMethod objectInit) (by decide +kernel)) (hts (.code objectInit ⟨#[0xb1]⟩ 1 none) (by decide +kernel)) rfl (by rw [hml]; exact hl.1) rfl dX1_init_1 (Nat.le_of_ble_eq_true rfl) (Nat.le_of_ble_eq_true rfl) ?_
  refine W.eq (g2 := F0 m 4 ls []) rfl ?_
  refine lv_aload_n hx hb dX1_init_4 rfl (lv_at hl 0 rfl) ?_
  refine lv_iconst (v := (4 : Int32)) hx hb dX1_init_5 (by decide) ?_
  refine va_newa (atype := .int) (ty := .int) (N' := 4) (n := (4 : Int32)) (a0 := (4, .inl (fun _ => 0))) hx hb (hts (.arrayClass .int) (by decide +kernel)) rfl hK hP hD hS hA (fun _ => rfl) (by decide) (by decide) (by decide) (Nat.le_of_ble_eq_true rfl) (Nat.le_of_ble_eq_true rfl) dX1_init_6 (fun aba kba H hK hP hD hS => ?_)
  have hK : va_K (dC, dI) vwCl [(kba, .int)] s := hK
  have hP : va_P (dC, dI) vwCl [(aB, .inr (1, [.null, .null, .int 0, .int 0, .int 0, .int 0])), (aba, .inl (kba, 4, .inl (fun _ => 0)))] H := hP
  have hD : va_D A [(aB, .inr (1, [.null, .null, .int 0, .int 0, .int 0, .int 0])), (aba, .inl (kba, 4, .inl (fun _ => 0)))] := hD
  have hinX1 : ∀ w ∈ u_ws RX1 TX1 6, w ∈ wsX1_init := by decide +kernel
  refine va_putF (D := (dC, dI)) (ci := 1) (v := .ref aba) (ty := .array .int) (C := RX1) (T := TX1) (N := 6) hx hb hts hinX1 tyX1 tyX1_ok nmX1 hown hK hP hD hS 0 rfl rfl 1 (by decide) (hts (.fieldLink RX1 11 "ProbeBench$Probe" "program" "[I") (by decide +kernel)) (fun _ h9 => h9) rfl hin rfl (by decide +kernel) rfl rfl (Nat.le_of_ble_eq_true rfl) dX1_init_8 (fun H locs hP hD hS => ?_)
  have hP : va_P (dC, dI) vwCl [(aB, .inr (1, [.null, .ref aba, .int 0, .int 0, .int 0, .int 0])), (aba, .inl (kba, 4, .inl (fun _ => 0)))] H := hP
  have hD : va_D A [(aB, .inr (1, [.null, .ref aba, .int 0, .int 0, .int 0, .int 0])), (aba, .inl (kba, 4, .inl (fun _ => 0)))] := hD
  refine lv_aload_n hx hb dX1_init_11 rfl (lv_at hl 0 rfl) ?_
  refine lv_iconst (v := (0 : Int32)) hx hb dX1_init_12 (by decide) ?_
  refine va_put (D := (dC, dI)) (ci := 1) (v := .int (0 : Int32)) (ty := .boolean) (C := RX1) (T := TX1) (N := 6) hx hb hts hinX1 tyX1 tyX1_ok nmX1 hown hK hP hD hS 0 rfl rfl 2 (by decide) (hts (.fieldLink RX1 15 "ProbeBench$Probe" "stepping" "Z") (by decide +kernel)) (fun _ h9 => h9) rfl (by decide +kernel) (kb_n (Or.inl rfl)) (kb_f (Or.inl rfl)) (Nat.le_of_ble_eq_true rfl) dX1_init_13 (fun H locs hP hD hS => ?_)
  have hP : va_P (dC, dI) vwCl [(aB, .inr (1, [.null, .ref aba, .int (0 : Int32), .int 0, .int 0, .int 0])), (aba, .inl (kba, 4, .inl (fun _ => 0)))] H := hP
  have hD : va_D A [(aB, .inr (1, [.null, .ref aba, .int (0 : Int32), .int 0, .int 0, .int 0])), (aba, .inl (kba, 4, .inl (fun _ => 0)))] := hD
  refine lv_aload_n hx hb dX1_init_16 rfl (lv_at hl 0 rfl) ?_
  refine lv_iconst (v := (0 : Int32)) hx hb dX1_init_17 (by decide) ?_
  refine va_put (D := (dC, dI)) (ci := 1) (v := .int (0 : Int32)) (ty := .int) (C := RX1) (T := TX1) (N := 6) hx hb hts hinX1 tyX1 tyX1_ok nmX1 hown hK hP hD hS 0 rfl rfl 3 (by decide) (hts (.fieldLink RX1 19 "ProbeBench$Probe" "data" "I") (by decide +kernel)) (fun _ h9 => h9) rfl (by decide +kernel) rfl rfl (Nat.le_of_ble_eq_true rfl) dX1_init_18 (fun H locs hP hD hS => ?_)
  have hP : va_P (dC, dI) vwCl [(aB, .inr (1, [.null, .ref aba, .int (0 : Int32), .int (0 : Int32), .int 0, .int 0])), (aba, .inl (kba, 4, .inl (fun _ => 0)))] H := hP
  have hD : va_D A [(aB, .inr (1, [.null, .ref aba, .int (0 : Int32), .int (0 : Int32), .int 0, .int 0])), (aba, .inl (kba, 4, .inl (fun _ => 0)))] := hD
  refine lv_aload_n hx hb dX1_init_21 rfl (lv_at hl 0 rfl) ?_
  refine lv_iconst (v := (0 : Int32)) hx hb dX1_init_22 (by decide) ?_
  refine va_put (D := (dC, dI)) (ci := 1) (v := .int (0 : Int32)) (ty := .int) (C := RX1) (T := TX1) (N := 6) hx hb hts hinX1 tyX1 tyX1_ok nmX1 hown hK hP hD hS 0 rfl rfl 4 (by decide) (hts (.fieldLink RX1 23 "ProbeBench$Probe" "error" "I") (by decide +kernel)) (fun _ h9 => h9) rfl (by decide +kernel) rfl rfl (Nat.le_of_ble_eq_true rfl) dX1_init_23 (fun H locs hP hD hS => ?_)
  have hP : va_P (dC, dI) vwCl [(aB, .inr (1, [.null, .ref aba, .int (0 : Int32), .int (0 : Int32), .int (0 : Int32), .int 0])), (aba, .inl (kba, 4, .inl (fun _ => 0)))] H := hP
  have hD : va_D A [(aB, .inr (1, [.null, .ref aba, .int (0 : Int32), .int (0 : Int32), .int (0 : Int32), .int 0])), (aba, .inl (kba, 4, .inl (fun _ => 0)))] := hD
  refine lv_aload_n hx hb dX1_init_26 rfl (lv_at hl 0 rfl) ?_
  refine lv_iconst (v := (0 : Int32)) hx hb dX1_init_27 (by decide) ?_
  refine va_put (D := (dC, dI)) (ci := 1) (v := .int (0 : Int32)) (ty := .int) (C := RX1) (T := TX1) (N := 6) hx hb hts hinX1 tyX1 tyX1_ok nmX1 hown hK hP hD hS 0 rfl rfl 5 (by decide) (hts (.fieldLink RX1 26 "ProbeBench$Probe" "address" "I") (by decide +kernel)) (fun _ h9 => h9) rfl (by decide +kernel) rfl rfl (Nat.le_of_ble_eq_true rfl) dX1_init_28 (fun H locs hP hD hS => ?_)
  have hP : va_P (dC, dI) vwCl [(aB, .inr (1, [.null, .ref aba, .int (0 : Int32), .int (0 : Int32), .int (0 : Int32), .int (0 : Int32)])), (aba, .inl (kba, 4, .inl (fun _ => 0)))] H := hP
  have hD : va_D A [(aB, .inr (1, [.null, .ref aba, .int (0 : Int32), .int (0 : Int32), .int (0 : Int32), .int (0 : Int32)])), (aba, .inl (kba, 4, .inl (fun _ => 0)))] := hD
  refine lv_aload_n hx hb dX1_init_31 rfl (lv_at hl 0 rfl) ?_
  refine lv_aload_n hx hb dX1_init_32 rfl (lv_at hl 1 rfl) ?_
  refine va_putF (D := (dC, dI)) (ci := 1) (v := .ref aP) (ty := .object "ProbeBench$Processor") (C := RX1) (T := TX1) (N := 6) hx hb hts hinX1 tyX1 tyX1_ok nmX1 hown hK hP hD hS 0 rfl rfl 0 (by decide) (hts (.fieldLink RX1 29 "ProbeBench$Probe" "processor" "LProbeBench$Processor;") (by decide +kernel)) (fun _ h9 => h9) rfl hin rfl (by decide +kernel) rfl rfl (Nat.le_of_ble_eq_true rfl) dX1_init_33 (fun H locs hP hD hS => ?_)
  have hP : va_P (dC, dI) vwCl [(aB, .inr (1, [.ref aP, .ref aba, .int (0 : Int32), .int (0 : Int32), .int (0 : Int32), .int (0 : Int32)])), (aba, .inl (kba, 4, .inl (fun _ => 0)))] H := hP
  have hD : va_D A [(aB, .inr (1, [.ref aP, .ref aba, .int (0 : Int32), .int (0 : Int32), .int (0 : Int32), .int (0 : Int32)])), (aba, .inl (kba, 4, .inl (fun _ => 0)))] := hD
  have hP9 := hP.sub (ws' := [(aB, .inr (1, [.ref aP, .ref aba, .int (0 : Int32), .int (0 : Int32), .int (0 : Int32), .int (0 : Int32)])), (aba, .inl (kba, 4, .inl (fun _ => 0)))]) [0, 1] rfl
  have hD9 := hD.sub (ws' := [(aB, .inr (1, [.ref aP, .ref aba, .int (0 : Int32), .int (0 : Int32), .int (0 : Int32), .int (0 : Int32)])), (aba, .inl (kba, 4, .inl (fun _ => 0)))]) [0, 1] (by decide) rfl
  have hK9 := hK.sub (tys' := [(kba, .int)]) [0] rfl
  exact W.vret hx hb hr (fun t ht hW => ⟨⟨(), rfl, trivial, aba, kba, by rw [ht]; exact hP9, va_K.moved hW.alike hK9, hD9⟩, hS.F ht⟩) hS.2.2 dX1_init_36
