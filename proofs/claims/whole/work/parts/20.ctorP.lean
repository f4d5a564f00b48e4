set_option maxHeartbeats 4000000 in
set_option maxRecDepth 100000 in
theorem ct_P_init (l : Launch) (dC : Nat → ClassId) (dI : Nat → Nat → Nat) (aP : Nat) (sz : Nat) : Met l yX2_init wsX2_init ({ frames := 1, cells := 3, slots := 74, locals := 12 }) (va_Pc [.ref aP] (fun U => U.heap.size = sz ∧ va_P (dC, dI) vwCl [(aP, .inr (2, [.null, .null, .null, .int 0, .int 0, .int 0, .int 0, .int 0]))] U.heap ∧ va_K (dC, dI) vwCl [] U ∧ va_D (fun _ => True) [(aP, .inr (2, [.null, .null, .null, .int 0, .int 0, .int 0, .int 0, .int 0]))])) (va_Qv (fun (_ : Unit) => True) (fun (_ : Unit) (t : State) => ∃ (apr apw apt : Nat) (kpr kpw kpt : ClassId), va_P (dC, dI) vwCl [(aP, .inr (2, [.ref apr, .ref apw, .ref apt, .int (0 : Int32), .int (1 : Int32), .int (0 : Int32), .int (0 : Int32), .int (0 : Int32)])), (apr, .inl (kpr, 8, .inl (fun _ => 0))), (apw, .inl (kpw, 64, .inl (fun _ => 0))), (apt, .inl (kpt, 2, .inl (fun _ => 0)))] t.heap ∧ va_K (dC, dI) vwCl [(kpr, .int), (kpw, .int), (kpt, .int)] t ∧ va_D (va_A [(aP, .inr (2, [.null, .null, .null, .int 0, .int 0, .int 0, .int 0, .int 0]))] sz) [(aP, .inr (2, [.ref apr, .ref apw, .ref apt, .int (0 : Int32), .int (1 : Int32), .int (0 : Int32), .int (0 : Int32), .int (0 : Int32)])), (apr, .inl (kpr, 8, .inl (fun _ => 0))), (apw, .inl (kpw, 64, .inl (fun _ => 0))), (apt, .inl (kpt, 2, .inl (fun _ => 0)))]) (va_A [(aP, .inr (2, [.null, .null, .null, .int 0, .int 0, .int 0, .int 0, .int 0]))] sz)) 3 74 (va_A [(aP, .inr (2, [.null, .null, .null, .int 0, .int 0, .int 0, .int 0, .int 0]))] sz) := by
  refine Met.ofW (cc := cX2_init) (maxL := 1) (ret := none) (by decide) rfl ?_
  intro p e s m args below meth c s₁ B hml hv
  obtain ⟨rfl, hsz, hP, hK, hD0⟩ := hv
  have hx := B.exec
  have hb := B.bytes
  have hr := B.returns
  have hts := atoms_spec (ws := wsX2_init) B.pre
  have hown : s.vm.findClass RX2 = some m.cls := findClass_of_methodNamed B.named
  have hlocks := B.notSynchronized
  have hin : meth.name = "<init>" := (name_of_methodNamed B.named B.method).1
  subst hsz
  have hD := hD0.self (sz := s.heap.size)
  generalize hAe : va_A [(aP, .inr (2, [.null, .null, .null, .int 0, .int 0, .int 0, .int 0, .int 0]))] s.heap.size = A at hD ⊢
  have hA : ∀ q : Nat, s.heap.size ≤ q → A q := fun q h => by rw [← hAe]; exact Or.inr h
  have hS : va_S A s.heap s.heap [] := va_S.rf
  have hP : va_P (dC, dI) vwCl [(aP, .inr (2, [.null, .null, .null, .int 0, .int 0, .int 0, .int 0, .int 0]))] s.heap := hP
  have hl := lv_entry ([.ref aP]) (n := 1) (Nat.le_of_ble_eq_true rfl)
  rw [lg_entry_eq]
  generalize (lg_sl ([.ref aP]) ++ List.replicate (1 - (lg_sl ([.ref aP])).length) Slot.unset).toArray = ls at hl ⊢
  have hl : lv_has ls 1 [(0, .ref aP)] := hl
  refine lv_aload_n hx hb dX2_init_0 rfl (lv_at hl 0 rfl) ?_
  refine W.objInit hx hb hown (hts (.methodLink RX2 5 objectInit) (by decide +kernel)) (hts (.instanceMethod objectInit) (by decide +kernel)) (hts (.code objectInit ⟨#[0xb1]⟩ 1 none) (by decide +kernel)) rfl (by rw [hml]; exact hl.1) rfl dX2_init_1 (Nat.le_of_ble_eq_true rfl) (Nat.le_of_ble_eq_true rfl) ?_
  refine W.eq (g2 := F0 m 4 ls []) rfl ?_
  refine lv_aload_n hx hb dX2_init_4 rfl (lv_at hl 0 rfl) ?_
  refine lv_bipush (v := (8 : Int32)) hx hb dX2_init_5 (by decide) ?_
  refine va_newa (atype := .int) (ty := .int) (N' := 8) (n := (8 : Int32)) (a0 := (8, .inl (fun _ => 0))) hx hb (hts (.arrayClass .int) (by decide +kernel)) rfl hK hP hD hS hA (fun _ => rfl) (by decide) (by decide) (by decide) (Nat.le_of_ble_eq_true rfl) (Nat.le_of_ble_eq_true rfl) dX2_init_7 (fun apr kpr H hK hP hD hS => ?_)
  have hK : va_K (dC, dI) vwCl [(kpr, .int)] s := hK
  have hP : va_P (dC, dI) vwCl [(aP, .inr (2, [.null, .null, .null, .int 0, .int 0, .int 0, .int 0, .int 0])), (apr, .inl (kpr, 8, .inl (fun _ => 0)))] H := hP
  have hD : va_D A [(aP, .inr (2, [.null, .null, .null, .int 0, .int 0, .int 0, .int 0, .int 0])), (apr, .inl (kpr, 8, .inl (fun _ => 0)))] := hD
  have hinX2 : ∀ w ∈ u_ws RX2 TX2 8, w ∈ wsX2_init := by decide +kernel
  refine va_putF (D := (dC, dI)) (ci := 2) (v := .ref apr) (ty := .array .int) (C := RX2) (T := TX2) (N := 8) hx hb hts hinX2 tyX2 tyX2_ok nmX2 hown hK hP hD hS 0 rfl rfl 0 (by decide) (hts (.fieldLink RX2 11 "ProbeBench$Processor" "registers" "[I") (by decide +kernel)) (fun _ h9 => h9) rfl hin rfl (by decide +kernel) rfl rfl (Nat.le_of_ble_eq_true rfl) dX2_init_9 (fun H locs hP hD hS => ?_)
  have hP : va_P (dC, dI) vwCl [(aP, .inr (2, [.ref apr, .null, .null, .int 0, .int 0, .int 0, .int 0, .int 0])), (apr, .inl (kpr, 8, .inl (fun _ => 0)))] H := hP
  have hD : va_D A [(aP, .inr (2, [.ref apr, .null, .null, .int 0, .int 0, .int 0, .int 0, .int 0])), (apr, .inl (kpr, 8, .inl (fun _ => 0)))] := hD
  refine lv_aload_n hx hb dX2_init_12 rfl (lv_at hl 0 rfl) ?_
  refine lv_bipush (v := (64 : Int32)) hx hb dX2_init_13 (by decide) ?_
  refine va_newa (atype := .int) (ty := .int) (N' := 64) (n := (64 : Int32)) (a0 := (64, .inl (fun _ => 0))) hx hb (hts (.arrayClass .int) (by decide +kernel)) rfl hK hP hD hS hA (fun _ => rfl) (by decide) (by decide) (by decide) (Nat.le_of_ble_eq_true rfl) (Nat.le_of_ble_eq_true rfl) dX2_init_15 (fun apw kpw H hK hP hD hS => ?_)
  have hK : va_K (dC, dI) vwCl [(kpr, .int), (kpw, .int)] s := hK
  have hP : va_P (dC, dI) vwCl [(aP, .inr (2, [.ref apr, .null, .null, .int 0, .int 0, .int 0, .int 0, .int 0])), (apr, .inl (kpr, 8, .inl (fun _ => 0))), (apw, .inl (kpw, 64, .inl (fun _ => 0)))] H := hP
  have hD : va_D A [(aP, .inr (2, [.ref apr, .null, .null, .int 0, .int 0, .int 0, .int 0, .int 0])), (apr, .inl (kpr, 8, .inl (fun _ => 0))), (apw, .inl (kpw, 64, .inl (fun _ => 0)))] := hD
  refine va_putF (D := (dC, dI)) (ci := 2) (v := .ref apw) (ty := .array .int) (C := RX2) (T := TX2) (N := 8) hx hb hts hinX2 tyX2 tyX2_ok nmX2 hown hK hP hD hS 0 rfl rfl 1 (by decide) (hts (.fieldLink RX2 15 "ProbeBench$Processor" "words" "[I") (by decide +kernel)) (fun _ h9 => h9) rfl hin rfl (by decide +kernel) rfl rfl (Nat.le_of_ble_eq_true rfl) dX2_init_17 (fun H locs hP hD hS => ?_)
  have hP : va_P (dC, dI) vwCl [(aP, .inr (2, [.ref apr, .ref apw, .null, .int 0, .int 0, .int 0, .int 0, .int 0])), (apr, .inl (kpr, 8, .inl (fun _ => 0))), (apw, .inl (kpw, 64, .inl (fun _ => 0)))] H := hP
  have hD : va_D A [(aP, .inr (2, [.ref apr, .ref apw, .null, .int 0, .int 0, .int 0, .int 0, .int 0])), (apr, .inl (kpr, 8, .inl (fun _ => 0))), (apw, .inl (kpw, 64, .inl (fun _ => 0)))] := hD
  refine lv_aload_n hx hb dX2_init_20 rfl (lv_at hl 0 rfl) ?_
  refine lv_iconst (v := (2 : Int32)) hx hb dX2_init_21 (by decide) ?_
  refine va_newa (atype := .int) (ty := .int) (N' := 2) (n := (2 : Int32)) (a0 := (2, .inl (fun _ => 0))) hx hb (hts (.arrayClass .int) (by decide +kernel)) rfl hK hP hD hS hA (fun _ => rfl) (by decide) (by decide) (by decide) (Nat.le_of_ble_eq_true rfl) (Nat.le_of_ble_eq_true rfl) dX2_init_22 (fun apt kpt H hK hP hD hS => ?_)
  have hK : va_K (dC, dI) vwCl [(kpr, .int), (kpw, .int), (kpt, .int)] s := hK
  have hP : va_P (dC, dI) vwCl [(aP, .inr (2, [.ref apr, .ref apw, .null, .int 0, .int 0, .int 0, .int 0, .int 0])), (apr, .inl (kpr, 8, .inl (fun _ => 0))), (apw, .inl (kpw, 64, .inl (fun _ => 0))), (apt, .inl (kpt, 2, .inl (fun _ => 0)))] H := hP
  have hD : va_D A [(aP, .inr (2, [.ref apr, .ref apw, .null, .int 0, .int 0, .int 0, .int 0, .int 0])), (apr, .inl (kpr, 8, .inl (fun _ => 0))), (apw, .inl (kpw, 64, .inl (fun _ => 0))), (apt, .inl (kpt, 2, .inl (fun _ => 0)))] := hD
  refine va_putF (D := (dC, dI)) (ci := 2) (v := .ref apt) (ty := .array .int) (C := RX2) (T := TX2) (N := 8) hx hb hts hinX2 tyX2 tyX2_ok nmX2 hown hK hP hD hS 0 rfl rfl 2 (by decide) (hts (.fieldLink RX2 18 "ProbeBench$Processor" "traps" "[I") (by decide +kernel)) (fun _ h9 => h9) rfl hin rfl (by decide +kernel) rfl rfl (Nat.le_of_ble_eq_true rfl) dX2_init_24 (fun H locs hP hD hS => ?_)
  have hP : va_P (dC, dI) vwCl [(aP, .inr (2, [.ref apr, .ref apw, .ref apt, .int 0, .int 0, .int 0, .int 0, .int 0])), (apr, .inl (kpr, 8, .inl (fun _ => 0))), (apw, .inl (kpw, 64, .inl (fun _ => 0))), (apt, .inl (kpt, 2, .inl (fun _ => 0)))] H := hP
  have hD : va_D A [(aP, .inr (2, [.ref apr, .ref apw, .ref apt, .int 0, .int 0, .int 0, .int 0, .int 0])), (apr, .inl (kpr, 8, .inl (fun _ => 0))), (apw, .inl (kpw, 64, .inl (fun _ => 0))), (apt, .inl (kpt, 2, .inl (fun _ => 0)))] := hD
  refine lv_aload_n hx hb dX2_init_27 rfl (lv_at hl 0 rfl) ?_
  refine lv_iconst (v := (0 : Int32)) hx hb dX2_init_28 (by decide) ?_
  refine va_put (D := (dC, dI)) (ci := 2) (v := .int (0 : Int32)) (ty := .int) (C := RX2) (T := TX2) (N := 8) hx hb hts hinX2 tyX2 tyX2_ok nmX2 hown hK hP hD hS 0 rfl rfl 3 (by decide) (hts (.fieldLink RX2 21 "ProbeBench$Processor" "counter" "I") (by decide +kernel)) (fun _ h9 => h9) rfl (by decide +kernel) rfl rfl (Nat.le_of_ble_eq_true rfl) dX2_init_29 (fun H locs hP hD hS => ?_)
  have hP : va_P (dC, dI) vwCl [(aP, .inr (2, [.ref apr, .ref apw, .ref apt, .int (0 : Int32), .int 0, .int 0, .int 0, .int 0])), (apr, .inl (kpr, 8, .inl (fun _ => 0))), (apw, .inl (kpw, 64, .inl (fun _ => 0))), (apt, .inl (kpt, 2, .inl (fun _ => 0)))] H := hP
  have hD : va_D A [(aP, .inr (2, [.ref apr, .ref apw, .ref apt, .int (0 : Int32), .int 0, .int 0, .int 0, .int 0])), (apr, .inl (kpr, 8, .inl (fun _ => 0))), (apw, .inl (kpw, 64, .inl (fun _ => 0))), (apt, .inl (kpt, 2, .inl (fun _ => 0)))] := hD
  refine lv_aload_n hx hb dX2_init_32 rfl (lv_at hl 0 rfl) ?_
  refine lv_iconst (v := (1 : Int32)) hx hb dX2_init_33 (by decide) ?_
  refine va_put (D := (dC, dI)) (ci := 2) (v := .int (1 : Int32)) (ty := .boolean) (C := RX2) (T := TX2) (N := 8) hx hb hts hinX2 tyX2 tyX2_ok nmX2 hown hK hP hD hS 0 rfl rfl 4 (by decide) (hts (.fieldLink RX2 25 "ProbeBench$Processor" "running" "Z") (by decide +kernel)) (fun _ h9 => h9) rfl (by decide +kernel) (kb_n (Or.inr rfl)) (kb_f (Or.inr rfl)) (Nat.le_of_ble_eq_true rfl) dX2_init_34 (fun H locs hP hD hS => ?_)
  have hP : va_P (dC, dI) vwCl [(aP, .inr (2, [.ref apr, .ref apw, .ref apt, .int (0 : Int32), .int (1 : Int32), .int 0, .int 0, .int 0])), (apr, .inl (kpr, 8, .inl (fun _ => 0))), (apw, .inl (kpw, 64, .inl (fun _ => 0))), (apt, .inl (kpt, 2, .inl (fun _ => 0)))] H := hP
  have hD : va_D A [(aP, .inr (2, [.ref apr, .ref apw, .ref apt, .int (0 : Int32), .int (1 : Int32), .int 0, .int 0, .int 0])), (apr, .inl (kpr, 8, .inl (fun _ => 0))), (apw, .inl (kpw, 64, .inl (fun _ => 0))), (apt, .inl (kpt, 2, .inl (fun _ => 0)))] := hD
  refine lv_aload_n hx hb dX2_init_37 rfl (lv_at hl 0 rfl) ?_
  refine lv_iconst (v := (0 : Int32)) hx hb dX2_init_38 (by decide) ?_
  refine va_put (D := (dC, dI)) (ci := 2) (v := .int (0 : Int32)) (ty := .int) (C := RX2) (T := TX2) (N := 8) hx hb hts hinX2 tyX2 tyX2_ok nmX2 hown hK hP hD hS 0 rfl rfl 5 (by decide) (hts (.fieldLink RX2 29 "ProbeBench$Processor" "cause" "I") (by decide +kernel)) (fun _ h9 => h9) rfl (by decide +kernel) rfl rfl (Nat.le_of_ble_eq_true rfl) dX2_init_39 (fun H locs hP hD hS => ?_)
  have hP : va_P (dC, dI) vwCl [(aP, .inr (2, [.ref apr, .ref apw, .ref apt, .int (0 : Int32), .int (1 : Int32), .int (0 : Int32), .int 0, .int 0])), (apr, .inl (kpr, 8, .inl (fun _ => 0))), (apw, .inl (kpw, 64, .inl (fun _ => 0))), (apt, .inl (kpt, 2, .inl (fun _ => 0)))] H := hP
  have hD : va_D A [(aP, .inr (2, [.ref apr, .ref apw, .ref apt, .int (0 : Int32), .int (1 : Int32), .int (0 : Int32), .int 0, .int 0])), (apr, .inl (kpr, 8, .inl (fun _ => 0))), (apw, .inl (kpw, 64, .inl (fun _ => 0))), (apt, .inl (kpt, 2, .inl (fun _ => 0)))] := hD
  refine lv_aload_n hx hb dX2_init_42 rfl (lv_at hl 0 rfl) ?_
  refine lv_iconst (v := (0 : Int32)) hx hb dX2_init_43 (by decide) ?_
  refine va_put (D := (dC, dI)) (ci := 2) (v := .int (0 : Int32)) (ty := .int) (C := RX2) (T := TX2) (N := 8) hx hb hts hinX2 tyX2 tyX2_ok nmX2 hown hK hP hD hS 0 rfl rfl 6 (by decide) (hts (.fieldLink RX2 32 "ProbeBench$Processor" "stepsDone" "I") (by decide +kernel)) (fun _ h9 => h9) rfl (by decide +kernel) rfl rfl (Nat.le_of_ble_eq_true rfl) dX2_init_44 (fun H locs hP hD hS => ?_)
  have hP : va_P (dC, dI) vwCl [(aP, .inr (2, [.ref apr, .ref apw, .ref apt, .int (0 : Int32), .int (1 : Int32), .int (0 : Int32), .int (0 : Int32), .int 0])), (apr, .inl (kpr, 8, .inl (fun _ => 0))), (apw, .inl (kpw, 64, .inl (fun _ => 0))), (apt, .inl (kpt, 2, .inl (fun _ => 0)))] H := hP
  have hD : va_D A [(aP, .inr (2, [.ref apr, .ref apw, .ref apt, .int (0 : Int32), .int (1 : Int32), .int (0 : Int32), .int (0 : Int32), .int 0])), (apr, .inl (kpr, 8, .inl (fun _ => 0))), (apw, .inl (kpw, 64, .inl (fun _ => 0))), (apt, .inl (kpt, 2, .inl (fun _ => 0)))] := hD
  refine lv_aload_n hx hb dX2_init_47 rfl (lv_at hl 0 rfl) ?_
  refine lv_iconst (v := (0 : Int32)) hx hb dX2_init_48 (by decide) ?_
  refine va_put (D := (dC, dI)) (ci := 2) (v := .int (0 : Int32)) (ty := .boolean) (C := RX2) (T := TX2) (N := 8) hx hb hts hinX2 tyX2 tyX2_ok nmX2 hown hK hP hD hS 0 rfl rfl 7 (by decide) (hts (.fieldLink RX2 35 "ProbeBench$Processor" "passesTrap" "Z") (by decide +kernel)) (fun _ h9 => h9) rfl (by decide +kernel) (kb_n (Or.inl rfl)) (kb_f (Or.inl rfl)) (Nat.le_of_ble_eq_true rfl) dX2_init_49 (fun H locs hP hD hS => ?_)
  have hP : va_P (dC, dI) vwCl [(aP, .inr (2, [.ref apr, .ref apw, .ref apt, .int (0 : Int32), .int (1 : Int32), .int (0 : Int32), .int (0 : Int32), .int (0 : Int32)])), (apr, .inl (kpr, 8, .inl (fun _ => 0))), (apw, .inl (kpw, 64, .inl (fun _ => 0))), (apt, .inl (kpt, 2, .inl (fun _ => 0)))] H := hP
  have hD : va_D A [(aP, .inr (2, [.ref apr, .ref apw, .ref apt, .int (0 : Int32), .int (1 : Int32), .int (0 : Int32), .int (0 : Int32), .int (0 : Int32)])), (apr, .inl (kpr, 8, .inl (fun _ => 0))), (apw, .inl (kpw, 64, .inl (fun _ => 0))), (apt, .inl (kpt, 2, .inl (fun _ => 0)))] := hD
  have hP9 := hP.sub (ws' := [(aP, .inr (2, [.ref apr, .ref apw, .ref apt, .int (0 : Int32), .int (1 : Int32), .int (0 : Int32), .int (0 : Int32), .int (0 : Int32)])), (apr, .inl (kpr, 8, .inl (fun _ => 0))), (apw, .inl (kpw, 64, .inl (fun _ => 0))), (apt, .inl (kpt, 2, .inl (fun _ => 0)))]) [0, 1, 2, 3] rfl
  have hD9 := hD.sub (ws' := [(aP, .inr (2, [.ref apr, .ref apw, .ref apt, .int (0 : Int32), .int (1 : Int32), .int (0 : Int32), .int (0 : Int32), .int (0 : Int32)])), (apr, .inl (kpr, 8, .inl (fun _ => 0))), (apw, .inl (kpw, 64, .inl (fun _ => 0))), (apt, .inl (kpt, 2, .inl (fun _ => 0)))]) [0, 1, 2, 3] (by decide) rfl
  have hK9 := hK.sub (tys' := [(kpr, .int), (kpw, .int), (kpt, .int)]) [0, 1, 2] rfl
  exact W.vret hx hb hr (fun t ht hW => ⟨⟨(), rfl, trivial, apr, apw, apt, kpr, kpw, kpt, by rw [ht]; exact hP9, va_K.moved hW.alike hK9, hD9⟩, hS.F ht⟩) hS.2.2 dX2_init_52
