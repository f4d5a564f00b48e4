set_option maxHeartbeats 4000000 in
set_option maxRecDepth 100000 in
theorem ct_N_setRow (l : Launch) (dC : Nat → ClassId) (dI : Nat → Nat → Nat) (aN aB : Nat) (sz : Nat) (xnc : Int32) (xns : Int32) (xnr : Int32) (xnl : Int32) (xnb : Int32) (xnv : Int32) (xnn : Int32) (xnh : Int32) (xnt : Int32) (xng : Int32) (j1 j2 : Int32) (o : Int32 × Int32) (h : fn_N_setRow xnr xnl j1 j2 = some o) : Met l yX0_setRow wsX0_setRow ({ frames := 0, cells := 0, slots := 0, locals := 0 }) (va_Pc [.ref aN, .int j1, .int j2] (fun U => U.heap.size = sz ∧ va_P (dC, dI) vwCl [(aN, .inr (0, [.ref aB, .int xnc, .int xns, .int xnr, .int xnl, .int xnb, .int xnv, .int xnn, .int xnh, .int xnt, .int xng]))] U.heap ∧ va_K (dC, dI) vwCl [] U ∧ va_D (fun _ => True) [(aN, .inr (0, [.ref aB, .int xnc, .int xns, .int xnr, .int xnl, .int xnb, .int xnv, .int xnn, .int xnh, .int xnt, .int xng]))])) (va_Qv (fun (u : Int32 × Int32) => some u = some o) (fun (u : Int32 × Int32) (t : State) => va_P (dC, dI) vwCl [(aN, .inr (0, [.ref aB, .int xnc, .int xns, .int u.1, .int u.2, .int xnb, .int xnv, .int xnn, .int xnh, .int xnt, .int xng]))] t.heap ∧ va_D (va_A [(aN, .inr (0, [.ref aB, .int xnc, .int xns, .int xnr, .int xnl, .int xnb, .int xnv, .int xnn, .int xnh, .int xnt, .int xng]))] sz) [(aN, .inr (0, [.ref aB, .int xnc, .int xns, .int u.1, .int u.2, .int xnb, .int xnv, .int xnn, .int xnh, .int xnt, .int xng]))]) (va_A [(aN, .inr (0, [.ref aB, .int xnc, .int xns, .int xnr, .int xnl, .int xnb, .int xnv, .int xnn, .int xnh, .int xnt, .int xng]))] sz)) 0 0 (va_A [(aN, .inr (0, [.ref aB, .int xnc, .int xns, .int xnr, .int xnl, .int xnb, .int xnv, .int xnn, .int xnh, .int xnt, .int xng]))] sz) := by
  refine Met.ofW (cc := cX0_setRow) (maxL := 3) (ret := none) (by decide) rfl ?_
  intro p e s m args below meth c s₁ B hml hv
  obtain ⟨rfl, hsz, hP, hK, hD0⟩ := hv
  have hx := B.exec
  have hb := B.bytes
  have hr := B.returns
  have hts := atoms_spec (ws := wsX0_setRow) B.pre
  have hown : s.vm.findClass RX0 = some m.cls := findClass_of_methodNamed B.named
  have hlocks := B.notSynchronized
  subst hsz
  have hD := hD0.self (sz := s.heap.size)
  generalize hAe : va_A [(aN, .inr (0, [.ref aB, .int xnc, .int xns, .int xnr, .int xnl, .int xnb, .int xnv, .int xnn, .int xnh, .int xnt, .int xng]))] s.heap.size = A at hD ⊢
  have hA : ∀ q : Nat, s.heap.size ≤ q → A q := fun q h => by rw [← hAe]; exact Or.inr h
  have hS : va_S A s.heap s.heap [] := va_S.rf
  have hP : va_P (dC, dI) vwCl [(aN, .inr (0, [.ref aB, .int xnc, .int xns, .int xnr, .int xnl, .int xnb, .int xnv, .int xnn, .int xnh, .int xnt, .int xng]))] s.heap := hP
  have hf18 := hts (.fieldLink RX0 18 "ProbeBench$Pins" "row" "I") (by decide +kernel)
  have hf21 := hts (.fieldLink RX0 21 "ProbeBench$Pins" "rowLength" "I") (by decide +kernel)
  have hinX0 : ∀ w ∈ u_ws RX0 TX0 11, w ∈ wsX0_setRow := by decide +kernel
  have hl := lv_entry ([.ref aN, .int j1, .int j2]) (n := 3) (Nat.le_of_ble_eq_true rfl)
  rw [lg_entry_eq]
  generalize (lg_sl ([.ref aN, .int j1, .int j2]) ++ List.replicate (3 - (lg_sl ([.ref aN, .int j1, .int j2])).length) Slot.unset).toArray = ls at hl ⊢
  have hl : lv_has ls 3 [(0, .ref aN), (1, .int j1), (2, .int j2)] := hl
  unfold fn_N_setRow at h
  refine lv_aload_n hx hb dX0_setRow_0 rfl (lv_at hl 0 rfl) ?_
  refine lv_iload_n hx hb dX0_setRow_1 rfl (lv_at hl 1 rfl) ?_
  refine va_put (D := (dC, dI)) (ci := 0) (v := .int j1) (ty := .int) (C := RX0) (T := TX0) (N := 11) hx hb hts hinX0 tyX0 tyX0_ok nmX0 hown hK hP hD hS 0 rfl rfl 4 (by decide) hf21 (fun _ h9 => h9) rfl (by decide +kernel) rfl rfl (Nat.le_of_ble_eq_true rfl) dX0_setRow_2 (fun H locs hP hD hS => ?_)
  have hP : va_P (dC, dI) vwCl [(aN, .inr (0, [.ref aB, .int xnc, .int xns, .int xnr, .int j1, .int xnb, .int xnv, .int xnn, .int xnh, .int xnt, .int xng]))] H := hP
  have hD : va_D A [(aN, .inr (0, [.ref aB, .int xnc, .int xns, .int xnr, .int j1, .int xnb, .int xnv, .int xnn, .int xnh, .int xnt, .int xng]))] := hD
  refine lv_aload_n hx hb dX0_setRow_5 rfl (lv_at hl 0 rfl) ?_
  refine lv_iload_n hx hb dX0_setRow_6 rfl (lv_at hl 2 rfl) ?_
  refine va_put (D := (dC, dI)) (ci := 0) (v := .int j2) (ty := .int) (C := RX0) (T := TX0) (N := 11) hx hb hts hinX0 tyX0 tyX0_ok nmX0 hown hK hP hD hS 0 rfl rfl 3 (by decide) hf18 (fun _ h9 => h9) rfl (by decide +kernel) rfl rfl (Nat.le_of_ble_eq_true rfl) dX0_setRow_7 (fun H locs hP hD hS => ?_)
  have hP : va_P (dC, dI) vwCl [(aN, .inr (0, [.ref aB, .int xnc, .int xns, .int j2, .int j1, .int xnb, .int xnv, .int xnn, .int xnh, .int xnt, .int xng]))] H := hP
  have hD : va_D A [(aN, .inr (0, [.ref aB, .int xnc, .int xns, .int j2, .int j1, .int xnb, .int xnv, .int xnn, .int xnh, .int xnt, .int xng]))] := hD
  exact W.vret hx hb hr (fun t ht hW => ⟨⟨(j2, j1), rfl, h, by rw [ht]; exact hP, hD⟩, hS.F ht⟩) hS.2.2 dX0_setRow_10
set_option maxHeartbeats 4000000 in
set_option maxRecDepth 100000 in
theorem ct_N_captureData (l : Launch) (dC : Nat → ClassId) (dI : Nat → Nat → Nat) (aN aB : Nat) (sz : Nat) (xnc : Int32) (xns : Int32) (xnr : Int32) (xnl : Int32) (xnb : Int32) (xnv : Int32) (xnn : Int32) (xnh : Int32) (xnt : Int32) (xng : Int32) (o : Int32 × Int32) (h : fn_N_captureData xns xnr xnl xnb xnv xnn = some o) : Met l yX0_captureData wsX0_captureData ({ frames := 1, cells := 0, slots := 0, locals := 22 }) (va_Pc [.ref aN] (fun U => U.heap.size = sz ∧ va_P (dC, dI) vwCl [(aN, .inr (0, [.ref aB, .int xnc, .int xns, .int xnr, .int xnl, .int xnb, .int xnv, .int xnn, .int xnh, .int xnt, .int xng]))] U.heap ∧ va_K (dC, dI) vwCl [] U ∧ va_D (fun _ => True) [(aN, .inr (0, [.ref aB, .int xnc, .int xns, .int xnr, .int xnl, .int xnb, .int xnv, .int xnn, .int xnh, .int xnt, .int xng]))])) (va_Qv (fun (u : Int32 × Int32) => some u = some o) (fun (u : Int32 × Int32) (t : State) => va_P (dC, dI) vwCl [(aN, .inr (0, [.ref aB, .int xnc, .int xns, .int u.1, .int u.2, .int xnb, .int xnv, .int xnn, .int xnh, .int xnt, .int xng]))] t.heap ∧ va_D (va_A [(aN, .inr (0, [.ref aB, .int xnc, .int xns, .int xnr, .int xnl, .int xnb, .int xnv, .int xnn, .int xnh, .int xnt, .int xng]))] sz) [(aN, .inr (0, [.ref aB, .int xnc, .int xns, .int u.1, .int u.2, .int xnb, .int xnv, .int xnn, .int xnh, .int xnt, .int xng]))]) (va_A [(aN, .inr (0, [.ref aB, .int xnc, .int xns, .int xnr, .int xnl, .int xnb, .int xnv, .int xnn, .int xnh, .int xnt, .int xng]))] sz)) 0 0 (va_A [(aN, .inr (0, [.ref aB, .int xnc, .int xns, .int xnr, .int xnl, .int xnb, .int xnv, .int xnn, .int xnh, .int xnt, .int xng]))] sz) := by
  refine Met.ofW (cc := cX0_captureData) (maxL := 2) (ret := none) (by decide) rfl ?_
  intro p e s m args below meth c s₁ B hml hv
  obtain ⟨rfl, hsz, hP, hK, hD0⟩ := hv
  have hx := B.exec
  have hb := B.bytes
  have hr := B.returns
  have hts := atoms_spec (ws := wsX0_captureData) B.pre
  have hown : s.vm.findClass RX0 = some m.cls := findClass_of_methodNamed B.named
  have hlocks := B.notSynchronized
  subst hsz
  have hD := hD0.self (sz := s.heap.size)
  generalize hAe : va_A [(aN, .inr (0, [.ref aB, .int xnc, .int xns, .int xnr, .int xnl, .int xnb, .int xnv, .int xnn, .int xnh, .int xnt, .int xng]))] s.heap.size = A at hD ⊢
  have hA : ∀ q : Nat, s.heap.size ≤ q → A q := fun q h => by rw [← hAe]; exact Or.inr h
  have hS : va_S A s.heap s.heap [] := va_S.rf
  have hP : va_P (dC, dI) vwCl [(aN, .inr (0, [.ref aB, .int xnc, .int xns, .int xnr, .int xnl, .int xnb, .int xnv, .int xnn, .int xnh, .int xnt, .int xng]))] s.heap := hP
  have hf15 := hts (.fieldLink RX0 15 "ProbeBench$Pins" "selected" "I") (by decide +kernel)
  have hf24 := hts (.fieldLink RX0 24 "ProbeBench$Pins" "busy" "Z") (by decide +kernel)
  have hf28 := hts (.fieldLink RX0 28 "ProbeBench$Pins" "valueRead" "I") (by decide +kernel)
  have hf31 := hts (.fieldLink RX0 31 "ProbeBench$Pins" "numberBegun" "I") (by decide +kernel)
  have hinX0 : ∀ w ∈ u_ws RX0 TX0 11, w ∈ wsX0_captureData := by decide +kernel
  have k_12 : ∀ (H : Heap) (locs : List Loc) (ls : Array Slot) (xnr : Int32) (xnl : Int32) (w0 : Int32), va_P (dC, dI) vwCl [(aN, .inr (0, [.ref aB, .int xnc, .int xns, .int xnr, .int xnl, .int xnb, .int xnv, .int xnn, .int xnh, .int xnt, .int xng]))] H → va_D A [(aN, .inr (0, [.ref aB, .int xnc, .int xns, .int xnr, .int xnl, .int xnb, .int xnv, .int xnn, .int xnh, .int xnt, .int xng]))] → va_S A s.heap H locs → lv_has ls 2 [(0, .ref aN)] → fn_N_captureData_J12 xns xnr xnl xnb xnv xnn w0 = some o → W p l e (headSpec wsX0_captureData ({ frames := 1, cells := 0, slots := 0, locals := 22 })).room s m ([.ref aN] : List Value).toArray below meth c H locs 0 0 (MQ below (va_Qv (fun (u : Int32 × Int32) => some u = some o) (fun (u : Int32 × Int32) (t : State) => va_P (dC, dI) vwCl [(aN, .inr (0, [.ref aB, .int xnc, .int xns, .int u.1, .int u.2, .int xnb, .int xnv, .int xnn, .int xnh, .int xnt, .int xng]))] t.heap ∧ va_D A [(aN, .inr (0, [.ref aB, .int xnc, .int xns, .int u.1, .int u.2, .int xnb, .int xnv, .int xnn, .int xnh, .int xnt, .int xng]))]) A) ([.ref aN] : List Value).toArray s 0 0 A) (F0 m 12 ls [.int w0]) := by
    intro H locs ls xnr xnl w0 hP hD hS hl h
    unfold fn_N_captureData_J12 at h
    refine lv_istore_n hx hb dX0_captureData_12 rfl hl (by decide) rfl (fun ls hl => ?_)
    have hl : lv_has ls 2 [(1, .int w0), (0, .ref aN)] := hl
    refine lv_aload_n hx hb dX0_captureData_13 rfl (lv_at hl 1 rfl) ?_
    refine va_get (D := (dC, dI)) (ci := 0) (v := .int xns) (C := RX0) (T := TX0) (N := 11) hx hb hts hinX0 hown hK hP 0 rfl rfl 2 (by decide) hf15 (fun _ h9 => h9) rfl dX0_captureData_14 ?_
    by_cases hc1 : xns = (1 : Int32)
    · have h := if_y h hc1
      refine lv_tableIn (tgt := 44) (off := 27) hx hb dX0_captureData_17 (by rw [hc1]; decide) (by rw [hc1]; decide) (by rw [hc1]; rfl) (by decide) ?_
      refine lv_aload_n hx hb dX0_captureData_44 rfl (lv_at hl 1 rfl) ?_
      refine lv_bipush (v := (16 : Int32)) hx hb dX0_captureData_45 (by decide) ?_
      refine lv_sipush (v := (23130 : Int32)) hx hb dX0_captureData_47 (by decide) ?_
      obtain ⟨v50, hv, h⟩ := bn_ex h
      have hPc := hP.sub (ws' := [(aN, .inr (0, [.ref aB, .int xnc, .int xns, .int xnr, .int xnl, .int xnb, .int xnv, .int xnn, .int xnh, .int xnt, .int xng]))]) [0] rfl
      have hDc := hD.sub (ws' := [(aN, .inr (0, [.ref aB, .int xnc, .int xns, .int xnr, .int xnl, .int xnb, .int xnv, .int xnn, .int xnh, .int xnt, .int xng]))]) [0] (by decide) rfl
      have hKc := hK.sub (tys' := []) [] rfl
      have hFc := va_free (wc := [(aN, .inr (0, [.ref aB, .int xnc, .int xns, .int xnr, .int xnl, .int xnb, .int xnv, .int xnn, .int xnh, .int xnt, .int xng]))]) hD hS hA [0] rfl
      refine va_callv (va_runV (As := [.int (16 : Int32), .int (23130 : Int32)]) (rest := []) ⟨hx, hb, hml, hown, hts⟩ (ct_N_setRow l dC dI aN aB H.size xnc xns xnr xnl xnb xnv xnn xnh xnt xng (16 : Int32) (23130 : Int32) v50 hv) (cwV 2 hts gX0_captureData_X0_setRow rfl rfl rfl (by decide +kernel) ⟨Nat.le_of_ble_eq_true rfl, Nat.le_of_ble_eq_true rfl⟩) ⟨fun a U g mk q => by obtain ⟨q0, q1, qP, qK, qD⟩ := q; exact ⟨q0, q1, qP, va_K.moved (u := U) (U := U.calling g mk a) (Vm.Alike.refl U.vm) qK, qD⟩, va_recv (ci := 0) (q0 := 0) hK hP rfl rfl, fun U hU hW => ⟨rfl, by rw [hU], by rw [hU]; exact hPc, va_K.moved hW.alike hKc, hDc.weaken (fun _ _ _ _ => trivial)⟩⟩ rfl rfl hl.1 rfl (lv_room (Nat.le_of_ble_eq_true rfl)) dX0_captureData_50 ⟨Nat.zero_le _, Nat.zero_le _⟩) hS (fun q _ h => hFc q h) hFc (fun u t H locs ht hvm hw hB hz1 hk1 hS => ?_)
      obtain rfl := pr_0 hw
      obtain ⟨hP1, hD1⟩ := hB
      rw [ht] at hP1
      obtain ⟨hP, hD⟩ := va_join (wr := []) (w1 := [(aN, .inr (0, [.ref aB, .int xnc, .int xns, .int v50.1, .int v50.2, .int xnb, .int xnv, .int xnn, .int xnh, .int xnt, .int xng]))]) hP hD [0] [] rfl rfl (by decide) (by decide) hk1 hFc hP1 hD1
      have hP : va_P (dC, dI) vwCl [(aN, .inr (0, [.ref aB, .int xnc, .int xns, .int v50.1, .int v50.2, .int xnb, .int xnv, .int xnn, .int xnh, .int xnt, .int xng]))] H := hP
      have hD : va_D A [(aN, .inr (0, [.ref aB, .int xnc, .int xns, .int v50.1, .int v50.2, .int xnb, .int xnv, .int xnn, .int xnh, .int xnt, .int xng]))] := hD
      refine lv_goto (tgt := 96) hx hb dX0_captureData_53 (by decide) ?_
      exact W.vret hx hb hr (fun t ht hW => ⟨⟨(v50.1, v50.2), rfl, h, by rw [ht]; exact hP, hD⟩, hS.F ht⟩) hS.2.2 dX0_captureData_96
    · have h := if_n h hc1
      by_cases hc2 : xns = (2 : Int32)
      · have h := if_y h hc2
        refine lv_tableIn (tgt := 56) (off := 39) hx hb dX0_captureData_17 (by rw [hc2]; decide) (by rw [hc2]; decide) (by rw [hc2]; rfl) (by decide) ?_
        refine lv_aload_n hx hb dX0_captureData_56 rfl (lv_at hl 1 rfl) ?_
        refine lv_iconst (v := (4 : Int32)) hx hb dX0_captureData_57 (by decide) ?_
        refine lv_iload_n hx hb dX0_captureData_58 rfl (lv_at hl 0 rfl) ?_
        obtain ⟨v59, hv, h⟩ := bn_ex h
        have hPc := hP.sub (ws' := [(aN, .inr (0, [.ref aB, .int xnc, .int xns, .int xnr, .int xnl, .int xnb, .int xnv, .int xnn, .int xnh, .int xnt, .int xng]))]) [0] rfl
        have hDc := hD.sub (ws' := [(aN, .inr (0, [.ref aB, .int xnc, .int xns, .int xnr, .int xnl, .int xnb, .int xnv, .int xnn, .int xnh, .int xnt, .int xng]))]) [0] (by decide) rfl
        have hKc := hK.sub (tys' := []) [] rfl
        have hFc := va_free (wc := [(aN, .inr (0, [.ref aB, .int xnc, .int xns, .int xnr, .int xnl, .int xnb, .int xnv, .int xnn, .int xnh, .int xnt, .int xng]))]) hD hS hA [0] rfl
        refine va_callv (va_runV (As := [.int (4 : Int32), .int w0]) (rest := []) ⟨hx, hb, hml, hown, hts⟩ (ct_N_setRow l dC dI aN aB H.size xnc xns xnr xnl xnb xnv xnn xnh xnt xng (4 : Int32) w0 v59 hv) (cwV 2 hts gX0_captureData_X0_setRow rfl rfl rfl (by decide +kernel) ⟨Nat.le_of_ble_eq_true rfl, Nat.le_of_ble_eq_true rfl⟩) ⟨fun a U g mk q => by obtain ⟨q0, q1, qP, qK, qD⟩ := q; exact ⟨q0, q1, qP, va_K.moved (u := U) (U := U.calling g mk a) (Vm.Alike.refl U.vm) qK, qD⟩, va_recv (ci := 0) (q0 := 0) hK hP rfl rfl, fun U hU hW => ⟨rfl, by rw [hU], by rw [hU]; exact hPc, va_K.moved hW.alike hKc, hDc.weaken (fun _ _ _ _ => trivial)⟩⟩ rfl rfl hl.1 rfl (lv_room (Nat.le_of_ble_eq_true rfl)) dX0_captureData_59 ⟨Nat.zero_le _, Nat.zero_le _⟩) hS (fun q _ h => hFc q h) hFc (fun u t H locs ht hvm hw hB hz1 hk1 hS => ?_)
        obtain rfl := pr_0 hw
        obtain ⟨hP1, hD1⟩ := hB
        rw [ht] at hP1
        obtain ⟨hP, hD⟩ := va_join (wr := []) (w1 := [(aN, .inr (0, [.ref aB, .int xnc, .int xns, .int v59.1, .int v59.2, .int xnb, .int xnv, .int xnn, .int xnh, .int xnt, .int xng]))]) hP hD [0] [] rfl rfl (by decide) (by decide) hk1 hFc hP1 hD1
        have hP : va_P (dC, dI) vwCl [(aN, .inr (0, [.ref aB, .int xnc, .int xns, .int v59.1, .int v59.2, .int xnb, .int xnv, .int xnn, .int xnh, .int xnt, .int xng]))] H := hP
        have hD : va_D A [(aN, .inr (0, [.ref aB, .int xnc, .int xns, .int v59.1, .int v59.2, .int xnb, .int xnv, .int xnn, .int xnh, .int xnt, .int xng]))] := hD
        refine lv_goto (tgt := 96) hx hb dX0_captureData_62 (by decide) ?_
        exact W.vret hx hb hr (fun t ht hW => ⟨⟨(v59.1, v59.2), rfl, h, by rw [ht]; exact hP, hD⟩, hS.F ht⟩) hS.2.2 dX0_captureData_96
      · have h := if_n h hc2
        by_cases hc3 : xns = (3 : Int32)
        · have h := if_y h hc3
          refine lv_tableIn (tgt := 65) (off := 48) hx hb dX0_captureData_17 (by rw [hc3]; decide) (by rw [hc3]; decide) (by rw [hc3]; rfl) (by decide) ?_
          refine lv_aload_n hx hb dX0_captureData_65 rfl (lv_at hl 1 rfl) ?_
          refine lv_bipush (v := (22 : Int32)) hx hb dX0_captureData_66 (by decide) ?_
          refine lv_iload_n hx hb dX0_captureData_68 rfl (lv_at hl 0 rfl) ?_
          refine lv_aload_n hx hb dX0_captureData_69 rfl (lv_at hl 1 rfl) ?_
          refine va_get (D := (dC, dI)) (ci := 0) (v := .int xnv) (C := RX0) (T := TX0) (N := 11) hx hb hts hinX0 hown hK hP 0 rfl rfl 6 (by decide) hf28 (fun _ h9 => h9) rfl dX0_captureData_70 ?_
          refine lv_iconst (v := (2 : Int32)) hx hb dX0_captureData_73 (by decide) ?_
          refine lv_ishl hx hb dX0_captureData_74 ?_
          refine lv_ior hx hb dX0_captureData_75 ?_
          refine lv_aload_n hx hb dX0_captureData_76 rfl (lv_at hl 1 rfl) ?_
          refine va_get (D := (dC, dI)) (ci := 0) (v := .int xnn) (C := RX0) (T := TX0) (N := 11) hx hb hts hinX0 hown hK hP 0 rfl rfl 7 (by decide) hf31 (fun _ h9 => h9) rfl dX0_captureData_77 ?_
          refine lv_bipush (v := (18 : Int32)) hx hb dX0_captureData_80 (by decide) ?_
          refine lv_ishl hx hb dX0_captureData_82 ?_
          refine lv_ior hx hb dX0_captureData_83 ?_
          obtain ⟨v84, hv, h⟩ := bn_ex h
          have hPc := hP.sub (ws' := [(aN, .inr (0, [.ref aB, .int xnc, .int xns, .int xnr, .int xnl, .int xnb, .int xnv, .int xnn, .int xnh, .int xnt, .int xng]))]) [0] rfl
          have hDc := hD.sub (ws' := [(aN, .inr (0, [.ref aB, .int xnc, .int xns, .int xnr, .int xnl, .int xnb, .int xnv, .int xnn, .int xnh, .int xnt, .int xng]))]) [0] (by decide) rfl
          have hKc := hK.sub (tys' := []) [] rfl
          have hFc := va_free (wc := [(aN, .inr (0, [.ref aB, .int xnc, .int xns, .int xnr, .int xnl, .int xnb, .int xnv, .int xnn, .int xnh, .int xnt, .int xng]))]) hD hS hA [0] rfl
          refine va_callv (va_runV (As := [.int (22 : Int32), .int ((w0 ||| (xnv <<< ((2 : Int32) &&& (31 : Int32)))) ||| (xnn <<< ((18 : Int32) &&& (31 : Int32))))]) (rest := []) ⟨hx, hb, hml, hown, hts⟩ (ct_N_setRow l dC dI aN aB H.size xnc xns xnr xnl xnb xnv xnn xnh xnt xng (22 : Int32) ((w0 ||| (xnv <<< ((2 : Int32) &&& (31 : Int32)))) ||| (xnn <<< ((18 : Int32) &&& (31 : Int32)))) v84 hv) (cwV 2 hts gX0_captureData_X0_setRow rfl rfl rfl (by decide +kernel) ⟨Nat.le_of_ble_eq_true rfl, Nat.le_of_ble_eq_true rfl⟩) ⟨fun a U g mk q => by obtain ⟨q0, q1, qP, qK, qD⟩ := q; exact ⟨q0, q1, qP, va_K.moved (u := U) (U := U.calling g mk a) (Vm.Alike.refl U.vm) qK, qD⟩, va_recv (ci := 0) (q0 := 0) hK hP rfl rfl, fun U hU hW => ⟨rfl, by rw [hU], by rw [hU]; exact hPc, va_K.moved hW.alike hKc, hDc.weaken (fun _ _ _ _ => trivial)⟩⟩ rfl rfl hl.1 rfl (lv_room (Nat.le_of_ble_eq_true rfl)) dX0_captureData_84 ⟨Nat.zero_le _, Nat.zero_le _⟩) hS (fun q _ h => hFc q h) hFc (fun u t H locs ht hvm hw hB hz1 hk1 hS => ?_)
          obtain rfl := pr_0 hw
          obtain ⟨hP1, hD1⟩ := hB
          rw [ht] at hP1
          obtain ⟨hP, hD⟩ := va_join (wr := []) (w1 := [(aN, .inr (0, [.ref aB, .int xnc, .int xns, .int v84.1, .int v84.2, .int xnb, .int xnv, .int xnn, .int xnh, .int xnt, .int xng]))]) hP hD [0] [] rfl rfl (by decide) (by decide) hk1 hFc hP1 hD1
          have hP : va_P (dC, dI) vwCl [(aN, .inr (0, [.ref aB, .int xnc, .int xns, .int v84.1, .int v84.2, .int xnb, .int xnv, .int xnn, .int xnh, .int xnt, .int xng]))] H := hP
          have hD : va_D A [(aN, .inr (0, [.ref aB, .int xnc, .int xns, .int v84.1, .int v84.2, .int xnb, .int xnv, .int xnn, .int xnh, .int xnt, .int xng]))] := hD
          refine lv_goto (tgt := 96) hx hb dX0_captureData_87 (by decide) ?_
          exact W.vret hx hb hr (fun t ht hW => ⟨⟨(v84.1, v84.2), rfl, h, by rw [ht]; exact hP, hD⟩, hS.F ht⟩) hS.2.2 dX0_captureData_96
        · have h := if_n h hc3
          have e1 := lv_neT (a := 1) hc1 (by decide)
          have e2 := lv_neT (a := 2) hc2 (by decide)
          have e3 := lv_neT (a := 3) hc3 (by decide)
          refine lv_tableOut (tgt := 90) hx hb dX0_captureData_17 (by omega) (by decide) ?_
          refine lv_aload_n hx hb dX0_captureData_90 rfl (lv_at hl 1 rfl) ?_
          refine lv_iconst (v := (1 : Int32)) hx hb dX0_captureData_91 (by decide) ?_
          refine lv_iconst (v := (0 : Int32)) hx hb dX0_captureData_92 (by decide) ?_
          obtain ⟨v93, hv, h⟩ := bn_ex h
          have hPc := hP.sub (ws' := [(aN, .inr (0, [.ref aB, .int xnc, .int xns, .int xnr, .int xnl, .int xnb, .int xnv, .int xnn, .int xnh, .int xnt, .int xng]))]) [0] rfl
          have hDc := hD.sub (ws' := [(aN, .inr (0, [.ref aB, .int xnc, .int xns, .int xnr, .int xnl, .int xnb, .int xnv, .int xnn, .int xnh, .int xnt, .int xng]))]) [0] (by decide) rfl
          have hKc := hK.sub (tys' := []) [] rfl
          have hFc := va_free (wc := [(aN, .inr (0, [.ref aB, .int xnc, .int xns, .int xnr, .int xnl, .int xnb, .int xnv, .int xnn, .int xnh, .int xnt, .int xng]))]) hD hS hA [0] rfl
          refine va_callv (va_runV (As := [.int (1 : Int32), .int (0 : Int32)]) (rest := []) ⟨hx, hb, hml, hown, hts⟩ (ct_N_setRow l dC dI aN aB H.size xnc xns xnr xnl xnb xnv xnn xnh xnt xng (1 : Int32) (0 : Int32) v93 hv) (cwV 2 hts gX0_captureData_X0_setRow rfl rfl rfl (by decide +kernel) ⟨Nat.le_of_ble_eq_true rfl, Nat.le_of_ble_eq_true rfl⟩) ⟨fun a U g mk q => by obtain ⟨q0, q1, qP, qK, qD⟩ := q; exact ⟨q0, q1, qP, va_K.moved (u := U) (U := U.calling g mk a) (Vm.Alike.refl U.vm) qK, qD⟩, va_recv (ci := 0) (q0 := 0) hK hP rfl rfl, fun U hU hW => ⟨rfl, by rw [hU], by rw [hU]; exact hPc, va_K.moved hW.alike hKc, hDc.weaken (fun _ _ _ _ => trivial)⟩⟩ rfl rfl hl.1 rfl (lv_room (Nat.le_of_ble_eq_true rfl)) dX0_captureData_93 ⟨Nat.zero_le _, Nat.zero_le _⟩) hS (fun q _ h => hFc q h) hFc (fun u t H locs ht hvm hw hB hz1 hk1 hS => ?_)
          obtain rfl := pr_0 hw
          obtain ⟨hP1, hD1⟩ := hB
          rw [ht] at hP1
          obtain ⟨hP, hD⟩ := va_join (wr := []) (w1 := [(aN, .inr (0, [.ref aB, .int xnc, .int xns, .int v93.1, .int v93.2, .int xnb, .int xnv, .int xnn, .int xnh, .int xnt, .int xng]))]) hP hD [0] [] rfl rfl (by decide) (by decide) hk1 hFc hP1 hD1
          have hP : va_P (dC, dI) vwCl [(aN, .inr (0, [.ref aB, .int xnc, .int xns, .int v93.1, .int v93.2, .int xnb, .int xnv, .int xnn, .int xnh, .int xnt, .int xng]))] H := hP
          have hD : va_D A [(aN, .inr (0, [.ref aB, .int xnc, .int xns, .int v93.1, .int v93.2, .int xnb, .int xnv, .int xnn, .int xnh, .int xnt, .int xng]))] := hD
          exact W.vret hx hb hr (fun t ht hW => ⟨⟨(v93.1, v93.2), rfl, h, by rw [ht]; exact hP, hD⟩, hS.F ht⟩) hS.2.2 dX0_captureData_96
  have hl := lv_entry ([.ref aN]) (n := 2) (Nat.le_of_ble_eq_true rfl)
  rw [lg_entry_eq]
  generalize (lg_sl ([.ref aN]) ++ List.replicate (2 - (lg_sl ([.ref aN])).length) Slot.unset).toArray = ls at hl ⊢
  have hl : lv_has ls 2 [(0, .ref aN)] := hl
  unfold fn_N_captureData at h
  refine lv_aload_n hx hb dX0_captureData_0 rfl (lv_at hl 0 rfl) ?_
  refine va_get (D := (dC, dI)) (ci := 0) (v := .int xnb) (C := RX0) (T := TX0) (N := 11) hx hb hts hinX0 hown hK hP 0 rfl rfl 5 (by decide) hf24 (fun _ h9 => h9) rfl dX0_captureData_1 ?_
  refine lv_if_eq (tgt := 11) hx hb dX0_captureData_4 (by decide) (fun hc => ?_) (fun hc => ?_)
  · have h := if_y h hc
    refine lv_iconst (v := (0 : Int32)) hx hb dX0_captureData_11 (by decide) ?_
    exact k_12 _ _ _ _ _ _ hP hD hS hl h
  · have h := if_n h hc
    refine lv_iconst (v := (3 : Int32)) hx hb dX0_captureData_7 (by decide) ?_
    refine lv_goto (tgt := 12) hx hb dX0_captureData_8 (by decide) ?_
    exact k_12 _ _ _ _ _ _ hP hD hS hl h
set_option maxHeartbeats 4000000 in
set_option maxRecDepth 100000 in
theorem ct_N_comesTooSoon (l : Launch) (dC : Nat → ClassId) (dI : Nat → Nat → Nat) (aN aB : Nat) (sz : Nat) (xnc : Int32) (xns : Int32) (xnr : Int32) (xnl : Int32) (xnb : Int32) (xnv : Int32) (xnn : Int32) (xnh : Int32) (xnt : Int32) (xng : Int32) (o : Int32) (h : fn_N_comesTooSoon xnh xnt xng = some o) : Met l yX0_comesTooSoon wsX0_comesTooSoon ({ frames := 0, cells := 0, slots := 0, locals := 0 }) (va_Pc [.ref aN] (fun U => U.heap.size = sz ∧ va_P (dC, dI) vwCl [(aN, .inr (0, [.ref aB, .int xnc, .int xns, .int xnr, .int xnl, .int xnb, .int xnv, .int xnn, .int xnh, .int xnt, .int xng]))] U.heap ∧ va_K (dC, dI) vwCl [] U ∧ va_D (fun _ => True) [(aN, .inr (0, [.ref aB, .int xnc, .int xns, .int xnr, .int xnl, .int xnb, .int xnv, .int xnn, .int xnh, .int xnt, .int xng]))])) (va_Qi (fun (r : Int32) (_ : Unit) => some r = some o) (fun (u : Unit) (t : State) => va_P (dC, dI) vwCl [(aN, .inr (0, [.ref aB, .int xnc, .int xns, .int xnr, .int xnl, .int xnb, .int xnv, .int xnn, .int xnh, .int xnt, .int xng]))] t.heap ∧ va_D (va_A [(aN, .inr (0, [.ref aB, .int xnc, .int xns, .int xnr, .int xnl, .int xnb, .int xnv, .int xnn, .int xnh, .int xnt, .int xng]))] sz) [(aN, .inr (0, [.ref aB, .int xnc, .int xns, .int xnr, .int xnl, .int xnb, .int xnv, .int xnn, .int xnh, .int xnt, .int xng]))]) (va_A [(aN, .inr (0, [.ref aB, .int xnc, .int xns, .int xnr, .int xnl, .int xnb, .int xnv, .int xnn, .int xnh, .int xnt, .int xng]))] sz)) 0 0 (va_A [(aN, .inr (0, [.ref aB, .int xnc, .int xns, .int xnr, .int xnl, .int xnb, .int xnv, .int xnn, .int xnh, .int xnt, .int xng]))] sz) := by
  refine Met.ofW (cc := cX0_comesTooSoon) (maxL := 2) (ret := (some .boolean)) (by decide) rfl ?_
  intro p e s m args below meth c s₁ B hml hv
  obtain ⟨rfl, hsz, hP, hK, hD0⟩ := hv
  have hx := B.exec
  have hb := B.bytes
  have hr := B.returns
  have hts := atoms_spec (ws := wsX0_comesTooSoon) B.pre
  have hown : s.vm.findClass RX0 = some m.cls := findClass_of_methodNamed B.named
  have hlocks := B.notSynchronized
  subst hsz
  have hD := hD0.self (sz := s.heap.size)
  generalize hAe : va_A [(aN, .inr (0, [.ref aB, .int xnc, .int xns, .int xnr, .int xnl, .int xnb, .int xnv, .int xnn, .int xnh, .int xnt, .int xng]))] s.heap.size = A at hD ⊢
  have hA : ∀ q : Nat, s.heap.size ≤ q → A q := fun q h => by rw [← hAe]; exact Or.inr h
  have hS : va_S A s.heap s.heap [] := va_S.rf
  have hP : va_P (dC, dI) vwCl [(aN, .inr (0, [.ref aB, .int xnc, .int xns, .int xnr, .int xnl, .int xnb, .int xnv, .int xnn, .int xnh, .int xnt, .int xng]))] s.heap := hP
  have hf34 := hts (.fieldLink RX0 34 "ProbeBench$Pins" "hasBegun" "Z") (by decide +kernel)
  have hf37 := hts (.fieldLink RX0 37 "ProbeBench$Pins" "ticksDone" "I") (by decide +kernel)
  have hf40 := hts (.fieldLink RX0 40 "ProbeBench$Pins" "ticksAtBegin" "I") (by decide +kernel)
  have hinX0 : ∀ w ∈ u_ws RX0 TX0 11, w ∈ wsX0_comesTooSoon := by decide +kernel
  have hl := lv_entry ([.ref aN]) (n := 2) (Nat.le_of_ble_eq_true rfl)
  rw [lg_entry_eq]
  generalize (lg_sl ([.ref aN]) ++ List.replicate (2 - (lg_sl ([.ref aN])).length) Slot.unset).toArray = ls at hl ⊢
  have hl : lv_has ls 2 [(0, .ref aN)] := hl
  unfold fn_N_comesTooSoon at h
  refine lv_aload_n hx hb dX0_comesTooSoon_0 rfl (lv_at hl 0 rfl) ?_
  refine va_get (D := (dC, dI)) (ci := 0) (v := .int xnt) (C := RX0) (T := TX0) (N := 11) hx hb hts hinX0 hown hK hP 0 rfl rfl 9 (by decide) hf37 (fun _ h9 => h9) rfl dX0_comesTooSoon_1 ?_
  refine lv_aload_n hx hb dX0_comesTooSoon_4 rfl (lv_at hl 0 rfl) ?_
  refine va_get (D := (dC, dI)) (ci := 0) (v := .int xng) (C := RX0) (T := TX0) (N := 11) hx hb hts hinX0 hown hK hP 0 rfl rfl 10 (by decide) hf40 (fun _ h9 => h9) rfl dX0_comesTooSoon_5 ?_
  refine lv_isub hx hb dX0_comesTooSoon_8 ?_
  refine lv_iconst (v := (1 : Int32)) hx hb dX0_comesTooSoon_9 (by decide) ?_
  refine lv_isub hx hb dX0_comesTooSoon_10 ?_
  refine lv_istore_n hx hb dX0_comesTooSoon_11 rfl hl (by decide) rfl (fun ls hl => ?_)
  have hl : lv_has ls 2 [(1, .int ((xnt - xng) - (1 : Int32))), (0, .ref aN)] := hl
  refine lv_aload_n hx hb dX0_comesTooSoon_12 rfl (lv_at hl 1 rfl) ?_
  refine va_get (D := (dC, dI)) (ci := 0) (v := .int xnh) (C := RX0) (T := TX0) (N := 11) hx hb hts hinX0 hown hK hP 0 rfl rfl 8 (by decide) hf34 (fun _ h9 => h9) rfl dX0_comesTooSoon_13 ?_
  refine lv_if_eq (tgt := 28) hx hb dX0_comesTooSoon_16 (by decide) (fun hc => ?_) (fun hc => ?_)
  · have h := if_y h hc
    refine lv_iconst (v := (0 : Int32)) hx hb dX0_comesTooSoon_28 (by decide) ?_
    exact W.zret hx hb hr (kb_n (Or.inl rfl)) (fun t ht hW => ⟨⟨(0 : Int32), (), rfl, h, by rw [ht]; exact hP, hD⟩, hS.F ht⟩) hS.2.2 dX0_comesTooSoon_29
  · have h := if_n h hc
    refine lv_iload_n hx hb dX0_comesTooSoon_19 rfl (lv_at hl 0 rfl) ?_
    refine lv_iconst (v := (4 : Int32)) hx hb dX0_comesTooSoon_20 (by decide) ?_
    refine lv_icmp_ge (tgt := 28) hx hb dX0_comesTooSoon_21 (by decide) (fun hc => ?_) (fun hc => ?_)
    · have h := if_y h hc
      refine lv_iconst (v := (0 : Int32)) hx hb dX0_comesTooSoon_28 (by decide) ?_
      exact W.zret hx hb hr (kb_n (Or.inl rfl)) (fun t ht hW => ⟨⟨(0 : Int32), (), rfl, h, by rw [ht]; exact hP, hD⟩, hS.F ht⟩) hS.2.2 dX0_comesTooSoon_29
    · have h := if_n h hc
      refine lv_iconst (v := (1 : Int32)) hx hb dX0_comesTooSoon_24 (by decide) ?_
      refine lv_goto (tgt := 29) hx hb dX0_comesTooSoon_25 (by decide) ?_
      exact W.zret hx hb hr (kb_n (Or.inr rfl)) (fun t ht hW => ⟨⟨(1 : Int32), (), rfl, h, by rw [ht]; exact hP, hD⟩, hS.F ht⟩) hS.2.2 dX0_comesTooSoon_29
set_option maxHeartbeats 4000000 in
set_option maxRecDepth 100000 in
theorem ct_N_noteBegin (l : Launch) (dC : Nat → ClassId) (dI : Nat → Nat → Nat) (aN aB : Nat) (sz : Nat) (xnc : Int32) (xns : Int32) (xnr : Int32) (xnl : Int32) (xnb : Int32) (xnv : Int32) (xnn : Int32) (xnh : Int32) (xnt : Int32) (xng : Int32) (o : Int32 × Int32 × Int32) (h : fn_N_noteBegin xnr xnn xnh xnt xng = some o) : Met l yX0_noteBegin wsX0_noteBegin ({ frames := 0, cells := 0, slots := 0, locals := 0 }) (va_Pc [.ref aN] (fun U => U.heap.size = sz ∧ va_P (dC, dI) vwCl [(aN, .inr (0, [.ref aB, .int xnc, .int xns, .int xnr, .int xnl, .int xnb, .int xnv, .int xnn, .int xnh, .int xnt, .int xng]))] U.heap ∧ va_K (dC, dI) vwCl [] U ∧ va_D (fun _ => True) [(aN, .inr (0, [.ref aB, .int xnc, .int xns, .int xnr, .int xnl, .int xnb, .int xnv, .int xnn, .int xnh, .int xnt, .int xng]))])) (va_Qv (fun (u : Int32 × Int32 × Int32) => some u = some o) (fun (u : Int32 × Int32 × Int32) (t : State) => va_P (dC, dI) vwCl [(aN, .inr (0, [.ref aB, .int xnc, .int xns, .int xnr, .int xnl, .int xnb, .int xnv, .int u.1, .int u.2.1, .int xnt, .int u.2.2]))] t.heap ∧ va_D (va_A [(aN, .inr (0, [.ref aB, .int xnc, .int xns, .int xnr, .int xnl, .int xnb, .int xnv, .int xnn, .int xnh, .int xnt, .int xng]))] sz) [(aN, .inr (0, [.ref aB, .int xnc, .int xns, .int xnr, .int xnl, .int xnb, .int xnv, .int u.1, .int u.2.1, .int xnt, .int u.2.2]))]) (va_A [(aN, .inr (0, [.ref aB, .int xnc, .int xns, .int xnr, .int xnl, .int xnb, .int xnv, .int xnn, .int xnh, .int xnt, .int xng]))] sz)) 0 0 (va_A [(aN, .inr (0, [.ref aB, .int xnc, .int xns, .int xnr, .int xnl, .int xnb, .int xnv, .int xnn, .int xnh, .int xnt, .int xng]))] sz) := by
  refine Met.ofW (cc := cX0_noteBegin) (maxL := 1) (ret := none) (by decide) rfl ?_
  intro p e s m args below meth c s₁ B hml hv
  obtain ⟨rfl, hsz, hP, hK, hD0⟩ := hv
  have hx := B.exec
  have hb := B.bytes
  have hr := B.returns
  have hts := atoms_spec (ws := wsX0_noteBegin) B.pre
  have hown : s.vm.findClass RX0 = some m.cls := findClass_of_methodNamed B.named
  have hlocks := B.notSynchronized
  subst hsz
  have hD := hD0.self (sz := s.heap.size)
  generalize hAe : va_A [(aN, .inr (0, [.ref aB, .int xnc, .int xns, .int xnr, .int xnl, .int xnb, .int xnv, .int xnn, .int xnh, .int xnt, .int xng]))] s.heap.size = A at hD ⊢
  have hA : ∀ q : Nat, s.heap.size ≤ q → A q := fun q h => by rw [← hAe]; exact Or.inr h
  have hS : va_S A s.heap s.heap [] := va_S.rf
  have hP : va_P (dC, dI) vwCl [(aN, .inr (0, [.ref aB, .int xnc, .int xns, .int xnr, .int xnl, .int xnb, .int xnv, .int xnn, .int xnh, .int xnt, .int xng]))] s.heap := hP
  have hf18 := hts (.fieldLink RX0 18 "ProbeBench$Pins" "row" "I") (by decide +kernel)
  have hf31 := hts (.fieldLink RX0 31 "ProbeBench$Pins" "numberBegun" "I") (by decide +kernel)
  have hf34 := hts (.fieldLink RX0 34 "ProbeBench$Pins" "hasBegun" "Z") (by decide +kernel)
  have hf37 := hts (.fieldLink RX0 37 "ProbeBench$Pins" "ticksDone" "I") (by decide +kernel)
  have hf40 := hts (.fieldLink RX0 40 "ProbeBench$Pins" "ticksAtBegin" "I") (by decide +kernel)
  have hinX0 : ∀ w ∈ u_ws RX0 TX0 11, w ∈ wsX0_noteBegin := by decide +kernel
  have hl := lv_entry ([.ref aN]) (n := 1) (Nat.le_of_ble_eq_true rfl)
  rw [lg_entry_eq]
  generalize (lg_sl ([.ref aN]) ++ List.replicate (1 - (lg_sl ([.ref aN])).length) Slot.unset).toArray = ls at hl ⊢
  have hl : lv_has ls 1 [(0, .ref aN)] := hl
  unfold fn_N_noteBegin at h
  refine lv_aload_n hx hb dX0_noteBegin_0 rfl (lv_at hl 0 rfl) ?_
  refine lv_iconst (v := (1 : Int32)) hx hb dX0_noteBegin_1 (by decide) ?_
  refine va_put (D := (dC, dI)) (ci := 0) (v := .int (1 : Int32)) (ty := .boolean) (C := RX0) (T := TX0) (N := 11) hx hb hts hinX0 tyX0 tyX0_ok nmX0 hown hK hP hD hS 0 rfl rfl 8 (by decide) hf34 (fun _ h9 => h9) rfl (by decide +kernel) (kb_n (Or.inr rfl)) (kb_f (Or.inr rfl)) (Nat.le_of_ble_eq_true rfl) dX0_noteBegin_2 (fun H locs hP hD hS => ?_)
  have hP : va_P (dC, dI) vwCl [(aN, .inr (0, [.ref aB, .int xnc, .int xns, .int xnr, .int xnl, .int xnb, .int xnv, .int xnn, .int (1 : Int32), .int xnt, .int xng]))] H := hP
  have hD : va_D A [(aN, .inr (0, [.ref aB, .int xnc, .int xns, .int xnr, .int xnl, .int xnb, .int xnv, .int xnn, .int (1 : Int32), .int xnt, .int xng]))] := hD
  refine lv_aload_n hx hb dX0_noteBegin_5 rfl (lv_at hl 0 rfl) ?_
  refine lv_aload_n hx hb dX0_noteBegin_6 rfl (lv_at hl 0 rfl) ?_
  refine va_get (D := (dC, dI)) (ci := 0) (v := .int xnt) (C := RX0) (T := TX0) (N := 11) hx hb hts hinX0 hown hK hP 0 rfl rfl 9 (by decide) hf37 (fun _ h9 => h9) rfl dX0_noteBegin_7 ?_
  refine va_put (D := (dC, dI)) (ci := 0) (v := .int xnt) (ty := .int) (C := RX0) (T := TX0) (N := 11) hx hb hts hinX0 tyX0 tyX0_ok nmX0 hown hK hP hD hS 0 rfl rfl 10 (by decide) hf40 (fun _ h9 => h9) rfl (by decide +kernel) rfl rfl (Nat.le_of_ble_eq_true rfl) dX0_noteBegin_10 (fun H locs hP hD hS => ?_)
  have hP : va_P (dC, dI) vwCl [(aN, .inr (0, [.ref aB, .int xnc, .int xns, .int xnr, .int xnl, .int xnb, .int xnv, .int xnn, .int (1 : Int32), .int xnt, .int xnt]))] H := hP
  have hD : va_D A [(aN, .inr (0, [.ref aB, .int xnc, .int xns, .int xnr, .int xnl, .int xnb, .int xnv, .int xnn, .int (1 : Int32), .int xnt, .int xnt]))] := hD
  refine lv_aload_n hx hb dX0_noteBegin_13 rfl (lv_at hl 0 rfl) ?_
  refine lv_aload_n hx hb dX0_noteBegin_14 rfl (lv_at hl 0 rfl) ?_
  refine va_get (D := (dC, dI)) (ci := 0) (v := .int xnr) (C := RX0) (T := TX0) (N := 11) hx hb hts hinX0 hown hK hP 0 rfl rfl 3 (by decide) hf18 (fun _ h9 => h9) rfl dX0_noteBegin_15 ?_
  refine lv_bipush (v := (18 : Int32)) hx hb dX0_noteBegin_18 (by decide) ?_
  refine lv_ishr hx hb dX0_noteBegin_20 ?_
  refine lv_bipush (v := (15 : Int32)) hx hb dX0_noteBegin_21 (by decide) ?_
  refine lv_iand hx hb dX0_noteBegin_23 ?_
  refine va_put (D := (dC, dI)) (ci := 0) (v := .int ((xnr >>> ((18 : Int32) &&& (31 : Int32))) &&& (15 : Int32))) (ty := .int) (C := RX0) (T := TX0) (N := 11) hx hb hts hinX0 tyX0 tyX0_ok nmX0 hown hK hP hD hS 0 rfl rfl 7 (by decide) hf31 (fun _ h9 => h9) rfl (by decide +kernel) rfl rfl (Nat.le_of_ble_eq_true rfl) dX0_noteBegin_24 (fun H locs hP hD hS => ?_)
  have hP : va_P (dC, dI) vwCl [(aN, .inr (0, [.ref aB, .int xnc, .int xns, .int xnr, .int xnl, .int xnb, .int xnv, .int ((xnr >>> ((18 : Int32) &&& (31 : Int32))) &&& (15 : Int32)), .int (1 : Int32), .int xnt, .int xnt]))] H := hP
  have hD : va_D A [(aN, .inr (0, [.ref aB, .int xnc, .int xns, .int xnr, .int xnl, .int xnb, .int xnv, .int ((xnr >>> ((18 : Int32) &&& (31 : Int32))) &&& (15 : Int32)), .int (1 : Int32), .int xnt, .int xnt]))] := hD
  exact W.vret hx hb hr (fun t ht hW => ⟨⟨(((xnr >>> ((18 : Int32) &&& (31 : Int32))) &&& (15 : Int32)), (1 : Int32), xnt), rfl, h, by rw [ht]; exact hP, hD⟩, hS.F ht⟩) hS.2.2 dX0_noteBegin_27
set_option maxHeartbeats 4000000 in
set_option maxRecDepth 100000 in
theorem ct_N_updateData (l : Launch) (dC : Nat → ClassId) (dI : Nat → Nat → Nat) (aN aB aba aP apr apw apt : Nat) (kba kpr kpw kpt : ClassId) (sz : Nat) (xnc : Int32) (xns : Int32) (xnr : Int32) (xnl : Int32) (xnb : Int32) (xnv : Int32) (xnn : Int32) (xnh : Int32) (xnt : Int32) (xng : Int32) (xba : (Nat → Int32)) (xbs : Int32) (xbd : Int32) (xbe : Int32) (xbx : Int32) (xpr : (Nat → Int32)) (xpw : (Nat → Int32)) (xpt : (Nat → Int32)) (xpc : Int32) (xrn : Int32) (xca : Int32) (xst : Int32) (xps : Int32) (o : Int32 × Int32 × Int32 × Int32 × Int32 × (Nat → Int32) × Int32 × Int32 × Int32 × Int32 × (Nat → Int32) × (Nat → Int32) × (Nat → Int32) × Int32 × Int32 × Int32 × Int32 × Int32) (h : fn_N_updateData xns xnr xnb xnv xnn xnh xnt xng xba xbs xbd xbe xbx xpr xpw xpt xpc xrn xca xst xps = some o) : Met l yX0_updateData wsX0_updateData ({ frames := 4, cells := 0, slots := 0, locals := 90 }) (va_Pc [.ref aN] (fun U => U.heap.size = sz ∧ va_P (dC, dI) vwCl [(aN, .inr (0, [.ref aB, .int xnc, .int xns, .int xnr, .int xnl, .int xnb, .int xnv, .int xnn, .int xnh, .int xnt, .int xng])), (aB, .inr (1, [.ref aP, .ref aba, .int xbs, .int xbd, .int xbe, .int xbx])), (aba, .inl (kba, 4, .inl xba)), (aP, .inr (2, [.ref apr, .ref apw, .ref apt, .int xpc, .int xrn, .int xca, .int xst, .int xps])), (apr, .inl (kpr, 8, .inl xpr)), (apw, .inl (kpw, 64, .inl xpw)), (apt, .inl (kpt, 2, .inl xpt))] U.heap ∧ va_K (dC, dI) vwCl [(kba, .int), (kpr, .int), (kpw, .int), (kpt, .int)] U ∧ va_D (fun _ => True) [(aN, .inr (0, [.ref aB, .int xnc, .int xns, .int xnr, .int xnl, .int xnb, .int xnv, .int xnn, .int xnh, .int xnt, .int xng])), (aB, .inr (1, [.ref aP, .ref aba, .int xbs, .int xbd, .int xbe, .int xbx])), (aba, .inl (kba, 4, .inl xba)), (aP, .inr (2, [.ref apr, .ref apw, .ref apt, .int xpc, .int xrn, .int xca, .int xst, .int xps])), (apr, .inl (kpr, 8, .inl xpr)), (apw, .inl (kpw, 64, .inl xpw)), (apt, .inl (kpt, 2, .inl xpt))])) (va_Qv (fun (u : Int32 × Int32 × Int32 × Int32 × Int32 × (Nat → Int32) × Int32 × Int32 × Int32 × Int32 × (Nat → Int32) × (Nat → Int32) × (Nat → Int32) × Int32 × Int32 × Int32 × Int32 × Int32) => some u = some o) (fun (u : Int32 × Int32 × Int32 × Int32 × Int32 × (Nat → Int32) × Int32 × Int32 × Int32 × Int32 × (Nat → Int32) × (Nat → Int32) × (Nat → Int32) × Int32 × Int32 × Int32 × Int32 × Int32) (t : State) => va_P (dC, dI) vwCl [(aN, .inr (0, [.ref aB, .int xnc, .int xns, .int xnr, .int xnl, .int u.1, .int u.2.1, .int u.2.2.1, .int u.2.2.2.1, .int xnt, .int u.2.2.2.2.1])), (aB, .inr (1, [.ref aP, .ref aba, .int u.2.2.2.2.2.2.1, .int u.2.2.2.2.2.2.2.1, .int u.2.2.2.2.2.2.2.2.1, .int u.2.2.2.2.2.2.2.2.2.1])), (aba, .inl (kba, 4, .inl u.2.2.2.2.2.1)), (aP, .inr (2, [.ref apr, .ref apw, .ref apt, .int u.2.2.2.2.2.2.2.2.2.2.2.2.2.1, .int u.2.2.2.2.2.2.2.2.2.2.2.2.2.2.1, .int u.2.2.2.2.2.2.2.2.2.2.2.2.2.2.2.1, .int u.2.2.2.2.2.2.2.2.2.2.2.2.2.2.2.2.1, .int u.2.2.2.2.2.2.2.2.2.2.2.2.2.2.2.2.2])), (apr, .inl (kpr, 8, .inl u.2.2.2.2.2.2.2.2.2.2.1)), (apw, .inl (kpw, 64, .inl u.2.2.2.2.2.2.2.2.2.2.2.1)), (apt, .inl (kpt, 2, .inl u.2.2.2.2.2.2.2.2.2.2.2.2.1))] t.heap ∧ va_D (va_A [(aN, .inr (0, [.ref aB, .int xnc, .int xns, .int xnr, .int xnl, .int xnb, .int xnv, .int xnn, .int xnh, .int xnt, .int xng])), (aB, .inr (1, [.ref aP, .ref aba, .int xbs, .int xbd, .int xbe, .int xbx])), (aba, .inl (kba, 4, .inl xba)), (aP, .inr (2, [.ref apr, .ref apw, .ref apt, .int xpc, .int xrn, .int xca, .int xst, .int xps])), (apr, .inl (kpr, 8, .inl xpr)), (apw, .inl (kpw, 64, .inl xpw)), (apt, .inl (kpt, 2, .inl xpt))] sz) [(aN, .inr (0, [.ref aB, .int xnc, .int xns, .int xnr, .int xnl, .int u.1, .int u.2.1, .int u.2.2.1, .int u.2.2.2.1, .int xnt, .int u.2.2.2.2.1])), (aB, .inr (1, [.ref aP, .ref aba, .int u.2.2.2.2.2.2.1, .int u.2.2.2.2.2.2.2.1, .int u.2.2.2.2.2.2.2.2.1, .int u.2.2.2.2.2.2.2.2.2.1])), (aba, .inl (kba, 4, .inl u.2.2.2.2.2.1)), (aP, .inr (2, [.ref apr, .ref apw, .ref apt, .int u.2.2.2.2.2.2.2.2.2.2.2.2.2.1, .int u.2.2.2.2.2.2.2.2.2.2.2.2.2.2.1, .int u.2.2.2.2.2.2.2.2.2.2.2.2.2.2.2.1, .int u.2.2.2.2.2.2.2.2.2.2.2.2.2.2.2.2.1, .int u.2.2.2.2.2.2.2.2.2.2.2.2.2.2.2.2.2])), (apr, .inl (kpr, 8, .inl u.2.2.2.2.2.2.2.2.2.2.1)), (apw, .inl (kpw, 64, .inl u.2.2.2.2.2.2.2.2.2.2.2.1)), (apt, .inl (kpt, 2, .inl u.2.2.2.2.2.2.2.2.2.2.2.2.1))]) (va_A [(aN, .inr (0, [.ref aB, .int xnc, .int xns, .int xnr, .int xnl, .int xnb, .int xnv, .int xnn, .int xnh, .int xnt, .int xng])), (aB, .inr (1, [.ref aP, .ref aba, .int xbs, .int xbd, .int xbe, .int xbx])), (aba, .inl (kba, 4, .inl xba)), (aP, .inr (2, [.ref apr, .ref apw, .ref apt, .int xpc, .int xrn, .int xca, .int xst, .int xps])), (apr, .inl (kpr, 8, .inl xpr)), (apw, .inl (kpw, 64, .inl xpw)), (apt, .inl (kpt, 2, .inl xpt))] sz)) 0 0 (va_A [(aN, .inr (0, [.ref aB, .int xnc, .int xns, .int xnr, .int xnl, .int xnb, .int xnv, .int xnn, .int xnh, .int xnt, .int xng])), (aB, .inr (1, [.ref aP, .ref aba, .int xbs, .int xbd, .int xbe, .int xbx])), (aba, .inl (kba, 4, .inl xba)), (aP, .inr (2, [.ref apr, .ref apw, .ref apt, .int xpc, .int xrn, .int xca, .int xst, .int xps])), (apr, .inl (kpr, 8, .inl xpr)), (apw, .inl (kpw, 64, .inl xpw)), (apt, .inl (kpt, 2, .inl xpt))] sz) := by
  refine Met.ofW (cc := cX0_updateData) (maxL := 2) (ret := none) (by decide) rfl ?_
  intro p e s m args below meth c s₁ B hml hv
  obtain ⟨rfl, hsz, hP, hK, hD0⟩ := hv
  have hx := B.exec
  have hb := B.bytes
  have hr := B.returns
  have hts := atoms_spec (ws := wsX0_updateData) B.pre
  have hown : s.vm.findClass RX0 = some m.cls := findClass_of_methodNamed B.named
  have hlocks := B.notSynchronized
  subst hsz
  have hD := hD0.self (sz := s.heap.size)
  generalize hAe : va_A [(aN, .inr (0, [.ref aB, .int xnc, .int xns, .int xnr, .int xnl, .int xnb, .int xnv, .int xnn, .int xnh, .int xnt, .int xng])), (aB, .inr (1, [.ref aP, .ref aba, .int xbs, .int xbd, .int xbe, .int xbx])), (aba, .inl (kba, 4, .inl xba)), (aP, .inr (2, [.ref apr, .ref apw, .ref apt, .int xpc, .int xrn, .int xca, .int xst, .int xps])), (apr, .inl (kpr, 8, .inl xpr)), (apw, .inl (kpw, 64, .inl xpw)), (apt, .inl (kpt, 2, .inl xpt))] s.heap.size = A at hD ⊢
  have hA : ∀ q : Nat, s.heap.size ≤ q → A q := fun q h => by rw [← hAe]; exact Or.inr h
  have hS : va_S A s.heap s.heap [] := va_S.rf
  have hP : va_P (dC, dI) vwCl [(aN, .inr (0, [.ref aB, .int xnc, .int xns, .int xnr, .int xnl, .int xnb, .int xnv, .int xnn, .int xnh, .int xnt, .int xng])), (aB, .inr (1, [.ref aP, .ref aba, .int xbs, .int xbd, .int xbe, .int xbx])), (aba, .inl (kba, 4, .inl xba)), (aP, .inr (2, [.ref apr, .ref apw, .ref apt, .int xpc, .int xrn, .int xca, .int xst, .int xps])), (apr, .inl (kpr, 8, .inl xpr)), (apw, .inl (kpw, 64, .inl xpw)), (apt, .inl (kpt, 2, .inl xpt))] s.heap := hP
  have hc77 := hts (.constant RX0 77 (65535 : Int32)) (by decide +kernel)
  have hf15 := hts (.fieldLink RX0 15 "ProbeBench$Pins" "selected" "I") (by decide +kernel)
  have hf18 := hts (.fieldLink RX0 18 "ProbeBench$Pins" "row" "I") (by decide +kernel)
  have hf24 := hts (.fieldLink RX0 24 "ProbeBench$Pins" "busy" "Z") (by decide +kernel)
  have hf28 := hts (.fieldLink RX0 28 "ProbeBench$Pins" "valueRead" "I") (by decide +kernel)
  have hf31 := hts (.fieldLink RX0 31 "ProbeBench$Pins" "numberBegun" "I") (by decide +kernel)
  have hf43 := hts (.fieldLink RX0 43 "ProbeBench$Pins" "probe" "LProbeBench$Probe;") (by decide +kernel)
  have hinX0 : ∀ w ∈ u_ws RX0 TX0 11, w ∈ wsX0_updateData := by decide +kernel
  have k_23 : ∀ (H : Heap) (locs : List Loc) (ls : Array Slot) (xnb : Int32) (xnv : Int32) (xnn : Int32) (xnh : Int32) (xng : Int32) (xba : (Nat → Int32)) (xbs : Int32) (xbd : Int32) (xbe : Int32) (xbx : Int32) (xpr : (Nat → Int32)) (xpw : (Nat → Int32)) (xpt : (Nat → Int32)) (xpc : Int32) (xrn : Int32) (xca : Int32) (xst : Int32) (xps : Int32), va_P (dC, dI) vwCl [(aN, .inr (0, [.ref aB, .int xnc, .int xns, .int xnr, .int xnl, .int xnb, .int xnv, .int xnn, .int xnh, .int xnt, .int xng])), (aB, .inr (1, [.ref aP, .ref aba, .int xbs, .int xbd, .int xbe, .int xbx])), (aba, .inl (kba, 4, .inl xba)), (aP, .inr (2, [.ref apr, .ref apw, .ref apt, .int xpc, .int xrn, .int xca, .int xst, .int xps])), (apr, .inl (kpr, 8, .inl xpr)), (apw, .inl (kpw, 64, .inl xpw)), (apt, .inl (kpt, 2, .inl xpt))] H → va_D A [(aN, .inr (0, [.ref aB, .int xnc, .int xns, .int xnr, .int xnl, .int xnb, .int xnv, .int xnn, .int xnh, .int xnt, .int xng])), (aB, .inr (1, [.ref aP, .ref aba, .int xbs, .int xbd, .int xbe, .int xbx])), (aba, .inl (kba, 4, .inl xba)), (aP, .inr (2, [.ref apr, .ref apw, .ref apt, .int xpc, .int xrn, .int xca, .int xst, .int xps])), (apr, .inl (kpr, 8, .inl xpr)), (apw, .inl (kpw, 64, .inl xpw)), (apt, .inl (kpt, 2, .inl xpt))] → va_S A s.heap H locs → lv_has ls 2 [(0, .ref aN)] → fn_N_updateData_J23 xns xnr xnb xnv xnn xnh xnt xng xba xbs xbd xbe xbx xpr xpw xpt xpc xrn xca xst xps = some o → W p l e (headSpec wsX0_updateData ({ frames := 4, cells := 0, slots := 0, locals := 90 })).room s m ([.ref aN] : List Value).toArray below meth c H locs 0 0 (MQ below (va_Qv (fun (u : Int32 × Int32 × Int32 × Int32 × Int32 × (Nat → Int32) × Int32 × Int32 × Int32 × Int32 × (Nat → Int32) × (Nat → Int32) × (Nat → Int32) × Int32 × Int32 × Int32 × Int32 × Int32) => some u = some o) (fun (u : Int32 × Int32 × Int32 × Int32 × Int32 × (Nat → Int32) × Int32 × Int32 × Int32 × Int32 × (Nat → Int32) × (Nat → Int32) × (Nat → Int32) × Int32 × Int32 × Int32 × Int32 × Int32) (t : State) => va_P (dC, dI) vwCl [(aN, .inr (0, [.ref aB, .int xnc, .int xns, .int xnr, .int xnl, .int u.1, .int u.2.1, .int u.2.2.1, .int u.2.2.2.1, .int xnt, .int u.2.2.2.2.1])), (aB, .inr (1, [.ref aP, .ref aba, .int u.2.2.2.2.2.2.1, .int u.2.2.2.2.2.2.2.1, .int u.2.2.2.2.2.2.2.2.1, .int u.2.2.2.2.2.2.2.2.2.1])), (aba, .inl (kba, 4, .inl u.2.2.2.2.2.1)), (aP, .inr (2, [.ref apr, .ref apw, .ref apt, .int u.2.2.2.2.2.2.2.2.2.2.2.2.2.1, .int u.2.2.2.2.2.2.2.2.2.2.2.2.2.2.1, .int u.2.2.2.2.2.2.2.2.2.2.2.2.2.2.2.1, .int u.2.2.2.2.2.2.2.2.2.2.2.2.2.2.2.2.1, .int u.2.2.2.2.2.2.2.2.2.2.2.2.2.2.2.2.2])), (apr, .inl (kpr, 8, .inl u.2.2.2.2.2.2.2.2.2.2.1)), (apw, .inl (kpw, 64, .inl u.2.2.2.2.2.2.2.2.2.2.2.1)), (apt, .inl (kpt, 2, .inl u.2.2.2.2.2.2.2.2.2.2.2.2.1))] t.heap ∧ va_D A [(aN, .inr (0, [.ref aB, .int xnc, .int xns, .int xnr, .int xnl, .int u.1, .int u.2.1, .int u.2.2.1, .int u.2.2.2.1, .int xnt, .int u.2.2.2.2.1])), (aB, .inr (1, [.ref aP, .ref aba, .int u.2.2.2.2.2.2.1, .int u.2.2.2.2.2.2.2.1, .int u.2.2.2.2.2.2.2.2.1, .int u.2.2.2.2.2.2.2.2.2.1])), (aba, .inl (kba, 4, .inl u.2.2.2.2.2.1)), (aP, .inr (2, [.ref apr, .ref apw, .ref apt, .int u.2.2.2.2.2.2.2.2.2.2.2.2.2.1, .int u.2.2.2.2.2.2.2.2.2.2.2.2.2.2.1, .int u.2.2.2.2.2.2.2.2.2.2.2.2.2.2.2.1, .int u.2.2.2.2.2.2.2.2.2.2.2.2.2.2.2.2.1, .int u.2.2.2.2.2.2.2.2.2.2.2.2.2.2.2.2.2])), (apr, .inl (kpr, 8, .inl u.2.2.2.2.2.2.2.2.2.2.1)), (apw, .inl (kpw, 64, .inl u.2.2.2.2.2.2.2.2.2.2.2.1)), (apt, .inl (kpt, 2, .inl u.2.2.2.2.2.2.2.2.2.2.2.2.1))]) A) ([.ref aN] : List Value).toArray s 0 0 A) (F0 m 23 ls []) := by
    intro H locs ls xnb xnv xnn xnh xng xba xbs xbd xbe xbx xpr xpw xpt xpc xrn xca xst xps hP hD hS hl h
    unfold fn_N_updateData_J23 at h
    refine lv_aload_n hx hb dX0_updateData_23 rfl (lv_at hl 0 rfl) ?_
    refine va_get (D := (dC, dI)) (ci := 0) (v := .int xns) (C := RX0) (T := TX0) (N := 11) hx hb hts hinX0 hown hK hP 0 rfl rfl 2 (by decide) hf15 (fun _ h9 => h9) rfl dX0_updateData_24 ?_
    refine lv_iconst (v := (3 : Int32)) hx hb dX0_updateData_27 (by decide) ?_
    refine lv_icmp_ne (tgt := 38) hx hb dX0_updateData_28 (by decide) (fun hc => ?_) (fun hc => ?_)
    · have h := if_n h hc
      exact W.vret hx hb hr (fun t ht hW => ⟨⟨(xnb, xnv, xnn, xnh, xng, xba, xbs, xbd, xbe, xbx, xpr, xpw, xpt, xpc, xrn, xca, xst, xps), rfl, h, by rw [ht]; exact hP, hD⟩, hS.F ht⟩) hS.2.2 dX0_updateData_38
    · have h := if_y h hc
      refine lv_aload_n hx hb dX0_updateData_31 rfl (lv_at hl 0 rfl) ?_
      refine va_get (D := (dC, dI)) (ci := 0) (v := .int xnb) (C := RX0) (T := TX0) (N := 11) hx hb hts hinX0 hown hK hP 0 rfl rfl 5 (by decide) hf24 (fun _ h9 => h9) rfl dX0_updateData_32 ?_
      refine lv_if_eq (tgt := 39) hx hb dX0_updateData_35 (by decide) (fun hc => ?_) (fun hc => ?_)
      · have h := if_y h hc
        refine lv_aload_n hx hb dX0_updateData_39 rfl (lv_at hl 0 rfl) ?_
        obtain ⟨v40, hv, h⟩ := bn_ex h
        have hPc := hP.sub (ws' := [(aN, .inr (0, [.ref aB, .int xnc, .int xns, .int xnr, .int xnl, .int xnb, .int xnv, .int xnn, .int xnh, .int xnt, .int xng]))]) [0] rfl
        have hDc := hD.sub (ws' := [(aN, .inr (0, [.ref aB, .int xnc, .int xns, .int xnr, .int xnl, .int xnb, .int xnv, .int xnn, .int xnh, .int xnt, .int xng]))]) [0] (by decide) rfl
        have hKc := hK.sub (tys' := []) [] rfl
        have hFc := va_free (wc := [(aN, .inr (0, [.ref aB, .int xnc, .int xns, .int xnr, .int xnl, .int xnb, .int xnv, .int xnn, .int xnh, .int xnt, .int xng]))]) hD hS hA [0] rfl
        refine va_calli (va_runV (As := []) (rest := []) ⟨hx, hb, hml, hown, hts⟩ (ct_N_comesTooSoon l dC dI aN aB H.size xnc xns xnr xnl xnb xnv xnn xnh xnt xng v40 hv) (cwV 0 hts gX0_updateData_X0_comesTooSoon rfl rfl rfl (by decide +kernel) ⟨Nat.le_of_ble_eq_true rfl, Nat.le_of_ble_eq_true rfl⟩) ⟨fun a U g mk q => by obtain ⟨q0, q1, qP, qK, qD⟩ := q; exact ⟨q0, q1, qP, va_K.moved (u := U) (U := U.calling g mk a) (Vm.Alike.refl U.vm) qK, qD⟩, va_recv (ci := 0) (q0 := 0) hK hP rfl rfl, fun U hU hW => ⟨rfl, by rw [hU], by rw [hU]; exact hPc, va_K.moved hW.alike hKc, hDc.weaken (fun _ _ _ _ => trivial)⟩⟩ rfl rfl hl.1 rfl (lv_room (Nat.le_of_ble_eq_true rfl)) dX0_updateData_40 ⟨Nat.zero_le _, Nat.zero_le _⟩) hS (fun q _ h => hFc q h) hFc (fun r u t H locs ht hvm hw hB hz1 hk1 hS => ?_)
        obtain rfl := pr_0 hw
        obtain ⟨hP1, hD1⟩ := hB
        rw [ht] at hP1
        obtain ⟨hP, hD⟩ := va_join (wr := [(aB, .inr (1, [.ref aP, .ref aba, .int xbs, .int xbd, .int xbe, .int xbx])), (aba, .inl (kba, 4, .inl xba)), (aP, .inr (2, [.ref apr, .ref apw, .ref apt, .int xpc, .int xrn, .int xca, .int xst, .int xps])), (apr, .inl (kpr, 8, .inl xpr)), (apw, .inl (kpw, 64, .inl xpw)), (apt, .inl (kpt, 2, .inl xpt))]) (w1 := [(aN, .inr (0, [.ref aB, .int xnc, .int xns, .int xnr, .int xnl, .int xnb, .int xnv, .int xnn, .int xnh, .int xnt, .int xng]))]) hP hD [0] [1, 2, 3, 4, 5, 6] rfl rfl (by decide) (by decide) hk1 hFc hP1 hD1
        have hP : va_P (dC, dI) vwCl [(aB, .inr (1, [.ref aP, .ref aba, .int xbs, .int xbd, .int xbe, .int xbx])), (aba, .inl (kba, 4, .inl xba)), (aP, .inr (2, [.ref apr, .ref apw, .ref apt, .int xpc, .int xrn, .int xca, .int xst, .int xps])), (apr, .inl (kpr, 8, .inl xpr)), (apw, .inl (kpw, 64, .inl xpw)), (apt, .inl (kpt, 2, .inl xpt)), (aN, .inr (0, [.ref aB, .int xnc, .int xns, .int xnr, .int xnl, .int xnb, .int xnv, .int xnn, .int xnh, .int xnt, .int xng]))] H := hP
        have hD : va_D A [(aB, .inr (1, [.ref aP, .ref aba, .int xbs, .int xbd, .int xbe, .int xbx])), (aba, .inl (kba, 4, .inl xba)), (aP, .inr (2, [.ref apr, .ref apw, .ref apt, .int xpc, .int xrn, .int xca, .int xst, .int xps])), (apr, .inl (kpr, 8, .inl xpr)), (apw, .inl (kpw, 64, .inl xpw)), (apt, .inl (kpt, 2, .inl xpt)), (aN, .inr (0, [.ref aB, .int xnc, .int xns, .int xnr, .int xnl, .int xnb, .int xnv, .int xnn, .int xnh, .int xnt, .int xng]))] := hD
        refine lv_if_eq (tgt := 52) hx hb dX0_updateData_43 (by decide) (fun hc => ?_) (fun hc => ?_)
        · have h := if_y h hc
          refine lv_aload_n hx hb dX0_updateData_52 rfl (lv_at hl 0 rfl) ?_
          refine va_get (D := (dC, dI)) (ci := 0) (v := .int xnr) (C := RX0) (T := TX0) (N := 11) hx hb hts hinX0 hown hK hP 6 rfl rfl 3 (by decide) hf18 (fun _ h9 => h9) rfl dX0_updateData_53 ?_
          refine lv_iconst (v := (3 : Int32)) hx hb dX0_updateData_56 (by decide) ?_
          refine lv_iand hx hb dX0_updateData_57 ?_
          refine lv_istore_n hx hb dX0_updateData_58 rfl hl (by decide) rfl (fun ls hl => ?_)
          have hl : lv_has ls 2 [(1, .int (xnr &&& (3 : Int32))), (0, .ref aN)] := hl
          refine lv_iload_n hx hb dX0_updateData_59 rfl (lv_at hl 0 rfl) ?_
          refine lv_iconst (v := (1 : Int32)) hx hb dX0_updateData_60 (by decide) ?_
          refine lv_icmp_ne (tgt := 86) hx hb dX0_updateData_61 (by decide) (fun hc => ?_) (fun hc => ?_)
          · have h := if_n h hc
            refine lv_iload_n hx hb dX0_updateData_86 rfl (lv_at hl 0 rfl) ?_
            refine lv_iconst (v := (2 : Int32)) hx hb dX0_updateData_87 (by decide) ?_
            refine lv_icmp_ne (tgt := 115) hx hb dX0_updateData_88 (by decide) (fun hc => ?_) (fun hc => ?_)
            · have h := if_n h hc
              have hP9 := hP.sub (ws' := [(aN, .inr (0, [.ref aB, .int xnc, .int xns, .int xnr, .int xnl, .int xnb, .int xnv, .int xnn, .int xnh, .int xnt, .int xng])), (aB, .inr (1, [.ref aP, .ref aba, .int xbs, .int xbd, .int xbe, .int xbx])), (aba, .inl (kba, 4, .inl xba)), (aP, .inr (2, [.ref apr, .ref apw, .ref apt, .int xpc, .int xrn, .int xca, .int xst, .int xps])), (apr, .inl (kpr, 8, .inl xpr)), (apw, .inl (kpw, 64, .inl xpw)), (apt, .inl (kpt, 2, .inl xpt))]) [6, 0, 1, 2, 3, 4, 5] rfl
              have hD9 := hD.sub (ws' := [(aN, .inr (0, [.ref aB, .int xnc, .int xns, .int xnr, .int xnl, .int xnb, .int xnv, .int xnn, .int xnh, .int xnt, .int xng])), (aB, .inr (1, [.ref aP, .ref aba, .int xbs, .int xbd, .int xbe, .int xbx])), (aba, .inl (kba, 4, .inl xba)), (aP, .inr (2, [.ref apr, .ref apw, .ref apt, .int xpc, .int xrn, .int xca, .int xst, .int xps])), (apr, .inl (kpr, 8, .inl xpr)), (apw, .inl (kpw, 64, .inl xpw)), (apt, .inl (kpt, 2, .inl xpt))]) [6, 0, 1, 2, 3, 4, 5] (by decide) rfl
              exact W.vret hx hb hr (fun t ht hW => ⟨⟨(xnb, xnv, xnn, xnh, xng, xba, xbs, xbd, xbe, xbx, xpr, xpw, xpt, xpc, xrn, xca, xst, xps), rfl, h, by rw [ht]; exact hP9, hD9⟩, hS.F ht⟩) hS.2.2 dX0_updateData_115
            · have h := if_y h hc
              refine lv_aload_n hx hb dX0_updateData_91 rfl (lv_at hl 1 rfl) ?_
              obtain ⟨v92, hv, h⟩ := bn_ex h
              have hPc := hP.sub (ws' := [(aN, .inr (0, [.ref aB, .int xnc, .int xns, .int xnr, .int xnl, .int xnb, .int xnv, .int xnn, .int xnh, .int xnt, .int xng]))]) [6] rfl
              have hDc := hD.sub (ws' := [(aN, .inr (0, [.ref aB, .int xnc, .int xns, .int xnr, .int xnl, .int xnb, .int xnv, .int xnn, .int xnh, .int xnt, .int xng]))]) [6] (by decide) rfl
              have hKc := hK.sub (tys' := []) [] rfl
              have hFc := va_free (wc := [(aN, .inr (0, [.ref aB, .int xnc, .int xns, .int xnr, .int xnl, .int xnb, .int xnv, .int xnn, .int xnh, .int xnt, .int xng]))]) hD hS hA [6] rfl
              refine va_callv (va_runV (As := []) (rest := []) ⟨hx, hb, hml, hown, hts⟩ (ct_N_noteBegin l dC dI aN aB H.size xnc xns xnr xnl xnb xnv xnn xnh xnt xng v92 hv) (cwV 0 hts gX0_updateData_X0_noteBegin rfl rfl rfl (by decide +kernel) ⟨Nat.le_of_ble_eq_true rfl, Nat.le_of_ble_eq_true rfl⟩) ⟨fun a U g mk q => by obtain ⟨q0, q1, qP, qK, qD⟩ := q; exact ⟨q0, q1, qP, va_K.moved (u := U) (U := U.calling g mk a) (Vm.Alike.refl U.vm) qK, qD⟩, va_recv (ci := 0) (q0 := 6) hK hP rfl rfl, fun U hU hW => ⟨rfl, by rw [hU], by rw [hU]; exact hPc, va_K.moved hW.alike hKc, hDc.weaken (fun _ _ _ _ => trivial)⟩⟩ rfl rfl hl.1 rfl (lv_room (Nat.le_of_ble_eq_true rfl)) dX0_updateData_92 ⟨Nat.zero_le _, Nat.zero_le _⟩) hS (fun q _ h => hFc q h) hFc (fun u t H locs ht hvm hw hB hz1 hk1 hS => ?_)
              obtain rfl := pr_0 hw
              obtain ⟨hP1, hD1⟩ := hB
              rw [ht] at hP1
              obtain ⟨hP, hD⟩ := va_join (wr := [(aB, .inr (1, [.ref aP, .ref aba, .int xbs, .int xbd, .int xbe, .int xbx])), (aba, .inl (kba, 4, .inl xba)), (aP, .inr (2, [.ref apr, .ref apw, .ref apt, .int xpc, .int xrn, .int xca, .int xst, .int xps])), (apr, .inl (kpr, 8, .inl xpr)), (apw, .inl (kpw, 64, .inl xpw)), (apt, .inl (kpt, 2, .inl xpt))]) (w1 := [(aN, .inr (0, [.ref aB, .int xnc, .int xns, .int xnr, .int xnl, .int xnb, .int xnv, .int v92.1, .int v92.2.1, .int xnt, .int v92.2.2]))]) hP hD [6] [0, 1, 2, 3, 4, 5] rfl rfl (by decide) (by decide) hk1 hFc hP1 hD1
              have hP : va_P (dC, dI) vwCl [(aB, .inr (1, [.ref aP, .ref aba, .int xbs, .int xbd, .int xbe, .int xbx])), (aba, .inl (kba, 4, .inl xba)), (aP, .inr (2, [.ref apr, .ref apw, .ref apt, .int xpc, .int xrn, .int xca, .int xst, .int xps])), (apr, .inl (kpr, 8, .inl xpr)), (apw, .inl (kpw, 64, .inl xpw)), (apt, .inl (kpt, 2, .inl xpt)), (aN, .inr (0, [.ref aB, .int xnc, .int xns, .int xnr, .int xnl, .int xnb, .int xnv, .int v92.1, .int v92.2.1, .int xnt, .int v92.2.2]))] H := hP
              have hD : va_D A [(aB, .inr (1, [.ref aP, .ref aba, .int xbs, .int xbd, .int xbe, .int xbx])), (aba, .inl (kba, 4, .inl xba)), (aP, .inr (2, [.ref apr, .ref apw, .ref apt, .int xpc, .int xrn, .int xca, .int xst, .int xps])), (apr, .inl (kpr, 8, .inl xpr)), (apw, .inl (kpw, 64, .inl xpw)), (apt, .inl (kpt, 2, .inl xpt)), (aN, .inr (0, [.ref aB, .int xnc, .int xns, .int xnr, .int xnl, .int xnb, .int xnv, .int v92.1, .int v92.2.1, .int xnt, .int v92.2.2]))] := hD
              refine lv_aload_n hx hb dX0_updateData_95 rfl (lv_at hl 1 rfl) ?_
              refine va_get (D := (dC, dI)) (ci := 0) (v := .ref aB) (C := RX0) (T := TX0) (N := 11) hx hb hts hinX0 hown hK hP 6 rfl rfl 0 (by decide) hf43 (fun _ h9 => h9) rfl dX0_updateData_96 ?_
              refine lv_aload_n hx hb dX0_updateData_99 rfl (lv_at hl 1 rfl) ?_
              refine va_get (D := (dC, dI)) (ci := 0) (v := .int v92.1) (C := RX0) (T := TX0) (N := 11) hx hb hts hinX0 hown hK hP 6 rfl rfl 7 (by decide) hf31 (fun _ h9 => h9) rfl dX0_updateData_100 ?_
              refine lv_aload_n hx hb dX0_updateData_103 rfl (lv_at hl 1 rfl) ?_
              refine va_get (D := (dC, dI)) (ci := 0) (v := .int xnr) (C := RX0) (T := TX0) (N := 11) hx hb hts hinX0 hown hK hP 6 rfl rfl 3 (by decide) hf18 (fun _ h9 => h9) rfl dX0_updateData_104 ?_
              refine lv_iconst (v := (2 : Int32)) hx hb dX0_updateData_107 (by decide) ?_
              refine lv_ishr hx hb dX0_updateData_108 ?_
              refine lv_ldc hx hb hown hc77 dX0_updateData_109 ?_
              refine lv_iand hx hb dX0_updateData_111 ?_
              obtain ⟨v112, hv, h⟩ := bn_ex h
              have hPc := hP.sub (ws' := [(aB, .inr (1, [.ref aP, .ref aba, .int xbs, .int xbd, .int xbe, .int xbx])), (aba, .inl (kba, 4, .inl xba)), (aP, .inr (2, [.ref apr, .ref apw, .ref apt, .int xpc, .int xrn, .int xca, .int xst, .int xps])), (apr, .inl (kpr, 8, .inl xpr)), (apw, .inl (kpw, 64, .inl xpw)), (apt, .inl (kpt, 2, .inl xpt))]) [0, 1, 2, 3, 4, 5] rfl
              have hDc := hD.sub (ws' := [(aB, .inr (1, [.ref aP, .ref aba, .int xbs, .int xbd, .int xbe, .int xbx])), (aba, .inl (kba, 4, .inl xba)), (aP, .inr (2, [.ref apr, .ref apw, .ref apt, .int xpc, .int xrn, .int xca, .int xst, .int xps])), (apr, .inl (kpr, 8, .inl xpr)), (apw, .inl (kpw, 64, .inl xpw)), (apt, .inl (kpt, 2, .inl xpt))]) [0, 1, 2, 3, 4, 5] (by decide) rfl
              have hKc := hK.sub (tys' := [(kba, .int), (kpr, .int), (kpw, .int), (kpt, .int)]) [0, 1, 2, 3] rfl
              have hFc := va_free (wc := [(aB, .inr (1, [.ref aP, .ref aba, .int xbs, .int xbd, .int xbe, .int xbx])), (aba, .inl (kba, 4, .inl xba)), (aP, .inr (2, [.ref apr, .ref apw, .ref apt, .int xpc, .int xrn, .int xca, .int xst, .int xps])), (apr, .inl (kpr, 8, .inl xpr)), (apw, .inl (kpw, 64, .inl xpw)), (apt, .inl (kpt, 2, .inl xpt))]) hD hS hA [0, 1, 2, 3, 4, 5] rfl
              refine va_callv (va_runV (As := [.int v92.1, .int ((xnr >>> ((2 : Int32) &&& (31 : Int32))) &&& (65535 : Int32))]) (rest := []) ⟨hx, hb, hml, hown, hts⟩ (ct_B_put l dC dI aB aba aP apr apw apt kba kpr kpw kpt H.size xba xbs xbd xbe xbx xpr xpw xpt xpc xrn xca xst xps v92.1 ((xnr >>> ((2 : Int32) &&& (31 : Int32))) &&& (65535 : Int32)) v112 hv) (cwV 2 hts gX0_updateData_X1_put rfl rfl rfl (by decide +kernel) ⟨Nat.le_of_ble_eq_true rfl, Nat.le_of_ble_eq_true rfl⟩) ⟨fun a U g mk q => by obtain ⟨q0, q1, qP, qK, qD⟩ := q; exact ⟨q0, q1, qP, va_K.moved (u := U) (U := U.calling g mk a) (Vm.Alike.refl U.vm) qK, qD⟩, va_recv (ci := 1) (q0 := 0) hK hP rfl rfl, fun U hU hW => ⟨rfl, by rw [hU], by rw [hU]; exact hPc, va_K.moved hW.alike hKc, hDc.weaken (fun _ _ _ _ => trivial)⟩⟩ rfl rfl hl.1 rfl (lv_room (Nat.le_of_ble_eq_true rfl)) dX0_updateData_112 ⟨Nat.zero_le _, Nat.zero_le _⟩) hS (fun q _ h => hFc q h) hFc (fun u t H locs ht hvm hw hB hz1 hk1 hS => ?_)
              obtain rfl := pr_0 hw
              obtain ⟨hP1, hD1⟩ := hB
              rw [ht] at hP1
              obtain ⟨hP, hD⟩ := va_join (wr := [(aN, .inr (0, [.ref aB, .int xnc, .int xns, .int xnr, .int xnl, .int xnb, .int xnv, .int v92.1, .int v92.2.1, .int xnt, .int v92.2.2]))]) (w1 := [(aB, .inr (1, [.ref aP, .ref aba, .int v112.2.1, .int v112.2.2.1, .int v112.2.2.2.1, .int v112.2.2.2.2.1])), (aba, .inl (kba, 4, .inl v112.1)), (aP, .inr (2, [.ref apr, .ref apw, .ref apt, .int v112.2.2.2.2.2.2.2.2.1, .int v112.2.2.2.2.2.2.2.2.2.1, .int v112.2.2.2.2.2.2.2.2.2.2.1, .int v112.2.2.2.2.2.2.2.2.2.2.2.1, .int v112.2.2.2.2.2.2.2.2.2.2.2.2])), (apr, .inl (kpr, 8, .inl v112.2.2.2.2.2.1)), (apw, .inl (kpw, 64, .inl v112.2.2.2.2.2.2.1)), (apt, .inl (kpt, 2, .inl v112.2.2.2.2.2.2.2.1))]) hP hD [0, 1, 2, 3, 4, 5] [6] rfl rfl (by decide) (by decide) hk1 hFc hP1 hD1
              have hP : va_P (dC, dI) vwCl [(aN, .inr (0, [.ref aB, .int xnc, .int xns, .int xnr, .int xnl, .int xnb, .int xnv, .int v92.1, .int v92.2.1, .int xnt, .int v92.2.2])), (aB, .inr (1, [.ref aP, .ref aba, .int v112.2.1, .int v112.2.2.1, .int v112.2.2.2.1, .int v112.2.2.2.2.1])), (aba, .inl (kba, 4, .inl v112.1)), (aP, .inr (2, [.ref apr, .ref apw, .ref apt, .int v112.2.2.2.2.2.2.2.2.1, .int v112.2.2.2.2.2.2.2.2.2.1, .int v112.2.2.2.2.2.2.2.2.2.2.1, .int v112.2.2.2.2.2.2.2.2.2.2.2.1, .int v112.2.2.2.2.2.2.2.2.2.2.2.2])), (apr, .inl (kpr, 8, .inl v112.2.2.2.2.2.1)), (apw, .inl (kpw, 64, .inl v112.2.2.2.2.2.2.1)), (apt, .inl (kpt, 2, .inl v112.2.2.2.2.2.2.2.1))] H := hP
              have hD : va_D A [(aN, .inr (0, [.ref aB, .int xnc, .int xns, .int xnr, .int xnl, .int xnb, .int xnv, .int v92.1, .int v92.2.1, .int xnt, .int v92.2.2])), (aB, .inr (1, [.ref aP, .ref aba, .int v112.2.1, .int v112.2.2.1, .int v112.2.2.2.1, .int v112.2.2.2.2.1])), (aba, .inl (kba, 4, .inl v112.1)), (aP, .inr (2, [.ref apr, .ref apw, .ref apt, .int v112.2.2.2.2.2.2.2.2.1, .int v112.2.2.2.2.2.2.2.2.2.1, .int v112.2.2.2.2.2.2.2.2.2.2.1, .int v112.2.2.2.2.2.2.2.2.2.2.2.1, .int v112.2.2.2.2.2.2.2.2.2.2.2.2])), (apr, .inl (kpr, 8, .inl v112.2.2.2.2.2.1)), (apw, .inl (kpw, 64, .inl v112.2.2.2.2.2.2.1)), (apt, .inl (kpt, 2, .inl v112.2.2.2.2.2.2.2.1))] := hD
              exact W.vret hx hb hr (fun t ht hW => ⟨⟨(xnb, xnv, v92.1, v92.2.1, v92.2.2, v112.1, v112.2.1, v112.2.2.1, v112.2.2.2.1, v112.2.2.2.2.1, v112.2.2.2.2.2.1, v112.2.2.2.2.2.2.1, v112.2.2.2.2.2.2.2.1, v112.2.2.2.2.2.2.2.2.1, v112.2.2.2.2.2.2.2.2.2.1, v112.2.2.2.2.2.2.2.2.2.2.1, v112.2.2.2.2.2.2.2.2.2.2.2.1, v112.2.2.2.2.2.2.2.2.2.2.2.2), rfl, h, by rw [ht]; exact hP, hD⟩, hS.F ht⟩) hS.2.2 dX0_updateData_115
          · have h := if_y h hc
            refine lv_aload_n hx hb dX0_updateData_64 rfl (lv_at hl 1 rfl) ?_
            obtain ⟨v65, hv, h⟩ := bn_ex h
            have hPc := hP.sub (ws' := [(aN, .inr (0, [.ref aB, .int xnc, .int xns, .int xnr, .int xnl, .int xnb, .int xnv, .int xnn, .int xnh, .int xnt, .int xng]))]) [6] rfl
            have hDc := hD.sub (ws' := [(aN, .inr (0, [.ref aB, .int xnc, .int xns, .int xnr, .int xnl, .int xnb, .int xnv, .int xnn, .int xnh, .int xnt, .int xng]))]) [6] (by decide) rfl
            have hKc := hK.sub (tys' := []) [] rfl
            have hFc := va_free (wc := [(aN, .inr (0, [.ref aB, .int xnc, .int xns, .int xnr, .int xnl, .int xnb, .int xnv, .int xnn, .int xnh, .int xnt, .int xng]))]) hD hS hA [6] rfl
            refine va_callv (va_runV (As := []) (rest := []) ⟨hx, hb, hml, hown, hts⟩ (ct_N_noteBegin l dC dI aN aB H.size xnc xns xnr xnl xnb xnv xnn xnh xnt xng v65 hv) (cwV 0 hts gX0_updateData_X0_noteBegin rfl rfl rfl (by decide +kernel) ⟨Nat.le_of_ble_eq_true rfl, Nat.le_of_ble_eq_true rfl⟩) ⟨fun a U g mk q => by obtain ⟨q0, q1, qP, qK, qD⟩ := q; exact ⟨q0, q1, qP, va_K.moved (u := U) (U := U.calling g mk a) (Vm.Alike.refl U.vm) qK, qD⟩, va_recv (ci := 0) (q0 := 6) hK hP rfl rfl, fun U hU hW => ⟨rfl, by rw [hU], by rw [hU]; exact hPc, va_K.moved hW.alike hKc, hDc.weaken (fun _ _ _ _ => trivial)⟩⟩ rfl rfl hl.1 rfl (lv_room (Nat.le_of_ble_eq_true rfl)) dX0_updateData_65 ⟨Nat.zero_le _, Nat.zero_le _⟩) hS (fun q _ h => hFc q h) hFc (fun u t H locs ht hvm hw hB hz1 hk1 hS => ?_)
            obtain rfl := pr_0 hw
            obtain ⟨hP1, hD1⟩ := hB
            rw [ht] at hP1
            obtain ⟨hP, hD⟩ := va_join (wr := [(aB, .inr (1, [.ref aP, .ref aba, .int xbs, .int xbd, .int xbe, .int xbx])), (aba, .inl (kba, 4, .inl xba)), (aP, .inr (2, [.ref apr, .ref apw, .ref apt, .int xpc, .int xrn, .int xca, .int xst, .int xps])), (apr, .inl (kpr, 8, .inl xpr)), (apw, .inl (kpw, 64, .inl xpw)), (apt, .inl (kpt, 2, .inl xpt))]) (w1 := [(aN, .inr (0, [.ref aB, .int xnc, .int xns, .int xnr, .int xnl, .int xnb, .int xnv, .int v65.1, .int v65.2.1, .int xnt, .int v65.2.2]))]) hP hD [6] [0, 1, 2, 3, 4, 5] rfl rfl (by decide) (by decide) hk1 hFc hP1 hD1
            have hP : va_P (dC, dI) vwCl [(aB, .inr (1, [.ref aP, .ref aba, .int xbs, .int xbd, .int xbe, .int xbx])), (aba, .inl (kba, 4, .inl xba)), (aP, .inr (2, [.ref apr, .ref apw, .ref apt, .int xpc, .int xrn, .int xca, .int xst, .int xps])), (apr, .inl (kpr, 8, .inl xpr)), (apw, .inl (kpw, 64, .inl xpw)), (apt, .inl (kpt, 2, .inl xpt)), (aN, .inr (0, [.ref aB, .int xnc, .int xns, .int xnr, .int xnl, .int xnb, .int xnv, .int v65.1, .int v65.2.1, .int xnt, .int v65.2.2]))] H := hP
            have hD : va_D A [(aB, .inr (1, [.ref aP, .ref aba, .int xbs, .int xbd, .int xbe, .int xbx])), (aba, .inl (kba, 4, .inl xba)), (aP, .inr (2, [.ref apr, .ref apw, .ref apt, .int xpc, .int xrn, .int xca, .int xst, .int xps])), (apr, .inl (kpr, 8, .inl xpr)), (apw, .inl (kpw, 64, .inl xpw)), (apt, .inl (kpt, 2, .inl xpt)), (aN, .inr (0, [.ref aB, .int xnc, .int xns, .int xnr, .int xnl, .int xnb, .int xnv, .int v65.1, .int v65.2.1, .int xnt, .int v65.2.2]))] := hD
            refine lv_aload_n hx hb dX0_updateData_68 rfl (lv_at hl 1 rfl) ?_
            refine lv_aload_n hx hb dX0_updateData_69 rfl (lv_at hl 1 rfl) ?_
            refine va_get (D := (dC, dI)) (ci := 0) (v := .ref aB) (C := RX0) (T := TX0) (N := 11) hx hb hts hinX0 hown hK hP 6 rfl rfl 0 (by decide) hf43 (fun _ h9 => h9) rfl dX0_updateData_70 ?_
            refine lv_aload_n hx hb dX0_updateData_73 rfl (lv_at hl 1 rfl) ?_
            refine va_get (D := (dC, dI)) (ci := 0) (v := .int v65.1) (C := RX0) (T := TX0) (N := 11) hx hb hts hinX0 hown hK hP 6 rfl rfl 7 (by decide) hf31 (fun _ h9 => h9) rfl dX0_updateData_74 ?_
            obtain ⟨v77, hv, h⟩ := bn_ex h
            have hPc := hP.sub (ws' := [(aB, .inr (1, [.ref aP, .ref aba, .int xbs, .int xbd, .int xbe, .int xbx])), (aba, .inl (kba, 4, .inl xba)), (aP, .inr (2, [.ref apr, .ref apw, .ref apt, .int xpc, .int xrn, .int xca, .int xst, .int xps])), (apr, .inl (kpr, 8, .inl xpr)), (apw, .inl (kpw, 64, .inl xpw)), (apt, .inl (kpt, 2, .inl xpt))]) [0, 1, 2, 3, 4, 5] rfl
            have hDc := hD.sub (ws' := [(aB, .inr (1, [.ref aP, .ref aba, .int xbs, .int xbd, .int xbe, .int xbx])), (aba, .inl (kba, 4, .inl xba)), (aP, .inr (2, [.ref apr, .ref apw, .ref apt, .int xpc, .int xrn, .int xca, .int xst, .int xps])), (apr, .inl (kpr, 8, .inl xpr)), (apw, .inl (kpw, 64, .inl xpw)), (apt, .inl (kpt, 2, .inl xpt))]) [0, 1, 2, 3, 4, 5] (by decide) rfl
            have hKc := hK.sub (tys' := [(kba, .int), (kpr, .int), (kpw, .int), (kpt, .int)]) [0, 1, 2, 3] rfl
            have hFc := va_free (wc := [(aB, .inr (1, [.ref aP, .ref aba, .int xbs, .int xbd, .int xbe, .int xbx])), (aba, .inl (kba, 4, .inl xba)), (aP, .inr (2, [.ref apr, .ref apw, .ref apt, .int xpc, .int xrn, .int xca, .int xst, .int xps])), (apr, .inl (kpr, 8, .inl xpr)), (apw, .inl (kpw, 64, .inl xpw)), (apt, .inl (kpt, 2, .inl xpt))]) hD hS hA [0, 1, 2, 3, 4, 5] rfl
            refine va_calli (va_runV (As := [.int v65.1]) (rest := [.ref aN]) ⟨hx, hb, hml, hown, hts⟩ (ct_B_fetch l dC dI aB aba aP apr apw apt kba kpr kpw kpt H.size xba xbs xbd xbe xbx xpr xpw xpt xpc xrn xca xst xps v65.1 v77 hv) (cwV 1 hts gX0_updateData_X1_fetch rfl rfl rfl (by decide +kernel) ⟨Nat.le_of_ble_eq_true rfl, Nat.le_of_ble_eq_true rfl⟩) ⟨fun a U g mk q => by obtain ⟨q0, q1, qP, qK, qD⟩ := q; exact ⟨q0, q1, qP, va_K.moved (u := U) (U := U.calling g mk a) (Vm.Alike.refl U.vm) qK, qD⟩, va_recv (ci := 1) (q0 := 0) hK hP rfl rfl, fun U hU hW => ⟨rfl, by rw [hU], by rw [hU]; exact hPc, va_K.moved hW.alike hKc, hDc.weaken (fun _ _ _ _ => trivial)⟩⟩ rfl rfl hl.1 rfl (lv_room (Nat.le_of_ble_eq_true rfl)) dX0_updateData_77 ⟨Nat.zero_le _, Nat.zero_le _⟩) hS (fun q _ h => hFc q h) hFc (fun r u t H locs ht hvm hw hB hz1 hk1 hS => ?_)
            obtain ⟨rfl, rfl⟩ := pr_2 hw
            obtain ⟨hP1, hD1⟩ := hB
            rw [ht] at hP1
            obtain ⟨hP, hD⟩ := va_join (wr := [(aN, .inr (0, [.ref aB, .int xnc, .int xns, .int xnr, .int xnl, .int xnb, .int xnv, .int v65.1, .int v65.2.1, .int xnt, .int v65.2.2]))]) (w1 := [(aB, .inr (1, [.ref aP, .ref aba, .int xbs, .int xbd, .int xbe, .int v77.2])), (aba, .inl (kba, 4, .inl xba)), (aP, .inr (2, [.ref apr, .ref apw, .ref apt, .int xpc, .int xrn, .int xca, .int xst, .int xps])), (apr, .inl (kpr, 8, .inl xpr)), (apw, .inl (kpw, 64, .inl xpw)), (apt, .inl (kpt, 2, .inl xpt))]) hP hD [0, 1, 2, 3, 4, 5] [6] rfl rfl (by decide) (by decide) hk1 hFc hP1 hD1
            have hP : va_P (dC, dI) vwCl [(aN, .inr (0, [.ref aB, .int xnc, .int xns, .int xnr, .int xnl, .int xnb, .int xnv, .int v65.1, .int v65.2.1, .int xnt, .int v65.2.2])), (aB, .inr (1, [.ref aP, .ref aba, .int xbs, .int xbd, .int xbe, .int v77.2])), (aba, .inl (kba, 4, .inl xba)), (aP, .inr (2, [.ref apr, .ref apw, .ref apt, .int xpc, .int xrn, .int xca, .int xst, .int xps])), (apr, .inl (kpr, 8, .inl xpr)), (apw, .inl (kpw, 64, .inl xpw)), (apt, .inl (kpt, 2, .inl xpt))] H := hP
            have hD : va_D A [(aN, .inr (0, [.ref aB, .int xnc, .int xns, .int xnr, .int xnl, .int xnb, .int xnv, .int v65.1, .int v65.2.1, .int xnt, .int v65.2.2])), (aB, .inr (1, [.ref aP, .ref aba, .int xbs, .int xbd, .int xbe, .int v77.2])), (aba, .inl (kba, 4, .inl xba)), (aP, .inr (2, [.ref apr, .ref apw, .ref apt, .int xpc, .int xrn, .int xca, .int xst, .int xps])), (apr, .inl (kpr, 8, .inl xpr)), (apw, .inl (kpw, 64, .inl xpw)), (apt, .inl (kpt, 2, .inl xpt))] := hD
            refine va_put (D := (dC, dI)) (ci := 0) (v := .int v77.1) (ty := .int) (C := RX0) (T := TX0) (N := 11) hx hb hts hinX0 tyX0 tyX0_ok nmX0 hown hK hP hD hS 0 rfl rfl 6 (by decide) hf28 (fun _ h9 => h9) rfl (by decide +kernel) rfl rfl (Nat.le_of_ble_eq_true rfl) dX0_updateData_80 (fun H locs hP hD hS => ?_)
            have hP : va_P (dC, dI) vwCl [(aN, .inr (0, [.ref aB, .int xnc, .int xns, .int xnr, .int xnl, .int xnb, .int v77.1, .int v65.1, .int v65.2.1, .int xnt, .int v65.2.2])), (aB, .inr (1, [.ref aP, .ref aba, .int xbs, .int xbd, .int xbe, .int v77.2])), (aba, .inl (kba, 4, .inl xba)), (aP, .inr (2, [.ref apr, .ref apw, .ref apt, .int xpc, .int xrn, .int xca, .int xst, .int xps])), (apr, .inl (kpr, 8, .inl xpr)), (apw, .inl (kpw, 64, .inl xpw)), (apt, .inl (kpt, 2, .inl xpt))] H := hP
            have hD : va_D A [(aN, .inr (0, [.ref aB, .int xnc, .int xns, .int xnr, .int xnl, .int xnb, .int v77.1, .int v65.1, .int v65.2.1, .int xnt, .int v65.2.2])), (aB, .inr (1, [.ref aP, .ref aba, .int xbs, .int xbd, .int xbe, .int v77.2])), (aba, .inl (kba, 4, .inl xba)), (aP, .inr (2, [.ref apr, .ref apw, .ref apt, .int xpc, .int xrn, .int xca, .int xst, .int xps])), (apr, .inl (kpr, 8, .inl xpr)), (apw, .inl (kpw, 64, .inl xpw)), (apt, .inl (kpt, 2, .inl xpt))] := hD
            refine lv_goto (tgt := 115) hx hb dX0_updateData_83 (by decide) ?_
            exact W.vret hx hb hr (fun t ht hW => ⟨⟨(xnb, v77.1, v65.1, v65.2.1, v65.2.2, xba, xbs, xbd, xbe, v77.2, xpr, xpw, xpt, xpc, xrn, xca, xst, xps), rfl, h, by rw [ht]; exact hP, hD⟩, hS.F ht⟩) hS.2.2 dX0_updateData_115
        · have h := if_n h hc
          refine lv_aload_n hx hb dX0_updateData_46 rfl (lv_at hl 0 rfl) ?_
          refine lv_iconst (v := (1 : Int32)) hx hb dX0_updateData_47 (by decide) ?_
          refine va_put (D := (dC, dI)) (ci := 0) (v := .int (1 : Int32)) (ty := .boolean) (C := RX0) (T := TX0) (N := 11) hx hb hts hinX0 tyX0 tyX0_ok nmX0 hown hK hP hD hS 6 rfl rfl 5 (by decide) hf24 (fun _ h9 => h9) rfl (by decide +kernel) (kb_n (Or.inr rfl)) (kb_f (Or.inr rfl)) (Nat.le_of_ble_eq_true rfl) dX0_updateData_48 (fun H locs hP hD hS => ?_)
          have hP : va_P (dC, dI) vwCl [(aB, .inr (1, [.ref aP, .ref aba, .int xbs, .int xbd, .int xbe, .int xbx])), (aba, .inl (kba, 4, .inl xba)), (aP, .inr (2, [.ref apr, .ref apw, .ref apt, .int xpc, .int xrn, .int xca, .int xst, .int xps])), (apr, .inl (kpr, 8, .inl xpr)), (apw, .inl (kpw, 64, .inl xpw)), (apt, .inl (kpt, 2, .inl xpt)), (aN, .inr (0, [.ref aB, .int xnc, .int xns, .int xnr, .int xnl, .int (1 : Int32), .int xnv, .int xnn, .int xnh, .int xnt, .int xng]))] H := hP
          have hD : va_D A [(aB, .inr (1, [.ref aP, .ref aba, .int xbs, .int xbd, .int xbe, .int xbx])), (aba, .inl (kba, 4, .inl xba)), (aP, .inr (2, [.ref apr, .ref apw, .ref apt, .int xpc, .int xrn, .int xca, .int xst, .int xps])), (apr, .inl (kpr, 8, .inl xpr)), (apw, .inl (kpw, 64, .inl xpw)), (apt, .inl (kpt, 2, .inl xpt)), (aN, .inr (0, [.ref aB, .int xnc, .int xns, .int xnr, .int xnl, .int (1 : Int32), .int xnv, .int xnn, .int xnh, .int xnt, .int xng]))] := hD
          have hP9 := hP.sub (ws' := [(aN, .inr (0, [.ref aB, .int xnc, .int xns, .int xnr, .int xnl, .int (1 : Int32), .int xnv, .int xnn, .int xnh, .int xnt, .int xng])), (aB, .inr (1, [.ref aP, .ref aba, .int xbs, .int xbd, .int xbe, .int xbx])), (aba, .inl (kba, 4, .inl xba)), (aP, .inr (2, [.ref apr, .ref apw, .ref apt, .int xpc, .int xrn, .int xca, .int xst, .int xps])), (apr, .inl (kpr, 8, .inl xpr)), (apw, .inl (kpw, 64, .inl xpw)), (apt, .inl (kpt, 2, .inl xpt))]) [6, 0, 1, 2, 3, 4, 5] rfl
          have hD9 := hD.sub (ws' := [(aN, .inr (0, [.ref aB, .int xnc, .int xns, .int xnr, .int xnl, .int (1 : Int32), .int xnv, .int xnn, .int xnh, .int xnt, .int xng])), (aB, .inr (1, [.ref aP, .ref aba, .int xbs, .int xbd, .int xbe, .int xbx])), (aba, .inl (kba, 4, .inl xba)), (aP, .inr (2, [.ref apr, .ref apw, .ref apt, .int xpc, .int xrn, .int xca, .int xst, .int xps])), (apr, .inl (kpr, 8, .inl xpr)), (apw, .inl (kpw, 64, .inl xpw)), (apt, .inl (kpt, 2, .inl xpt))]) [6, 0, 1, 2, 3, 4, 5] (by decide) rfl
          exact W.vret hx hb hr (fun t ht hW => ⟨⟨((1 : Int32), xnv, xnn, xnh, xng, xba, xbs, xbd, xbe, xbx, xpr, xpw, xpt, xpc, xrn, xca, xst, xps), rfl, h, by rw [ht]; exact hP9, hD9⟩, hS.F ht⟩) hS.2.2 dX0_updateData_51
      · have h := if_n h hc
        exact W.vret hx hb hr (fun t ht hW => ⟨⟨(xnb, xnv, xnn, xnh, xng, xba, xbs, xbd, xbe, xbx, xpr, xpw, xpt, xpc, xrn, xca, xst, xps), rfl, h, by rw [ht]; exact hP, hD⟩, hS.F ht⟩) hS.2.2 dX0_updateData_38
  have hl := lv_entry ([.ref aN]) (n := 2) (Nat.le_of_ble_eq_true rfl)
  rw [lg_entry_eq]
  generalize (lg_sl ([.ref aN]) ++ List.replicate (2 - (lg_sl ([.ref aN])).length) Slot.unset).toArray = ls at hl ⊢
  have hl : lv_has ls 2 [(0, .ref aN)] := hl
  unfold fn_N_updateData at h
  refine lv_aload_n hx hb dX0_updateData_0 rfl (lv_at hl 0 rfl) ?_
  refine va_get (D := (dC, dI)) (ci := 0) (v := .int xns) (C := RX0) (T := TX0) (N := 11) hx hb hts hinX0 hown hK hP 0 rfl rfl 2 (by decide) hf15 (fun _ h9 => h9) rfl dX0_updateData_1 ?_
  refine lv_iconst (v := (2 : Int32)) hx hb dX0_updateData_4 (by decide) ?_
  refine lv_icmp_ne (tgt := 23) hx hb dX0_updateData_5 (by decide) (fun hc => ?_) (fun hc => ?_)
  · have h := if_n h hc
    exact k_23 _ _ _ _ _ _ _ _ _ _ _ _ _ _ _ _ _ _ _ _ _ hP hD hS hl h
  · have h := if_y h hc
    refine lv_aload_n hx hb dX0_updateData_8 rfl (lv_at hl 0 rfl) ?_
    refine va_get (D := (dC, dI)) (ci := 0) (v := .int xnr) (C := RX0) (T := TX0) (N := 11) hx hb hts hinX0 hown hK hP 0 rfl rfl 3 (by decide) hf18 (fun _ h9 => h9) rfl dX0_updateData_9 ?_
    refine lv_iconst (v := (1 : Int32)) hx hb dX0_updateData_12 (by decide) ?_
    refine lv_iand hx hb dX0_updateData_13 ?_
    refine lv_iconst (v := (1 : Int32)) hx hb dX0_updateData_14 (by decide) ?_
    refine lv_icmp_ne (tgt := 23) hx hb dX0_updateData_15 (by decide) (fun hc => ?_) (fun hc => ?_)
    · have h := if_n h hc
      exact k_23 _ _ _ _ _ _ _ _ _ _ _ _ _ _ _ _ _ _ _ _ _ hP hD hS hl h
    · have h := if_y h hc
      refine lv_aload_n hx hb dX0_updateData_18 rfl (lv_at hl 0 rfl) ?_
      refine lv_iconst (v := (0 : Int32)) hx hb dX0_updateData_19 (by decide) ?_
      refine va_put (D := (dC, dI)) (ci := 0) (v := .int (0 : Int32)) (ty := .boolean) (C := RX0) (T := TX0) (N := 11) hx hb hts hinX0 tyX0 tyX0_ok nmX0 hown hK hP hD hS 0 rfl rfl 5 (by decide) hf24 (fun _ h9 => h9) rfl (by decide +kernel) (kb_n (Or.inl rfl)) (kb_f (Or.inl rfl)) (Nat.le_of_ble_eq_true rfl) dX0_updateData_20 (fun H locs hP hD hS => ?_)
      have hP : va_P (dC, dI) vwCl [(aN, .inr (0, [.ref aB, .int xnc, .int xns, .int xnr, .int xnl, .int (0 : Int32), .int xnv, .int xnn, .int xnh, .int xnt, .int xng])), (aB, .inr (1, [.ref aP, .ref aba, .int xbs, .int xbd, .int xbe, .int xbx])), (aba, .inl (kba, 4, .inl xba)), (aP, .inr (2, [.ref apr, .ref apw, .ref apt, .int xpc, .int xrn, .int xca, .int xst, .int xps])), (apr, .inl (kpr, 8, .inl xpr)), (apw, .inl (kpw, 64, .inl xpw)), (apt, .inl (kpt, 2, .inl xpt))] H := hP
      have hD : va_D A [(aN, .inr (0, [.ref aB, .int xnc, .int xns, .int xnr, .int xnl, .int (0 : Int32), .int xnv, .int xnn, .int xnh, .int xnt, .int xng])), (aB, .inr (1, [.ref aP, .ref aba, .int xbs, .int xbd, .int xbe, .int xbx])), (aba, .inl (kba, 4, .inl xba)), (aP, .inr (2, [.ref apr, .ref apw, .ref apt, .int xpc, .int xrn, .int xca, .int xst, .int xps])), (apr, .inl (kpr, 8, .inl xpr)), (apw, .inl (kpw, 64, .inl xpw)), (apt, .inl (kpt, 2, .inl xpt))] := hD
      exact k_23 _ _ _ _ _ _ _ _ _ _ _ _ _ _ _ _ _ _ _ _ _ hP hD hS hl h
set_option maxHeartbeats 4000000 in
set_option maxRecDepth 100000 in
theorem ct_N_clock (l : Launch) (dC : Nat → ClassId) (dI : Nat → Nat → Nat) (aN aB aba aP apr apw apt : Nat) (kba kpr kpw kpt : ClassId) (aT0 aT1 : Nat) (sz : Nat) (xnc : Int32) (xns : Int32) (xnr : Int32) (xnl : Int32) (xnb : Int32) (xnv : Int32) (xnn : Int32) (xnh : Int32) (xnt : Int32) (xng : Int32) (xba : (Nat → Int32)) (xbs : Int32) (xbd : Int32) (xbe : Int32) (xbx : Int32) (xpr : (Nat → Int32)) (xpw : (Nat → Int32)) (xpt : (Nat → Int32)) (xpc : Int32) (xrn : Int32) (xca : Int32) (xst : Int32) (xps : Int32) (j1 j2 : Int32) (o : Int32 × Int32 × Int32 × Int32 × Int32 × Int32 × Int32 × Int32 × Int32 × Int32 × Int32 × (Nat → Int32) × Int32 × Int32 × Int32 × Int32 × (Nat → Int32) × (Nat → Int32) × (Nat → Int32) × Int32 × Int32 × Int32 × Int32 × Int32) (h : fn_N_clock xnc xns xnr xnl xnb xnv xnn xnh xnt xng xba xbs xbd xbe xbx xpr xpw xpt xpc xrn xca xst xps j1 j2 = some o) : Met l yX0_clock wsX0_clock ({ frames := 5, cells := 0, slots := 0, locals := 111 }) (va_Pc [.ref aN, .int j1, .int j2] (fun U => U.heap.size = sz ∧ va_P (dC, dI) vwCl [(aN, .inr (0, [.ref aB, .int xnc, .int xns, .int xnr, .int xnl, .int xnb, .int xnv, .int xnn, .int xnh, .int xnt, .int xng])), (aB, .inr (1, [.ref aP, .ref aba, .int xbs, .int xbd, .int xbe, .int xbx])), (aba, .inl (kba, 4, .inl xba)), (aP, .inr (2, [.ref apr, .ref apw, .ref apt, .int xpc, .int xrn, .int xca, .int xst, .int xps])), (apr, .inl (kpr, 8, .inl xpr)), (apw, .inl (kpw, 64, .inl xpw)), (apt, .inl (kpt, 2, .inl xpt))] U.heap ∧ va_K (dC, dI) vwCl [(kba, .int), (kpr, .int), (kpw, .int), (kpt, .int)] U ∧ va_D (fun _ => True) [(aN, .inr (0, [.ref aB, .int xnc, .int xns, .int xnr, .int xnl, .int xnb, .int xnv, .int xnn, .int xnh, .int xnt, .int xng])), (aB, .inr (1, [.ref aP, .ref aba, .int xbs, .int xbd, .int xbe, .int xbx])), (aba, .inl (kba, 4, .inl xba)), (aP, .inr (2, [.ref apr, .ref apw, .ref apt, .int xpc, .int xrn, .int xca, .int xst, .int xps])), (apr, .inl (kpr, 8, .inl xpr)), (apw, .inl (kpw, 64, .inl xpw)), (apt, .inl (kpt, 2, .inl xpt))] ∧ va_Z RX0 "NEXT_BY_MODE_0" "[I" (.ref aT0) (va_A [(aN, .inr (0, [.ref aB, .int xnc, .int xns, .int xnr, .int xnl, .int xnb, .int xnv, .int xnn, .int xnh, .int xnt, .int xng])), (aB, .inr (1, [.ref aP, .ref aba, .int xbs, .int xbd, .int xbe, .int xbx])), (aba, .inl (kba, 4, .inl xba)), (aP, .inr (2, [.ref apr, .ref apw, .ref apt, .int xpc, .int xrn, .int xca, .int xst, .int xps])), (apr, .inl (kpr, 8, .inl xpr)), (apw, .inl (kpw, 64, .inl xpw)), (apt, .inl (kpt, 2, .inl xpt))] sz) U U.heap ∧ va_T .int aT0 16 (fun j => .int (tb_0 j)) (va_A [(aN, .inr (0, [.ref aB, .int xnc, .int xns, .int xnr, .int xnl, .int xnb, .int xnv, .int xnn, .int xnh, .int xnt, .int xng])), (aB, .inr (1, [.ref aP, .ref aba, .int xbs, .int xbd, .int xbe, .int xbx])), (aba, .inl (kba, 4, .inl xba)), (aP, .inr (2, [.ref apr, .ref apw, .ref apt, .int xpc, .int xrn, .int xca, .int xst, .int xps])), (apr, .inl (kpr, 8, .inl xpr)), (apw, .inl (kpw, 64, .inl xpw)), (apt, .inl (kpt, 2, .inl xpt))] sz) U U.heap ∧ va_Z RX0 "NEXT_BY_MODE_1" "[I" (.ref aT1) (va_A [(aN, .inr (0, [.ref aB, .int xnc, .int xns, .int xnr, .int xnl, .int xnb, .int xnv, .int xnn, .int xnh, .int xnt, .int xng])), (aB, .inr (1, [.ref aP, .ref aba, .int xbs, .int xbd, .int xbe, .int xbx])), (aba, .inl (kba, 4, .inl xba)), (aP, .inr (2, [.ref apr, .ref apw, .ref apt, .int xpc, .int xrn, .int xca, .int xst, .int xps])), (apr, .inl (kpr, 8, .inl xpr)), (apw, .inl (kpw, 64, .inl xpw)), (apt, .inl (kpt, 2, .inl xpt))] sz) U U.heap ∧ va_T .int aT1 16 (fun j => .int (tb_1 j)) (va_A [(aN, .inr (0, [.ref aB, .int xnc, .int xns, .int xnr, .int xnl, .int xnb, .int xnv, .int xnn, .int xnh, .int xnt, .int xng])), (aB, .inr (1, [.ref aP, .ref aba, .int xbs, .int xbd, .int xbe, .int xbx])), (aba, .inl (kba, 4, .inl xba)), (aP, .inr (2, [.ref apr, .ref apw, .ref apt, .int xpc, .int xrn, .int xca, .int xst, .int xps])), (apr, .inl (kpr, 8, .inl xpr)), (apw, .inl (kpw, 64, .inl xpw)), (apt, .inl (kpt, 2, .inl xpt))] sz) U U.heap)) (va_Qi (fun (r : Int32) (u : Int32 × Int32 × Int32 × Int32 × Int32 × Int32 × Int32 × Int32 × Int32 × Int32 × (Nat → Int32) × Int32 × Int32 × Int32 × Int32 × (Nat → Int32) × (Nat → Int32) × (Nat → Int32) × Int32 × Int32 × Int32 × Int32 × Int32) => some (r, u) = some o) (fun (u : Int32 × Int32 × Int32 × Int32 × Int32 × Int32 × Int32 × Int32 × Int32 × Int32 × (Nat → Int32) × Int32 × Int32 × Int32 × Int32 × (Nat → Int32) × (Nat → Int32) × (Nat → Int32) × Int32 × Int32 × Int32 × Int32 × Int32) (t : State) => va_P (dC, dI) vwCl [(aN, .inr (0, [.ref aB, .int u.1, .int u.2.1, .int u.2.2.1, .int u.2.2.2.1, .int u.2.2.2.2.1, .int u.2.2.2.2.2.1, .int u.2.2.2.2.2.2.1, .int u.2.2.2.2.2.2.2.1, .int u.2.2.2.2.2.2.2.2.1, .int u.2.2.2.2.2.2.2.2.2.1])), (aB, .inr (1, [.ref aP, .ref aba, .int u.2.2.2.2.2.2.2.2.2.2.2.1, .int u.2.2.2.2.2.2.2.2.2.2.2.2.1, .int u.2.2.2.2.2.2.2.2.2.2.2.2.2.1, .int u.2.2.2.2.2.2.2.2.2.2.2.2.2.2.1])), (aba, .inl (kba, 4, .inl u.2.2.2.2.2.2.2.2.2.2.1)), (aP, .inr (2, [.ref apr, .ref apw, .ref apt, .int u.2.2.2.2.2.2.2.2.2.2.2.2.2.2.2.2.2.2.1, .int u.2.2.2.2.2.2.2.2.2.2.2.2.2.2.2.2.2.2.2.1, .int u.2.2.2.2.2.2.2.2.2.2.2.2.2.2.2.2.2.2.2.2.1, .int u.2.2.2.2.2.2.2.2.2.2.2.2.2.2.2.2.2.2.2.2.2.1, .int u.2.2.2.2.2.2.2.2.2.2.2.2.2.2.2.2.2.2.2.2.2.2])), (apr, .inl (kpr, 8, .inl u.2.2.2.2.2.2.2.2.2.2.2.2.2.2.2.1)), (apw, .inl (kpw, 64, .inl u.2.2.2.2.2.2.2.2.2.2.2.2.2.2.2.2.1)), (apt, .inl (kpt, 2, .inl u.2.2.2.2.2.2.2.2.2.2.2.2.2.2.2.2.2.1))] t.heap ∧ va_D (va_A [(aN, .inr (0, [.ref aB, .int xnc, .int xns, .int xnr, .int xnl, .int xnb, .int xnv, .int xnn, .int xnh, .int xnt, .int xng])), (aB, .inr (1, [.ref aP, .ref aba, .int xbs, .int xbd, .int xbe, .int xbx])), (aba, .inl (kba, 4, .inl xba)), (aP, .inr (2, [.ref apr, .ref apw, .ref apt, .int xpc, .int xrn, .int xca, .int xst, .int xps])), (apr, .inl (kpr, 8, .inl xpr)), (apw, .inl (kpw, 64, .inl xpw)), (apt, .inl (kpt, 2, .inl xpt))] sz) [(aN, .inr (0, [.ref aB, .int u.1, .int u.2.1, .int u.2.2.1, .int u.2.2.2.1, .int u.2.2.2.2.1, .int u.2.2.2.2.2.1, .int u.2.2.2.2.2.2.1, .int u.2.2.2.2.2.2.2.1, .int u.2.2.2.2.2.2.2.2.1, .int u.2.2.2.2.2.2.2.2.2.1])), (aB, .inr (1, [.ref aP, .ref aba, .int u.2.2.2.2.2.2.2.2.2.2.2.1, .int u.2.2.2.2.2.2.2.2.2.2.2.2.1, .int u.2.2.2.2.2.2.2.2.2.2.2.2.2.1, .int u.2.2.2.2.2.2.2.2.2.2.2.2.2.2.1])), (aba, .inl (kba, 4, .inl u.2.2.2.2.2.2.2.2.2.2.1)), (aP, .inr (2, [.ref apr, .ref apw, .ref apt, .int u.2.2.2.2.2.2.2.2.2.2.2.2.2.2.2.2.2.2.1, .int u.2.2.2.2.2.2.2.2.2.2.2.2.2.2.2.2.2.2.2.1, .int u.2.2.2.2.2.2.2.2.2.2.2.2.2.2.2.2.2.2.2.2.1, .int u.2.2.2.2.2.2.2.2.2.2.2.2.2.2.2.2.2.2.2.2.2.1, .int u.2.2.2.2.2.2.2.2.2.2.2.2.2.2.2.2.2.2.2.2.2.2])), (apr, .inl (kpr, 8, .inl u.2.2.2.2.2.2.2.2.2.2.2.2.2.2.2.1)), (apw, .inl (kpw, 64, .inl u.2.2.2.2.2.2.2.2.2.2.2.2.2.2.2.2.1)), (apt, .inl (kpt, 2, .inl u.2.2.2.2.2.2.2.2.2.2.2.2.2.2.2.2.2.1))]) (va_A [(aN, .inr (0, [.ref aB, .int xnc, .int xns, .int xnr, .int xnl, .int xnb, .int xnv, .int xnn, .int xnh, .int xnt, .int xng])), (aB, .inr (1, [.ref aP, .ref aba, .int xbs, .int xbd, .int xbe, .int xbx])), (aba, .inl (kba, 4, .inl xba)), (aP, .inr (2, [.ref apr, .ref apw, .ref apt, .int xpc, .int xrn, .int xca, .int xst, .int xps])), (apr, .inl (kpr, 8, .inl xpr)), (apw, .inl (kpw, 64, .inl xpw)), (apt, .inl (kpt, 2, .inl xpt))] sz)) 0 0 (va_A [(aN, .inr (0, [.ref aB, .int xnc, .int xns, .int xnr, .int xnl, .int xnb, .int xnv, .int xnn, .int xnh, .int xnt, .int xng])), (aB, .inr (1, [.ref aP, .ref aba, .int xbs, .int xbd, .int xbe, .int xbx])), (aba, .inl (kba, 4, .inl xba)), (aP, .inr (2, [.ref apr, .ref apw, .ref apt, .int xpc, .int xrn, .int xca, .int xst, .int xps])), (apr, .inl (kpr, 8, .inl xpr)), (apw, .inl (kpw, 64, .inl xpw)), (apt, .inl (kpt, 2, .inl xpt))] sz) := by
  refine Met.ofW (cc := cX0_clock) (maxL := 4) (ret := (some .int)) (by decide) rfl ?_
  intro p e s m args below meth c s₁ B hml hv
  obtain ⟨rfl, hsz, hP, hK, hD0, hZ0, hT0, hZ1, hT1⟩ := hv
  have hx := B.exec
  have hb := B.bytes
  have hr := B.returns
  have hts := atoms_spec (ws := wsX0_clock) B.pre
  have hown : s.vm.findClass RX0 = some m.cls := findClass_of_methodNamed B.named
  have hlocks := B.notSynchronized
  subst hsz
  have hD := hD0.self (sz := s.heap.size)
  generalize hAe : va_A [(aN, .inr (0, [.ref aB, .int xnc, .int xns, .int xnr, .int xnl, .int xnb, .int xnv, .int xnn, .int xnh, .int xnt, .int xng])), (aB, .inr (1, [.ref aP, .ref aba, .int xbs, .int xbd, .int xbe, .int xbx])), (aba, .inl (kba, 4, .inl xba)), (aP, .inr (2, [.ref apr, .ref apw, .ref apt, .int xpc, .int xrn, .int xca, .int xst, .int xps])), (apr, .inl (kpr, 8, .inl xpr)), (apw, .inl (kpw, 64, .inl xpw)), (apt, .inl (kpt, 2, .inl xpt))] s.heap.size = A at hD hZ0 hT0 hZ1 hT1 ⊢
  have hA : ∀ q : Nat, s.heap.size ≤ q → A q := fun q h => by rw [← hAe]; exact Or.inr h
  have hS : va_S A s.heap s.heap [] := va_S.rf
  have hP : va_P (dC, dI) vwCl [(aN, .inr (0, [.ref aB, .int xnc, .int xns, .int xnr, .int xnl, .int xnb, .int xnv, .int xnn, .int xnh, .int xnt, .int xng])), (aB, .inr (1, [.ref aP, .ref aba, .int xbs, .int xbd, .int xbe, .int xbx])), (aba, .inl (kba, 4, .inl xba)), (aP, .inr (2, [.ref apr, .ref apw, .ref apt, .int xpc, .int xrn, .int xca, .int xst, .int xps])), (apr, .inl (kpr, 8, .inl xpr)), (apw, .inl (kpw, 64, .inl xpw)), (apt, .inl (kpt, 2, .inl xpt))] s.heap := hP
  have hf11 := hts (.fieldLink RX0 11 "ProbeBench$Pins" "current" "I") (by decide +kernel)
  have hf15 := hts (.fieldLink RX0 15 "ProbeBench$Pins" "selected" "I") (by decide +kernel)
  have hf18 := hts (.fieldLink RX0 18 "ProbeBench$Pins" "row" "I") (by decide +kernel)
  have hf21 := hts (.fieldLink RX0 21 "ProbeBench$Pins" "rowLength" "I") (by decide +kernel)
  have hf37 := hts (.fieldLink RX0 37 "ProbeBench$Pins" "ticksDone" "I") (by decide +kernel)
  have hf57 := hts (.fieldLink RX0 57 "ProbeBench$Pins" "NEXT_BY_MODE_0" "[I") (by decide +kernel)
  have hf61 := hts (.fieldLink RX0 61 "ProbeBench$Pins" "NEXT_BY_MODE_1" "[I") (by decide +kernel)
  have hinX0 : ∀ w ∈ u_ws RX0 TX0 11, w ∈ wsX0_clock := by decide +kernel
  have k_155 : ∀ (H : Heap) (locs : List Loc) (ls : Array Slot) (xnc : Int32) (xns : Int32) (xnr : Int32) (xnl : Int32) (xnb : Int32) (xnv : Int32) (xnn : Int32) (xnh : Int32) (xnt : Int32) (xng : Int32) (xba : (Nat → Int32)) (xbs : Int32) (xbd : Int32) (xbe : Int32) (xbx : Int32) (xpr : (Nat → Int32)) (xpw : (Nat → Int32)) (xpt : (Nat → Int32)) (xpc : Int32) (xrn : Int32) (xca : Int32) (xst : Int32) (xps : Int32) (z1 : Int32) (z3 : Int32), va_P (dC, dI) vwCl [(aN, .inr (0, [.ref aB, .int xnc, .int xns, .int xnr, .int xnl, .int xnb, .int xnv, .int xnn, .int xnh, .int xnt, .int xng])), (aB, .inr (1, [.ref aP, .ref aba, .int xbs, .int xbd, .int xbe, .int xbx])), (aba, .inl (kba, 4, .inl xba)), (aP, .inr (2, [.ref apr, .ref apw, .ref apt, .int xpc, .int xrn, .int xca, .int xst, .int xps])), (apr, .inl (kpr, 8, .inl xpr)), (apw, .inl (kpw, 64, .inl xpw)), (apt, .inl (kpt, 2, .inl xpt))] H → va_D A [(aN, .inr (0, [.ref aB, .int xnc, .int xns, .int xnr, .int xnl, .int xnb, .int xnv, .int xnn, .int xnh, .int xnt, .int xng])), (aB, .inr (1, [.ref aP, .ref aba, .int xbs, .int xbd, .int xbe, .int xbx])), (aba, .inl (kba, 4, .inl xba)), (aP, .inr (2, [.ref apr, .ref apw, .ref apt, .int xpc, .int xrn, .int xca, .int xst, .int xps])), (apr, .inl (kpr, 8, .inl xpr)), (apw, .inl (kpw, 64, .inl xpw)), (apt, .inl (kpt, 2, .inl xpt))] → va_S A s.heap H locs → lv_has ls 4 [(0, .ref aN), (1, .int z1), (3, .int z3)] → fn_N_clock_J155 xnc xns xnr xnl xnb xnv xnn xnh xnt xng xba xbs xbd xbe xbx xpr xpw xpt xpc xrn xca xst xps z1 z3 = some o → W p l e (headSpec wsX0_clock ({ frames := 5, cells := 0, slots := 0, locals := 111 })).room s m ([.ref aN, .int j1, .int j2] : List Value).toArray below meth c H locs 0 0 (MQ below (va_Qi (fun (r : Int32) (u : Int32 × Int32 × Int32 × Int32 × Int32 × Int32 × Int32 × Int32 × Int32 × Int32 × (Nat → Int32) × Int32 × Int32 × Int32 × Int32 × (Nat → Int32) × (Nat → Int32) × (Nat → Int32) × Int32 × Int32 × Int32 × Int32 × Int32) => some (r, u) = some o) (fun (u : Int32 × Int32 × Int32 × Int32 × Int32 × Int32 × Int32 × Int32 × Int32 × Int32 × (Nat → Int32) × Int32 × Int32 × Int32 × Int32 × (Nat → Int32) × (Nat → Int32) × (Nat → Int32) × Int32 × Int32 × Int32 × Int32 × Int32) (t : State) => va_P (dC, dI) vwCl [(aN, .inr (0, [.ref aB, .int u.1, .int u.2.1, .int u.2.2.1, .int u.2.2.2.1, .int u.2.2.2.2.1, .int u.2.2.2.2.2.1, .int u.2.2.2.2.2.2.1, .int u.2.2.2.2.2.2.2.1, .int u.2.2.2.2.2.2.2.2.1, .int u.2.2.2.2.2.2.2.2.2.1])), (aB, .inr (1, [.ref aP, .ref aba, .int u.2.2.2.2.2.2.2.2.2.2.2.1, .int u.2.2.2.2.2.2.2.2.2.2.2.2.1, .int u.2.2.2.2.2.2.2.2.2.2.2.2.2.1, .int u.2.2.2.2.2.2.2.2.2.2.2.2.2.2.1])), (aba, .inl (kba, 4, .inl u.2.2.2.2.2.2.2.2.2.2.1)), (aP, .inr (2, [.ref apr, .ref apw, .ref apt, .int u.2.2.2.2.2.2.2.2.2.2.2.2.2.2.2.2.2.2.1, .int u.2.2.2.2.2.2.2.2.2.2.2.2.2.2.2.2.2.2.2.1, .int u.2.2.2.2.2.2.2.2.2.2.2.2.2.2.2.2.2.2.2.2.1, .int u.2.2.2.2.2.2.2.2.2.2.2.2.2.2.2.2.2.2.2.2.2.1, .int u.2.2.2.2.2.2.2.2.2.2.2.2.2.2.2.2.2.2.2.2.2.2])), (apr, .inl (kpr, 8, .inl u.2.2.2.2.2.2.2.2.2.2.2.2.2.2.2.1)), (apw, .inl (kpw, 64, .inl u.2.2.2.2.2.2.2.2.2.2.2.2.2.2.2.2.1)), (apt, .inl (kpt, 2, .inl u.2.2.2.2.2.2.2.2.2.2.2.2.2.2.2.2.2.1))] t.heap ∧ va_D A [(aN, .inr (0, [.ref aB, .int u.1, .int u.2.1, .int u.2.2.1, .int u.2.2.2.1, .int u.2.2.2.2.1, .int u.2.2.2.2.2.1, .int u.2.2.2.2.2.2.1, .int u.2.2.2.2.2.2.2.1, .int u.2.2.2.2.2.2.2.2.1, .int u.2.2.2.2.2.2.2.2.2.1])), (aB, .inr (1, [.ref aP, .ref aba, .int u.2.2.2.2.2.2.2.2.2.2.2.1, .int u.2.2.2.2.2.2.2.2.2.2.2.2.1, .int u.2.2.2.2.2.2.2.2.2.2.2.2.2.1, .int u.2.2.2.2.2.2.2.2.2.2.2.2.2.2.1])), (aba, .inl (kba, 4, .inl u.2.2.2.2.2.2.2.2.2.2.1)), (aP, .inr (2, [.ref apr, .ref apw, .ref apt, .int u.2.2.2.2.2.2.2.2.2.2.2.2.2.2.2.2.2.2.1, .int u.2.2.2.2.2.2.2.2.2.2.2.2.2.2.2.2.2.2.2.1, .int u.2.2.2.2.2.2.2.2.2.2.2.2.2.2.2.2.2.2.2.2.1, .int u.2.2.2.2.2.2.2.2.2.2.2.2.2.2.2.2.2.2.2.2.2.1, .int u.2.2.2.2.2.2.2.2.2.2.2.2.2.2.2.2.2.2.2.2.2.2])), (apr, .inl (kpr, 8, .inl u.2.2.2.2.2.2.2.2.2.2.2.2.2.2.2.1)), (apw, .inl (kpw, 64, .inl u.2.2.2.2.2.2.2.2.2.2.2.2.2.2.2.2.1)), (apt, .inl (kpt, 2, .inl u.2.2.2.2.2.2.2.2.2.2.2.2.2.2.2.2.2.1))]) A) ([.ref aN, .int j1, .int j2] : List Value).toArray s 0 0 A) (F0 m 155 ls []) := by
    intro H locs ls xnc xns xnr xnl xnb xnv xnn xnh xnt xng xba xbs xbd xbe xbx xpr xpw xpt xpc xrn xca xst xps z1 z3 hP hD hS hl h
    unfold fn_N_clock_J155 at h
    refine lv_aload_n hx hb dX0_clock_155 rfl (lv_at hl 0 rfl) ?_
    refine lv_iload_n hx hb dX0_clock_156 rfl (lv_at hl 1 rfl) ?_
    refine lv_if_ne (tgt := 171) hx hb dX0_clock_157 (by decide) (fun hc => ?_) (fun hc => ?_)
    · have h := if_n h hc
      refine va_gets hx hb hZ1 hS hown hf61 (fun _ h9 => h9) dX0_clock_171 ?_
      refine lv_aload_n hx hb dX0_clock_174 rfl (lv_at hl 0 rfl) ?_
      refine va_get (D := (dC, dI)) (ci := 0) (v := .int xnc) (C := RX0) (T := TX0) (N := 11) hx hb hts hinX0 hown hK hP 0 rfl rfl 1 (by decide) hf11 (fun _ h9 => h9) rfl dX0_clock_175 ?_
      obtain ⟨hi, h⟩ := ck_in h
      refine va_ti hx hb hT1 hS hi rfl dX0_clock_178 ?_
      refine va_put (D := (dC, dI)) (ci := 0) (v := .int (tb_1 (Int32.toNatClampNeg xnc))) (ty := .int) (C := RX0) (T := TX0) (N := 11) hx hb hts hinX0 tyX0 tyX0_ok nmX0 hown hK hP hD hS 0 rfl rfl 1 (by decide) hf11 (fun _ h9 => h9) rfl (by decide +kernel) rfl rfl (Nat.le_of_ble_eq_true rfl) dX0_clock_179 (fun H locs hP hD hS => ?_)
      have hP : va_P (dC, dI) vwCl [(aN, .inr (0, [.ref aB, .int (tb_1 (Int32.toNatClampNeg xnc)), .int xns, .int xnr, .int xnl, .int xnb, .int xnv, .int xnn, .int xnh, .int xnt, .int xng])), (aB, .inr (1, [.ref aP, .ref aba, .int xbs, .int xbd, .int xbe, .int xbx])), (aba, .inl (kba, 4, .inl xba)), (aP, .inr (2, [.ref apr, .ref apw, .ref apt, .int xpc, .int xrn, .int xca, .int xst, .int xps])), (apr, .inl (kpr, 8, .inl xpr)), (apw, .inl (kpw, 64, .inl xpw)), (apt, .inl (kpt, 2, .inl xpt))] H := hP
      have hD : va_D A [(aN, .inr (0, [.ref aB, .int (tb_1 (Int32.toNatClampNeg xnc)), .int xns, .int xnr, .int xnl, .int xnb, .int xnv, .int xnn, .int xnh, .int xnt, .int xng])), (aB, .inr (1, [.ref aP, .ref aba, .int xbs, .int xbd, .int xbe, .int xbx])), (aba, .inl (kba, 4, .inl xba)), (aP, .inr (2, [.ref apr, .ref apw, .ref apt, .int xpc, .int xrn, .int xca, .int xst, .int xps])), (apr, .inl (kpr, 8, .inl xpr)), (apw, .inl (kpw, 64, .inl xpw)), (apt, .inl (kpt, 2, .inl xpt))] := hD
      refine lv_aload_n hx hb dX0_clock_182 rfl (lv_at hl 0 rfl) ?_
      refine lv_dup hx hb dX0_clock_183 rfl ?_
      refine va_get (D := (dC, dI)) (ci := 0) (v := .int xnt) (C := RX0) (T := TX0) (N := 11) hx hb hts hinX0 hown hK hP 0 rfl rfl 9 (by decide) hf37 (fun _ h9 => h9) rfl dX0_clock_184 ?_
      refine lv_iconst (v := (1 : Int32)) hx hb dX0_clock_187 (by decide) ?_
      refine lv_iadd hx hb dX0_clock_188 ?_
      refine va_put (D := (dC, dI)) (ci := 0) (v := .int (xnt + (1 : Int32))) (ty := .int) (C := RX0) (T := TX0) (N := 11) hx hb hts hinX0 tyX0 tyX0_ok nmX0 hown hK hP hD hS 0 rfl rfl 9 (by decide) hf37 (fun _ h9 => h9) rfl (by decide +kernel) rfl rfl (Nat.le_of_ble_eq_true rfl) dX0_clock_189 (fun H locs hP hD hS => ?_)
      have hP : va_P (dC, dI) vwCl [(aN, .inr (0, [.ref aB, .int (tb_1 (Int32.toNatClampNeg xnc)), .int xns, .int xnr, .int xnl, .int xnb, .int xnv, .int xnn, .int xnh, .int (xnt + (1 : Int32)), .int xng])), (aB, .inr (1, [.ref aP, .ref aba, .int xbs, .int xbd, .int xbe, .int xbx])), (aba, .inl (kba, 4, .inl xba)), (aP, .inr (2, [.ref apr, .ref apw, .ref apt, .int xpc, .int xrn, .int xca, .int xst, .int xps])), (apr, .inl (kpr, 8, .inl xpr)), (apw, .inl (kpw, 64, .inl xpw)), (apt, .inl (kpt, 2, .inl xpt))] H := hP
      have hD : va_D A [(aN, .inr (0, [.ref aB, .int (tb_1 (Int32.toNatClampNeg xnc)), .int xns, .int xnr, .int xnl, .int xnb, .int xnv, .int xnn, .int xnh, .int (xnt + (1 : Int32)), .int xng])), (aB, .inr (1, [.ref aP, .ref aba, .int xbs, .int xbd, .int xbe, .int xbx])), (aba, .inl (kba, 4, .inl xba)), (aP, .inr (2, [.ref apr, .ref apw, .ref apt, .int xpc, .int xrn, .int xca, .int xst, .int xps])), (apr, .inl (kpr, 8, .inl xpr)), (apw, .inl (kpw, 64, .inl xpw)), (apt, .inl (kpt, 2, .inl xpt))] := hD
      refine lv_iload_n hx hb dX0_clock_192 rfl (lv_at hl 2 rfl) ?_
      exact W.iret hx hb hr (fun t ht hW => ⟨⟨z3, ((tb_1 (Int32.toNatClampNeg xnc)), xns, xnr, xnl, xnb, xnv, xnn, xnh, (xnt + (1 : Int32)), xng, xba, xbs, xbd, xbe, xbx, xpr, xpw, xpt, xpc, xrn, xca, xst, xps), rfl, h, by rw [ht]; exact hP, hD⟩, hS.F ht⟩) hS.2.2 dX0_clock_193
    · have h := if_y h hc
      refine va_gets hx hb hZ0 hS hown hf57 (fun _ h9 => h9) dX0_clock_160 ?_
      refine lv_aload_n hx hb dX0_clock_163 rfl (lv_at hl 0 rfl) ?_
      refine va_get (D := (dC, dI)) (ci := 0) (v := .int xnc) (C := RX0) (T := TX0) (N := 11) hx hb hts hinX0 hown hK hP 0 rfl rfl 1 (by decide) hf11 (fun _ h9 => h9) rfl dX0_clock_164 ?_
      obtain ⟨hi, h⟩ := ck_in h
      refine va_ti hx hb hT0 hS hi rfl dX0_clock_167 ?_
      refine lv_goto (tgt := 179) hx hb dX0_clock_168 (by decide) ?_
      refine va_put (D := (dC, dI)) (ci := 0) (v := .int (tb_0 (Int32.toNatClampNeg xnc))) (ty := .int) (C := RX0) (T := TX0) (N := 11) hx hb hts hinX0 tyX0 tyX0_ok nmX0 hown hK hP hD hS 0 rfl rfl 1 (by decide) hf11 (fun _ h9 => h9) rfl (by decide +kernel) rfl rfl (Nat.le_of_ble_eq_true rfl) dX0_clock_179 (fun H locs hP hD hS => ?_)
      have hP : va_P (dC, dI) vwCl [(aN, .inr (0, [.ref aB, .int (tb_0 (Int32.toNatClampNeg xnc)), .int xns, .int xnr, .int xnl, .int xnb, .int xnv, .int xnn, .int xnh, .int xnt, .int xng])), (aB, .inr (1, [.ref aP, .ref aba, .int xbs, .int xbd, .int xbe, .int xbx])), (aba, .inl (kba, 4, .inl xba)), (aP, .inr (2, [.ref apr, .ref apw, .ref apt, .int xpc, .int xrn, .int xca, .int xst, .int xps])), (apr, .inl (kpr, 8, .inl xpr)), (apw, .inl (kpw, 64, .inl xpw)), (apt, .inl (kpt, 2, .inl xpt))] H := hP
      have hD : va_D A [(aN, .inr (0, [.ref aB, .int (tb_0 (Int32.toNatClampNeg xnc)), .int xns, .int xnr, .int xnl, .int xnb, .int xnv, .int xnn, .int xnh, .int xnt, .int xng])), (aB, .inr (1, [.ref aP, .ref aba, .int xbs, .int xbd, .int xbe, .int xbx])), (aba, .inl (kba, 4, .inl xba)), (aP, .inr (2, [.ref apr, .ref apw, .ref apt, .int xpc, .int xrn, .int xca, .int xst, .int xps])), (apr, .inl (kpr, 8, .inl xpr)), (apw, .inl (kpw, 64, .inl xpw)), (apt, .inl (kpt, 2, .inl xpt))] := hD
      refine lv_aload_n hx hb dX0_clock_182 rfl (lv_at hl 0 rfl) ?_
      refine lv_dup hx hb dX0_clock_183 rfl ?_
      refine va_get (D := (dC, dI)) (ci := 0) (v := .int xnt) (C := RX0) (T := TX0) (N := 11) hx hb hts hinX0 hown hK hP 0 rfl rfl 9 (by decide) hf37 (fun _ h9 => h9) rfl dX0_clock_184 ?_
      refine lv_iconst (v := (1 : Int32)) hx hb dX0_clock_187 (by decide) ?_
      refine lv_iadd hx hb dX0_clock_188 ?_
      refine va_put (D := (dC, dI)) (ci := 0) (v := .int (xnt + (1 : Int32))) (ty := .int) (C := RX0) (T := TX0) (N := 11) hx hb hts hinX0 tyX0 tyX0_ok nmX0 hown hK hP hD hS 0 rfl rfl 9 (by decide) hf37 (fun _ h9 => h9) rfl (by decide +kernel) rfl rfl (Nat.le_of_ble_eq_true rfl) dX0_clock_189 (fun H locs hP hD hS => ?_)
      have hP : va_P (dC, dI) vwCl [(aN, .inr (0, [.ref aB, .int (tb_0 (Int32.toNatClampNeg xnc)), .int xns, .int xnr, .int xnl, .int xnb, .int xnv, .int xnn, .int xnh, .int (xnt + (1 : Int32)), .int xng])), (aB, .inr (1, [.ref aP, .ref aba, .int xbs, .int xbd, .int xbe, .int xbx])), (aba, .inl (kba, 4, .inl xba)), (aP, .inr (2, [.ref apr, .ref apw, .ref apt, .int xpc, .int xrn, .int xca, .int xst, .int xps])), (apr, .inl (kpr, 8, .inl xpr)), (apw, .inl (kpw, 64, .inl xpw)), (apt, .inl (kpt, 2, .inl xpt))] H := hP
      have hD : va_D A [(aN, .inr (0, [.ref aB, .int (tb_0 (Int32.toNatClampNeg xnc)), .int xns, .int xnr, .int xnl, .int xnb, .int xnv, .int xnn, .int xnh, .int (xnt + (1 : Int32)), .int xng])), (aB, .inr (1, [.ref aP, .ref aba, .int xbs, .int xbd, .int xbe, .int xbx])), (aba, .inl (kba, 4, .inl xba)), (aP, .inr (2, [.ref apr, .ref apw, .ref apt, .int xpc, .int xrn, .int xca, .int xst, .int xps])), (apr, .inl (kpr, 8, .inl xpr)), (apw, .inl (kpw, 64, .inl xpw)), (apt, .inl (kpt, 2, .inl xpt))] := hD
      refine lv_iload_n hx hb dX0_clock_192 rfl (lv_at hl 2 rfl) ?_
      exact W.iret hx hb hr (fun t ht hW => ⟨⟨z3, ((tb_0 (Int32.toNatClampNeg xnc)), xns, xnr, xnl, xnb, xnv, xnn, xnh, (xnt + (1 : Int32)), xng, xba, xbs, xbd, xbe, xbx, xpr, xpw, xpt, xpc, xrn, xca, xst, xps), rfl, h, by rw [ht]; exact hP, hD⟩, hS.F ht⟩) hS.2.2 dX0_clock_193
  have k_101 : ∀ (H : Heap) (locs : List Loc) (ls : Array Slot) (xnc : Int32) (xns : Int32) (xnr : Int32) (xnl : Int32) (xnb : Int32) (xnv : Int32) (xnn : Int32) (xnh : Int32) (xnt : Int32) (xng : Int32) (xba : (Nat → Int32)) (xbs : Int32) (xbd : Int32) (xbe : Int32) (xbx : Int32) (xpr : (Nat → Int32)) (xpw : (Nat → Int32)) (xpt : (Nat → Int32)) (xpc : Int32) (xrn : Int32) (xca : Int32) (xst : Int32) (xps : Int32) (z1 : Int32) (z2 : Int32), va_P (dC, dI) vwCl [(aN, .inr (0, [.ref aB, .int xnc, .int xns, .int xnr, .int xnl, .int xnb, .int xnv, .int xnn, .int xnh, .int xnt, .int xng])), (aB, .inr (1, [.ref aP, .ref aba, .int xbs, .int xbd, .int xbe, .int xbx])), (aba, .inl (kba, 4, .inl xba)), (aP, .inr (2, [.ref apr, .ref apw, .ref apt, .int xpc, .int xrn, .int xca, .int xst, .int xps])), (apr, .inl (kpr, 8, .inl xpr)), (apw, .inl (kpw, 64, .inl xpw)), (apt, .inl (kpt, 2, .inl xpt))] H → va_D A [(aN, .inr (0, [.ref aB, .int xnc, .int xns, .int xnr, .int xnl, .int xnb, .int xnv, .int xnn, .int xnh, .int xnt, .int xng])), (aB, .inr (1, [.ref aP, .ref aba, .int xbs, .int xbd, .int xbe, .int xbx])), (aba, .inl (kba, 4, .inl xba)), (aP, .inr (2, [.ref apr, .ref apw, .ref apt, .int xpc, .int xrn, .int xca, .int xst, .int xps])), (apr, .inl (kpr, 8, .inl xpr)), (apw, .inl (kpw, 64, .inl xpw)), (apt, .inl (kpt, 2, .inl xpt))] → va_S A s.heap H locs → lv_has ls 4 [(0, .ref aN), (1, .int z1), (2, .int z2)] → fn_N_clock_J101 xnc xns xnr xnl xnb xnv xnn xnh xnt xng xba xbs xbd xbe xbx xpr xpw xpt xpc xrn xca xst xps z1 z2 = some o → W p l e (headSpec wsX0_clock ({ frames := 5, cells := 0, slots := 0, locals := 111 })).room s m ([.ref aN, .int j1, .int j2] : List Value).toArray below meth c H locs 0 0 (MQ below (va_Qi (fun (r : Int32) (u : Int32 × Int32 × Int32 × Int32 × Int32 × Int32 × Int32 × Int32 × Int32 × Int32 × (Nat → Int32) × Int32 × Int32 × Int32 × Int32 × (Nat → Int32) × (Nat → Int32) × (Nat → Int32) × Int32 × Int32 × Int32 × Int32 × Int32) => some (r, u) = some o) (fun (u : Int32 × Int32 × Int32 × Int32 × Int32 × Int32 × Int32 × Int32 × Int32 × Int32 × (Nat → Int32) × Int32 × Int32 × Int32 × Int32 × (Nat → Int32) × (Nat → Int32) × (Nat → Int32) × Int32 × Int32 × Int32 × Int32 × Int32) (t : State) => va_P (dC, dI) vwCl [(aN, .inr (0, [.ref aB, .int u.1, .int u.2.1, .int u.2.2.1, .int u.2.2.2.1, .int u.2.2.2.2.1, .int u.2.2.2.2.2.1, .int u.2.2.2.2.2.2.1, .int u.2.2.2.2.2.2.2.1, .int u.2.2.2.2.2.2.2.2.1, .int u.2.2.2.2.2.2.2.2.2.1])), (aB, .inr (1, [.ref aP, .ref aba, .int u.2.2.2.2.2.2.2.2.2.2.2.1, .int u.2.2.2.2.2.2.2.2.2.2.2.2.1, .int u.2.2.2.2.2.2.2.2.2.2.2.2.2.1, .int u.2.2.2.2.2.2.2.2.2.2.2.2.2.2.1])), (aba, .inl (kba, 4, .inl u.2.2.2.2.2.2.2.2.2.2.1)), (aP, .inr (2, [.ref apr, .ref apw, .ref apt, .int u.2.2.2.2.2.2.2.2.2.2.2.2.2.2.2.2.2.2.1, .int u.2.2.2.2.2.2.2.2.2.2.2.2.2.2.2.2.2.2.2.1, .int u.2.2.2.2.2.2.2.2.2.2.2.2.2.2.2.2.2.2.2.2.1, .int u.2.2.2.2.2.2.2.2.2.2.2.2.2.2.2.2.2.2.2.2.2.1, .int u.2.2.2.2.2.2.2.2.2.2.2.2.2.2.2.2.2.2.2.2.2.2])), (apr, .inl (kpr, 8, .inl u.2.2.2.2.2.2.2.2.2.2.2.2.2.2.2.1)), (apw, .inl (kpw, 64, .inl u.2.2.2.2.2.2.2.2.2.2.2.2.2.2.2.2.1)), (apt, .inl (kpt, 2, .inl u.2.2.2.2.2.2.2.2.2.2.2.2.2.2.2.2.2.1))] t.heap ∧ va_D A [(aN, .inr (0, [.ref aB, .int u.1, .int u.2.1, .int u.2.2.1, .int u.2.2.2.1, .int u.2.2.2.2.1, .int u.2.2.2.2.2.1, .int u.2.2.2.2.2.2.1, .int u.2.2.2.2.2.2.2.1, .int u.2.2.2.2.2.2.2.2.1, .int u.2.2.2.2.2.2.2.2.2.1])), (aB, .inr (1, [.ref aP, .ref aba, .int u.2.2.2.2.2.2.2.2.2.2.2.1, .int u.2.2.2.2.2.2.2.2.2.2.2.2.1, .int u.2.2.2.2.2.2.2.2.2.2.2.2.2.1, .int u.2.2.2.2.2.2.2.2.2.2.2.2.2.2.1])), (aba, .inl (kba, 4, .inl u.2.2.2.2.2.2.2.2.2.2.1)), (aP, .inr (2, [.ref apr, .ref apw, .ref apt, .int u.2.2.2.2.2.2.2.2.2.2.2.2.2.2.2.2.2.2.1, .int u.2.2.2.2.2.2.2.2.2.2.2.2.2.2.2.2.2.2.2.1, .int u.2.2.2.2.2.2.2.2.2.2.2.2.2.2.2.2.2.2.2.2.1, .int u.2.2.2.2.2.2.2.2.2.2.2.2.2.2.2.2.2.2.2.2.2.1, .int u.2.2.2.2.2.2.2.2.2.2.2.2.2.2.2.2.2.2.2.2.2.2])), (apr, .inl (kpr, 8, .inl u.2.2.2.2.2.2.2.2.2.2.2.2.2.2.2.1)), (apw, .inl (kpw, 64, .inl u.2.2.2.2.2.2.2.2.2.2.2.2.2.2.2.2.1)), (apt, .inl (kpt, 2, .inl u.2.2.2.2.2.2.2.2.2.2.2.2.2.2.2.2.2.1))]) A) ([.ref aN, .int j1, .int j2] : List Value).toArray s 0 0 A) (F0 m 101 ls []) := by
    intro H locs ls xnc xns xnr xnl xnb xnv xnn xnh xnt xng xba xbs xbd xbe xbx xpr xpw xpt xpc xrn xca xst xps z1 z2 hP hD hS hl h
    unfold fn_N_clock_J101 at h
    refine lv_aload_n hx hb dX0_clock_101 rfl (lv_at hl 0 rfl) ?_
    refine va_get (D := (dC, dI)) (ci := 0) (v := .int xnr) (C := RX0) (T := TX0) (N := 11) hx hb hts hinX0 hown hK hP 0 rfl rfl 3 (by decide) hf18 (fun _ h9 => h9) rfl dX0_clock_102 ?_
    refine lv_iconst (v := (1 : Int32)) hx hb dX0_clock_105 (by decide) ?_
    refine lv_iand hx hb dX0_clock_106 ?_
    refine lv_istore_n hx hb dX0_clock_107 rfl hl (by decide) rfl (fun ls hl => ?_)
    have hl : lv_has ls 4 [(3, .int (xnr &&& (1 : Int32))), (0, .ref aN), (1, .int z1), (2, .int z2)] := hl
    refine lv_aload_n hx hb dX0_clock_108 rfl (lv_at hl 1 rfl) ?_
    refine lv_aload_n hx hb dX0_clock_109 rfl (lv_at hl 1 rfl) ?_
    refine va_get (D := (dC, dI)) (ci := 0) (v := .int xnr) (C := RX0) (T := TX0) (N := 11) hx hb hts hinX0 hown hK hP 0 rfl rfl 3 (by decide) hf18 (fun _ h9 => h9) rfl dX0_clock_110 ?_
    refine lv_iconst (v := (1 : Int32)) hx hb dX0_clock_113 (by decide) ?_
    refine lv_ishr hx hb dX0_clock_114 ?_
    refine lv_iload_n hx hb dX0_clock_115 rfl (lv_at hl 3 rfl) ?_
    refine lv_aload_n hx hb dX0_clock_116 rfl (lv_at hl 1 rfl) ?_
    refine va_get (D := (dC, dI)) (ci := 0) (v := .int xnl) (C := RX0) (T := TX0) (N := 11) hx hb hts hinX0 hown hK hP 0 rfl rfl 4 (by decide) hf21 (fun _ h9 => h9) rfl dX0_clock_117 ?_
    refine lv_iconst (v := (1 : Int32)) hx hb dX0_clock_120 (by decide) ?_
    refine lv_isub hx hb dX0_clock_121 ?_
    refine lv_ishl hx hb dX0_clock_122 ?_
    refine lv_ior hx hb dX0_clock_123 ?_
    refine va_put (D := (dC, dI)) (ci := 0) (v := .int ((xnr >>> ((1 : Int32) &&& (31 : Int32))) ||| (z2 <<< ((xnl - (1 : Int32)) &&& (31 : Int32))))) (ty := .int) (C := RX0) (T := TX0) (N := 11) hx hb hts hinX0 tyX0 tyX0_ok nmX0 hown hK hP hD hS 0 rfl rfl 3 (by decide) hf18 (fun _ h9 => h9) rfl (by decide +kernel) rfl rfl (Nat.le_of_ble_eq_true rfl) dX0_clock_124 (fun H locs hP hD hS => ?_)
    have hP : va_P (dC, dI) vwCl [(aN, .inr (0, [.ref aB, .int xnc, .int xns, .int ((xnr >>> ((1 : Int32) &&& (31 : Int32))) ||| (z2 <<< ((xnl - (1 : Int32)) &&& (31 : Int32)))), .int xnl, .int xnb, .int xnv, .int xnn, .int xnh, .int xnt, .int xng])), (aB, .inr (1, [.ref aP, .ref aba, .int xbs, .int xbd, .int xbe, .int xbx])), (aba, .inl (kba, 4, .inl xba)), (aP, .inr (2, [.ref apr, .ref apw, .ref apt, .int xpc, .int xrn, .int xca, .int xst, .int xps])), (apr, .inl (kpr, 8, .inl xpr)), (apw, .inl (kpw, 64, .inl xpw)), (apt, .inl (kpt, 2, .inl xpt))] H := hP
    have hD : va_D A [(aN, .inr (0, [.ref aB, .int xnc, .int xns, .int ((xnr >>> ((1 : Int32) &&& (31 : Int32))) ||| (z2 <<< ((xnl - (1 : Int32)) &&& (31 : Int32)))), .int xnl, .int xnb, .int xnv, .int xnn, .int xnh, .int xnt, .int xng])), (aB, .inr (1, [.ref aP, .ref aba, .int xbs, .int xbd, .int xbe, .int xbx])), (aba, .inl (kba, 4, .inl xba)), (aP, .inr (2, [.ref apr, .ref apw, .ref apt, .int xpc, .int xrn, .int xca, .int xst, .int xps])), (apr, .inl (kpr, 8, .inl xpr)), (apw, .inl (kpw, 64, .inl xpw)), (apt, .inl (kpt, 2, .inl xpt))] := hD
    refine lv_goto (tgt := 155) hx hb dX0_clock_127 (by decide) ?_
    exact k_155 _ _ _ _ _ _ _ _ _ _ _ _ _ _ _ _ _ _ _ _ _ _ _ _ _ _ _ _ hP hD hS (lv_sub hl [1, 2, 0] rfl) h
  have hl := lv_entry ([.ref aN, .int j1, .int j2]) (n := 4) (Nat.le_of_ble_eq_true rfl)
  rw [lg_entry_eq]
  generalize (lg_sl ([.ref aN, .int j1, .int j2]) ++ List.replicate (4 - (lg_sl ([.ref aN, .int j1, .int j2])).length) Slot.unset).toArray = ls at hl ⊢
  have hl : lv_has ls 4 [(0, .ref aN), (1, .int j1), (2, .int j2)] := hl
  unfold fn_N_clock at h
  refine lv_iconst (v := (0 : Int32)) hx hb dX0_clock_0 (by decide) ?_
  refine lv_istore_n hx hb dX0_clock_1 rfl hl (by decide) rfl (fun ls hl => ?_)
  have hl : lv_has ls 4 [(3, .int (0 : Int32)), (0, .ref aN), (1, .int j1), (2, .int j2)] := hl
  refine lv_aload_n hx hb dX0_clock_2 rfl (lv_at hl 1 rfl) ?_
  refine va_get (D := (dC, dI)) (ci := 0) (v := .int xnc) (C := RX0) (T := TX0) (N := 11) hx hb hts hinX0 hown hK hP 0 rfl rfl 1 (by decide) hf11 (fun _ h9 => h9) rfl dX0_clock_3 ?_
  by_cases hc0 : xnc = (0 : Int32)
  · have h := if_y h hc0
    refine lv_tableIn (tgt := 84) (off := 78) hx hb dX0_clock_6 (by rw [hc0]; decide) (by rw [hc0]; decide) (by rw [hc0]; rfl) (by decide) ?_
    refine lv_aload_n hx hb dX0_clock_84 rfl (lv_at hl 1 rfl) ?_
    refine lv_iconst (v := (1 : Int32)) hx hb dX0_clock_85 (by decide) ?_
    refine va_put (D := (dC, dI)) (ci := 0) (v := .int (1 : Int32)) (ty := .int) (C := RX0) (T := TX0) (N := 11) hx hb hts hinX0 tyX0 tyX0_ok nmX0 hown hK hP hD hS 0 rfl rfl 2 (by decide) hf15 (fun _ h9 => h9) rfl (by decide +kernel) rfl rfl (Nat.le_of_ble_eq_true rfl) dX0_clock_86 (fun H locs hP hD hS => ?_)
    have hP : va_P (dC, dI) vwCl [(aN, .inr (0, [.ref aB, .int xnc, .int (1 : Int32), .int xnr, .int xnl, .int xnb, .int xnv, .int xnn, .int xnh, .int xnt, .int xng])), (aB, .inr (1, [.ref aP, .ref aba, .int xbs, .int xbd, .int xbe, .int xbx])), (aba, .inl (kba, 4, .inl xba)), (aP, .inr (2, [.ref apr, .ref apw, .ref apt, .int xpc, .int xrn, .int xca, .int xst, .int xps])), (apr, .inl (kpr, 8, .inl xpr)), (apw, .inl (kpw, 64, .inl xpw)), (apt, .inl (kpt, 2, .inl xpt))] H := hP
    have hD : va_D A [(aN, .inr (0, [.ref aB, .int xnc, .int (1 : Int32), .int xnr, .int xnl, .int xnb, .int xnv, .int xnn, .int xnh, .int xnt, .int xng])), (aB, .inr (1, [.ref aP, .ref aba, .int xbs, .int xbd, .int xbe, .int xbx])), (aba, .inl (kba, 4, .inl xba)), (aP, .inr (2, [.ref apr, .ref apw, .ref apt, .int xpc, .int xrn, .int xca, .int xst, .int xps])), (apr, .inl (kpr, 8, .inl xpr)), (apw, .inl (kpw, 64, .inl xpw)), (apt, .inl (kpt, 2, .inl xpt))] := hD
    refine lv_goto (tgt := 155) hx hb dX0_clock_89 (by decide) ?_
    exact k_155 _ _ _ _ _ _ _ _ _ _ _ _ _ _ _ _ _ _ _ _ _ _ _ _ _ _ _ _ hP hD hS (lv_sub hl [1, 2, 0] rfl) h
  · have h := if_n h hc0
    by_cases hc1 : xnc = (1 : Int32)
    · have h := if_y h hc1
      refine lv_tableIn (tgt := 155) (off := 149) hx hb dX0_clock_6 (by rw [hc1]; decide) (by rw [hc1]; decide) (by rw [hc1]; rfl) (by decide) ?_
      exact k_155 _ _ _ _ _ _ _ _ _ _ _ _ _ _ _ _ _ _ _ _ _ _ _ _ _ _ _ _ hP hD hS (lv_sub hl [1, 2, 0] rfl) h
    · have h := if_n h hc1
      by_cases hc2 : xnc = (2 : Int32)
      · have h := if_y h hc2
        refine lv_tableIn (tgt := 155) (off := 149) hx hb dX0_clock_6 (by rw [hc2]; decide) (by rw [hc2]; decide) (by rw [hc2]; rfl) (by decide) ?_
        exact k_155 _ _ _ _ _ _ _ _ _ _ _ _ _ _ _ _ _ _ _ _ _ _ _ _ _ _ _ _ hP hD hS (lv_sub hl [1, 2, 0] rfl) h
      · have h := if_n h hc2
        by_cases hc3 : xnc = (3 : Int32)
        · have h := if_y h hc3
          refine lv_tableIn (tgt := 141) (off := 135) hx hb dX0_clock_6 (by rw [hc3]; decide) (by rw [hc3]; decide) (by rw [hc3]; rfl) (by decide) ?_
          refine lv_aload_n hx hb dX0_clock_141 rfl (lv_at hl 1 rfl) ?_
          obtain ⟨v142, hv, h⟩ := bn_ex h
          have hPc := hP.sub (ws' := [(aN, .inr (0, [.ref aB, .int xnc, .int xns, .int xnr, .int xnl, .int xnb, .int xnv, .int xnn, .int xnh, .int xnt, .int xng]))]) [0] rfl
          have hDc := hD.sub (ws' := [(aN, .inr (0, [.ref aB, .int xnc, .int xns, .int xnr, .int xnl, .int xnb, .int xnv, .int xnn, .int xnh, .int xnt, .int xng]))]) [0] (by decide) rfl
          have hKc := hK.sub (tys' := []) [] rfl
          have hFc := va_free (wc := [(aN, .inr (0, [.ref aB, .int xnc, .int xns, .int xnr, .int xnl, .int xnb, .int xnv, .int xnn, .int xnh, .int xnt, .int xng]))]) hD hS hA [0] rfl
          refine va_callv (va_runV (As := []) (rest := []) ⟨hx, hb, hml, hown, hts⟩ (ct_N_captureData l dC dI aN aB s.heap.size xnc xns xnr xnl xnb xnv xnn xnh xnt xng v142 hv) (cwV 0 hts gX0_clock_X0_captureData rfl rfl rfl (by decide +kernel) ⟨Nat.le_of_ble_eq_true rfl, Nat.le_of_ble_eq_true rfl⟩) ⟨fun a U g mk q => by obtain ⟨q0, q1, qP, qK, qD⟩ := q; exact ⟨q0, q1, qP, va_K.moved (u := U) (U := U.calling g mk a) (Vm.Alike.refl U.vm) qK, qD⟩, va_recv (ci := 0) (q0 := 0) hK hP rfl rfl, fun U hU hW => ⟨rfl, by rw [hU], by rw [hU]; exact hPc, va_K.moved hW.alike hKc, hDc.weaken (fun _ _ _ _ => trivial)⟩⟩ rfl rfl hl.1 rfl (lv_room (Nat.le_of_ble_eq_true rfl)) dX0_clock_142 ⟨Nat.zero_le _, Nat.zero_le _⟩) hS (fun q _ h => hFc q h) hFc (fun u t H locs ht hvm hw hB hz1 hk1 hS => ?_)
          obtain rfl := pr_0 hw
          obtain ⟨hP1, hD1⟩ := hB
          rw [ht] at hP1
          obtain ⟨hP, hD⟩ := va_join (wr := [(aB, .inr (1, [.ref aP, .ref aba, .int xbs, .int xbd, .int xbe, .int xbx])), (aba, .inl (kba, 4, .inl xba)), (aP, .inr (2, [.ref apr, .ref apw, .ref apt, .int xpc, .int xrn, .int xca, .int xst, .int xps])), (apr, .inl (kpr, 8, .inl xpr)), (apw, .inl (kpw, 64, .inl xpw)), (apt, .inl (kpt, 2, .inl xpt))]) (w1 := [(aN, .inr (0, [.ref aB, .int xnc, .int xns, .int v142.1, .int v142.2, .int xnb, .int xnv, .int xnn, .int xnh, .int xnt, .int xng]))]) hP hD [0] [1, 2, 3, 4, 5, 6] rfl rfl (by decide) (by decide) hk1 hFc hP1 hD1
          have hP : va_P (dC, dI) vwCl [(aB, .inr (1, [.ref aP, .ref aba, .int xbs, .int xbd, .int xbe, .int xbx])), (aba, .inl (kba, 4, .inl xba)), (aP, .inr (2, [.ref apr, .ref apw, .ref apt, .int xpc, .int xrn, .int xca, .int xst, .int xps])), (apr, .inl (kpr, 8, .inl xpr)), (apw, .inl (kpw, 64, .inl xpw)), (apt, .inl (kpt, 2, .inl xpt)), (aN, .inr (0, [.ref aB, .int xnc, .int xns, .int v142.1, .int v142.2, .int xnb, .int xnv, .int xnn, .int xnh, .int xnt, .int xng]))] H := hP
          have hD : va_D A [(aB, .inr (1, [.ref aP, .ref aba, .int xbs, .int xbd, .int xbe, .int xbx])), (aba, .inl (kba, 4, .inl xba)), (aP, .inr (2, [.ref apr, .ref apw, .ref apt, .int xpc, .int xrn, .int xca, .int xst, .int xps])), (apr, .inl (kpr, 8, .inl xpr)), (apw, .inl (kpw, 64, .inl xpw)), (apt, .inl (kpt, 2, .inl xpt)), (aN, .inr (0, [.ref aB, .int xnc, .int xns, .int v142.1, .int v142.2, .int xnb, .int xnv, .int xnn, .int xnh, .int xnt, .int xng]))] := hD
          refine lv_goto (tgt := 155) hx hb dX0_clock_145 (by decide) ?_
          have hP := hP.sub (ws' := [(aN, .inr (0, [.ref aB, .int xnc, .int xns, .int v142.1, .int v142.2, .int xnb, .int xnv, .int xnn, .int xnh, .int xnt, .int xng])), (aB, .inr (1, [.ref aP, .ref aba, .int xbs, .int xbd, .int xbe, .int xbx])), (aba, .inl (kba, 4, .inl xba)), (aP, .inr (2, [.ref apr, .ref apw, .ref apt, .int xpc, .int xrn, .int xca, .int xst, .int xps])), (apr, .inl (kpr, 8, .inl xpr)), (apw, .inl (kpw, 64, .inl xpw)), (apt, .inl (kpt, 2, .inl xpt))]) [6, 0, 1, 2, 3, 4, 5] rfl
          have hD := hD.sub (ws' := [(aN, .inr (0, [.ref aB, .int xnc, .int xns, .int v142.1, .int v142.2, .int xnb, .int xnv, .int xnn, .int xnh, .int xnt, .int xng])), (aB, .inr (1, [.ref aP, .ref aba, .int xbs, .int xbd, .int xbe, .int xbx])), (aba, .inl (kba, 4, .inl xba)), (aP, .inr (2, [.ref apr, .ref apw, .ref apt, .int xpc, .int xrn, .int xca, .int xst, .int xps])), (apr, .inl (kpr, 8, .inl xpr)), (apw, .inl (kpw, 64, .inl xpw)), (apt, .inl (kpt, 2, .inl xpt))]) [6, 0, 1, 2, 3, 4, 5] (by decide) rfl
          exact k_155 _ _ _ _ _ _ _ _ _ _ _ _ _ _ _ _ _ _ _ _ _ _ _ _ _ _ _ _ hP hD hS (lv_sub hl [1, 2, 0] rfl) h
        · have h := if_n h hc3
          by_cases hc4 : xnc = (4 : Int32)
          · have h := if_y h hc4
            refine lv_tableIn (tgt := 101) (off := 95) hx hb dX0_clock_6 (by rw [hc4]; decide) (by rw [hc4]; decide) (by rw [hc4]; rfl) (by decide) ?_
            exact k_101 _ _ _ _ _ _ _ _ _ _ _ _ _ _ _ _ _ _ _ _ _ _ _ _ _ _ _ _ hP hD hS (lv_sub hl [1, 2, 3] rfl) h
          · have h := if_n h hc4
            by_cases hc5 : xnc = (5 : Int32)
            · have h := if_y h hc5
              refine lv_tableIn (tgt := 155) (off := 149) hx hb dX0_clock_6 (by rw [hc5]; decide) (by rw [hc5]; decide) (by rw [hc5]; rfl) (by decide) ?_
              exact k_155 _ _ _ _ _ _ _ _ _ _ _ _ _ _ _ _ _ _ _ _ _ _ _ _ _ _ _ _ hP hD hS (lv_sub hl [1, 2, 0] rfl) h
            · have h := if_n h hc5
              by_cases hc6 : xnc = (6 : Int32)
              · have h := if_y h hc6
                refine lv_tableIn (tgt := 155) (off := 149) hx hb dX0_clock_6 (by rw [hc6]; decide) (by rw [hc6]; decide) (by rw [hc6]; rfl) (by decide) ?_
                exact k_155 _ _ _ _ _ _ _ _ _ _ _ _ _ _ _ _ _ _ _ _ _ _ _ _ _ _ _ _ hP hD hS (lv_sub hl [1, 2, 0] rfl) h
              · have h := if_n h hc6
                by_cases hc7 : xnc = (7 : Int32)
                · have h := if_y h hc7
                  refine lv_tableIn (tgt := 155) (off := 149) hx hb dX0_clock_6 (by rw [hc7]; decide) (by rw [hc7]; decide) (by rw [hc7]; rfl) (by decide) ?_
                  exact k_155 _ _ _ _ _ _ _ _ _ _ _ _ _ _ _ _ _ _ _ _ _ _ _ _ _ _ _ _ hP hD hS (lv_sub hl [1, 2, 0] rfl) h
                · have h := if_n h hc7
                  by_cases hc8 : xnc = (8 : Int32)
                  · have h := if_y h hc8
                    refine lv_tableIn (tgt := 148) (off := 142) hx hb dX0_clock_6 (by rw [hc8]; decide) (by rw [hc8]; decide) (by rw [hc8]; rfl) (by decide) ?_
                    refine lv_aload_n hx hb dX0_clock_148 rfl (lv_at hl 1 rfl) ?_
                    obtain ⟨v149, hv, h⟩ := bn_ex h
                    have hPc := hP.sub (ws' := [(aN, .inr (0, [.ref aB, .int xnc, .int xns, .int xnr, .int xnl, .int xnb, .int xnv, .int xnn, .int xnh, .int xnt, .int xng])), (aB, .inr (1, [.ref aP, .ref aba, .int xbs, .int xbd, .int xbe, .int xbx])), (aba, .inl (kba, 4, .inl xba)), (aP, .inr (2, [.ref apr, .ref apw, .ref apt, .int xpc, .int xrn, .int xca, .int xst, .int xps])), (apr, .inl (kpr, 8, .inl xpr)), (apw, .inl (kpw, 64, .inl xpw)), (apt, .inl (kpt, 2, .inl xpt))]) [0, 1, 2, 3, 4, 5, 6] rfl
                    have hDc := hD.sub (ws' := [(aN, .inr (0, [.ref aB, .int xnc, .int xns, .int xnr, .int xnl, .int xnb, .int xnv, .int xnn, .int xnh, .int xnt, .int xng])), (aB, .inr (1, [.ref aP, .ref aba, .int xbs, .int xbd, .int xbe, .int xbx])), (aba, .inl (kba, 4, .inl xba)), (aP, .inr (2, [.ref apr, .ref apw, .ref apt, .int xpc, .int xrn, .int xca, .int xst, .int xps])), (apr, .inl (kpr, 8, .inl xpr)), (apw, .inl (kpw, 64, .inl xpw)), (apt, .inl (kpt, 2, .inl xpt))]) [0, 1, 2, 3, 4, 5, 6] (by decide) rfl
                    have hKc := hK.sub (tys' := [(kba, .int), (kpr, .int), (kpw, .int), (kpt, .int)]) [0, 1, 2, 3] rfl
                    have hFc := va_free (wc := [(aN, .inr (0, [.ref aB, .int xnc, .int xns, .int xnr, .int xnl, .int xnb, .int xnv, .int xnn, .int xnh, .int xnt, .int xng])), (aB, .inr (1, [.ref aP, .ref aba, .int xbs, .int xbd, .int xbe, .int xbx])), (aba, .inl (kba, 4, .inl xba)), (aP, .inr (2, [.ref apr, .ref apw, .ref apt, .int xpc, .int xrn, .int xca, .int xst, .int xps])), (apr, .inl (kpr, 8, .inl xpr)), (apw, .inl (kpw, 64, .inl xpw)), (apt, .inl (kpt, 2, .inl xpt))]) hD hS hA [0, 1, 2, 3, 4, 5, 6] rfl
                    refine va_callv (va_runV (As := []) (rest := []) ⟨hx, hb, hml, hown, hts⟩ (ct_N_updateData l dC dI aN aB aba aP apr apw apt kba kpr kpw kpt s.heap.size xnc xns xnr xnl xnb xnv xnn xnh xnt xng xba xbs xbd xbe xbx xpr xpw xpt xpc xrn xca xst xps v149 hv) (cwV 0 hts gX0_clock_X0_updateData rfl rfl rfl (by decide +kernel) ⟨Nat.le_of_ble_eq_true rfl, Nat.le_of_ble_eq_true rfl⟩) ⟨fun a U g mk q => by obtain ⟨q0, q1, qP, qK, qD⟩ := q; exact ⟨q0, q1, qP, va_K.moved (u := U) (U := U.calling g mk a) (Vm.Alike.refl U.vm) qK, qD⟩, va_recv (ci := 0) (q0 := 0) hK hP rfl rfl, fun U hU hW => ⟨rfl, by rw [hU], by rw [hU]; exact hPc, va_K.moved hW.alike hKc, hDc.weaken (fun _ _ _ _ => trivial)⟩⟩ rfl rfl hl.1 rfl (lv_room (Nat.le_of_ble_eq_true rfl)) dX0_clock_149 ⟨Nat.zero_le _, Nat.zero_le _⟩) hS (fun q _ h => hFc q h) hFc (fun u t H locs ht hvm hw hB hz1 hk1 hS => ?_)
                    obtain rfl := pr_0 hw
                    obtain ⟨hP1, hD1⟩ := hB
                    rw [ht] at hP1
                    obtain ⟨hP, hD⟩ := va_join (wr := []) (w1 := [(aN, .inr (0, [.ref aB, .int xnc, .int xns, .int xnr, .int xnl, .int v149.1, .int v149.2.1, .int v149.2.2.1, .int v149.2.2.2.1, .int xnt, .int v149.2.2.2.2.1])), (aB, .inr (1, [.ref aP, .ref aba, .int v149.2.2.2.2.2.2.1, .int v149.2.2.2.2.2.2.2.1, .int v149.2.2.2.2.2.2.2.2.1, .int v149.2.2.2.2.2.2.2.2.2.1])), (aba, .inl (kba, 4, .inl v149.2.2.2.2.2.1)), (aP, .inr (2, [.ref apr, .ref apw, .ref apt, .int v149.2.2.2.2.2.2.2.2.2.2.2.2.2.1, .int v149.2.2.2.2.2.2.2.2.2.2.2.2.2.2.1, .int v149.2.2.2.2.2.2.2.2.2.2.2.2.2.2.2.1, .int v149.2.2.2.2.2.2.2.2.2.2.2.2.2.2.2.2.1, .int v149.2.2.2.2.2.2.2.2.2.2.2.2.2.2.2.2.2])), (apr, .inl (kpr, 8, .inl v149.2.2.2.2.2.2.2.2.2.2.1)), (apw, .inl (kpw, 64, .inl v149.2.2.2.2.2.2.2.2.2.2.2.1)), (apt, .inl (kpt, 2, .inl v149.2.2.2.2.2.2.2.2.2.2.2.2.1))]) hP hD [0, 1, 2, 3, 4, 5, 6] [] rfl rfl (by decide) (by decide) hk1 hFc hP1 hD1
                    have hP : va_P (dC, dI) vwCl [(aN, .inr (0, [.ref aB, .int xnc, .int xns, .int xnr, .int xnl, .int v149.1, .int v149.2.1, .int v149.2.2.1, .int v149.2.2.2.1, .int xnt, .int v149.2.2.2.2.1])), (aB, .inr (1, [.ref aP, .ref aba, .int v149.2.2.2.2.2.2.1, .int v149.2.2.2.2.2.2.2.1, .int v149.2.2.2.2.2.2.2.2.1, .int v149.2.2.2.2.2.2.2.2.2.1])), (aba, .inl (kba, 4, .inl v149.2.2.2.2.2.1)), (aP, .inr (2, [.ref apr, .ref apw, .ref apt, .int v149.2.2.2.2.2.2.2.2.2.2.2.2.2.1, .int v149.2.2.2.2.2.2.2.2.2.2.2.2.2.2.1, .int v149.2.2.2.2.2.2.2.2.2.2.2.2.2.2.2.1, .int v149.2.2.2.2.2.2.2.2.2.2.2.2.2.2.2.2.1, .int v149.2.2.2.2.2.2.2.2.2.2.2.2.2.2.2.2.2])), (apr, .inl (kpr, 8, .inl v149.2.2.2.2.2.2.2.2.2.2.1)), (apw, .inl (kpw, 64, .inl v149.2.2.2.2.2.2.2.2.2.2.2.1)), (apt, .inl (kpt, 2, .inl v149.2.2.2.2.2.2.2.2.2.2.2.2.1))] H := hP
                    have hD : va_D A [(aN, .inr (0, [.ref aB, .int xnc, .int xns, .int xnr, .int xnl, .int v149.1, .int v149.2.1, .int v149.2.2.1, .int v149.2.2.2.1, .int xnt, .int v149.2.2.2.2.1])), (aB, .inr (1, [.ref aP, .ref aba, .int v149.2.2.2.2.2.2.1, .int v149.2.2.2.2.2.2.2.1, .int v149.2.2.2.2.2.2.2.2.1, .int v149.2.2.2.2.2.2.2.2.2.1])), (aba, .inl (kba, 4, .inl v149.2.2.2.2.2.1)), (aP, .inr (2, [.ref apr, .ref apw, .ref apt, .int v149.2.2.2.2.2.2.2.2.2.2.2.2.2.1, .int v149.2.2.2.2.2.2.2.2.2.2.2.2.2.2.1, .int v149.2.2.2.2.2.2.2.2.2.2.2.2.2.2.2.1, .int v149.2.2.2.2.2.2.2.2.2.2.2.2.2.2.2.2.1, .int v149.2.2.2.2.2.2.2.2.2.2.2.2.2.2.2.2.2])), (apr, .inl (kpr, 8, .inl v149.2.2.2.2.2.2.2.2.2.2.1)), (apw, .inl (kpw, 64, .inl v149.2.2.2.2.2.2.2.2.2.2.2.1)), (apt, .inl (kpt, 2, .inl v149.2.2.2.2.2.2.2.2.2.2.2.2.1))] := hD
                    refine lv_goto (tgt := 155) hx hb dX0_clock_152 (by decide) ?_
                    exact k_155 _ _ _ _ _ _ _ _ _ _ _ _ _ _ _ _ _ _ _ _ _ _ _ _ _ _ _ _ hP hD hS (lv_sub hl [1, 2, 0] rfl) h
                  · have h := if_n h hc8
                    by_cases hc9 : xnc = (9 : Int32)
                    · have h := if_y h hc9
                      refine lv_tableIn (tgt := 155) (off := 149) hx hb dX0_clock_6 (by rw [hc9]; decide) (by rw [hc9]; decide) (by rw [hc9]; rfl) (by decide) ?_
                      exact k_155 _ _ _ _ _ _ _ _ _ _ _ _ _ _ _ _ _ _ _ _ _ _ _ _ _ _ _ _ hP hD hS (lv_sub hl [1, 2, 0] rfl) h
                    · have h := if_n h hc9
                      by_cases hc10 : xnc = (10 : Int32)
                      · have h := if_y h hc10
                        refine lv_tableIn (tgt := 92) (off := 86) hx hb dX0_clock_6 (by rw [hc10]; decide) (by rw [hc10]; decide) (by rw [hc10]; rfl) (by decide) ?_
                        refine lv_aload_n hx hb dX0_clock_92 rfl (lv_at hl 1 rfl) ?_
                        refine lv_iconst (v := (4 : Int32)) hx hb dX0_clock_93 (by decide) ?_
                        refine lv_iconst (v := (5 : Int32)) hx hb dX0_clock_94 (by decide) ?_
                        obtain ⟨v95, hv, h⟩ := bn_ex h
                        have hPc := hP.sub (ws' := [(aN, .inr (0, [.ref aB, .int xnc, .int xns, .int xnr, .int xnl, .int xnb, .int xnv, .int xnn, .int xnh, .int xnt, .int xng]))]) [0] rfl
                        have hDc := hD.sub (ws' := [(aN, .inr (0, [.ref aB, .int xnc, .int xns, .int xnr, .int xnl, .int xnb, .int xnv, .int xnn, .int xnh, .int xnt, .int xng]))]) [0] (by decide) rfl
                        have hKc := hK.sub (tys' := []) [] rfl
                        have hFc := va_free (wc := [(aN, .inr (0, [.ref aB, .int xnc, .int xns, .int xnr, .int xnl, .int xnb, .int xnv, .int xnn, .int xnh, .int xnt, .int xng]))]) hD hS hA [0] rfl
                        refine va_callv (va_runV (As := [.int (4 : Int32), .int (5 : Int32)]) (rest := []) ⟨hx, hb, hml, hown, hts⟩ (ct_N_setRow l dC dI aN aB s.heap.size xnc xns xnr xnl xnb xnv xnn xnh xnt xng (4 : Int32) (5 : Int32) v95 hv) (cwV 2 hts gX0_clock_X0_setRow rfl rfl rfl (by decide +kernel) ⟨Nat.le_of_ble_eq_true rfl, Nat.le_of_ble_eq_true rfl⟩) ⟨fun a U g mk q => by obtain ⟨q0, q1, qP, qK, qD⟩ := q; exact ⟨q0, q1, qP, va_K.moved (u := U) (U := U.calling g mk a) (Vm.Alike.refl U.vm) qK, qD⟩, va_recv (ci := 0) (q0 := 0) hK hP rfl rfl, fun U hU hW => ⟨rfl, by rw [hU], by rw [hU]; exact hPc, va_K.moved hW.alike hKc, hDc.weaken (fun _ _ _ _ => trivial)⟩⟩ rfl rfl hl.1 rfl (lv_room (Nat.le_of_ble_eq_true rfl)) dX0_clock_95 ⟨Nat.zero_le _, Nat.zero_le _⟩) hS (fun q _ h => hFc q h) hFc (fun u t H locs ht hvm hw hB hz1 hk1 hS => ?_)
                        obtain rfl := pr_0 hw
                        obtain ⟨hP1, hD1⟩ := hB
                        rw [ht] at hP1
                        obtain ⟨hP, hD⟩ := va_join (wr := [(aB, .inr (1, [.ref aP, .ref aba, .int xbs, .int xbd, .int xbe, .int xbx])), (aba, .inl (kba, 4, .inl xba)), (aP, .inr (2, [.ref apr, .ref apw, .ref apt, .int xpc, .int xrn, .int xca, .int xst, .int xps])), (apr, .inl (kpr, 8, .inl xpr)), (apw, .inl (kpw, 64, .inl xpw)), (apt, .inl (kpt, 2, .inl xpt))]) (w1 := [(aN, .inr (0, [.ref aB, .int xnc, .int xns, .int v95.1, .int v95.2, .int xnb, .int xnv, .int xnn, .int xnh, .int xnt, .int xng]))]) hP hD [0] [1, 2, 3, 4, 5, 6] rfl rfl (by decide) (by decide) hk1 hFc hP1 hD1
                        have hP : va_P (dC, dI) vwCl [(aB, .inr (1, [.ref aP, .ref aba, .int xbs, .int xbd, .int xbe, .int xbx])), (aba, .inl (kba, 4, .inl xba)), (aP, .inr (2, [.ref apr, .ref apw, .ref apt, .int xpc, .int xrn, .int xca, .int xst, .int xps])), (apr, .inl (kpr, 8, .inl xpr)), (apw, .inl (kpw, 64, .inl xpw)), (apt, .inl (kpt, 2, .inl xpt)), (aN, .inr (0, [.ref aB, .int xnc, .int xns, .int v95.1, .int v95.2, .int xnb, .int xnv, .int xnn, .int xnh, .int xnt, .int xng]))] H := hP
                        have hD : va_D A [(aB, .inr (1, [.ref aP, .ref aba, .int xbs, .int xbd, .int xbe, .int xbx])), (aba, .inl (kba, 4, .inl xba)), (aP, .inr (2, [.ref apr, .ref apw, .ref apt, .int xpc, .int xrn, .int xca, .int xst, .int xps])), (apr, .inl (kpr, 8, .inl xpr)), (apw, .inl (kpw, 64, .inl xpw)), (apt, .inl (kpt, 2, .inl xpt)), (aN, .inr (0, [.ref aB, .int xnc, .int xns, .int v95.1, .int v95.2, .int xnb, .int xnv, .int xnn, .int xnh, .int xnt, .int xng]))] := hD
                        refine lv_goto (tgt := 155) hx hb dX0_clock_98 (by decide) ?_
                        have hP := hP.sub (ws' := [(aN, .inr (0, [.ref aB, .int xnc, .int xns, .int v95.1, .int v95.2, .int xnb, .int xnv, .int xnn, .int xnh, .int xnt, .int xng])), (aB, .inr (1, [.ref aP, .ref aba, .int xbs, .int xbd, .int xbe, .int xbx])), (aba, .inl (kba, 4, .inl xba)), (aP, .inr (2, [.ref apr, .ref apw, .ref apt, .int xpc, .int xrn, .int xca, .int xst, .int xps])), (apr, .inl (kpr, 8, .inl xpr)), (apw, .inl (kpw, 64, .inl xpw)), (apt, .inl (kpt, 2, .inl xpt))]) [6, 0, 1, 2, 3, 4, 5] rfl
                        have hD := hD.sub (ws' := [(aN, .inr (0, [.ref aB, .int xnc, .int xns, .int v95.1, .int v95.2, .int xnb, .int xnv, .int xnn, .int xnh, .int xnt, .int xng])), (aB, .inr (1, [.ref aP, .ref aba, .int xbs, .int xbd, .int xbe, .int xbx])), (aba, .inl (kba, 4, .inl xba)), (aP, .inr (2, [.ref apr, .ref apw, .ref apt, .int xpc, .int xrn, .int xca, .int xst, .int xps])), (apr, .inl (kpr, 8, .inl xpr)), (apw, .inl (kpw, 64, .inl xpw)), (apt, .inl (kpt, 2, .inl xpt))]) [6, 0, 1, 2, 3, 4, 5] (by decide) rfl
                        exact k_155 _ _ _ _ _ _ _ _ _ _ _ _ _ _ _ _ _ _ _ _ _ _ _ _ _ _ _ _ hP hD hS (lv_sub hl [1, 2, 0] rfl) h
                      · have h := if_n h hc10
                        by_cases hc11 : xnc = (11 : Int32)
                        · have h := if_y h hc11
                          refine lv_tableIn (tgt := 101) (off := 95) hx hb dX0_clock_6 (by rw [hc11]; decide) (by rw [hc11]; decide) (by rw [hc11]; rfl) (by decide) ?_
                          exact k_101 _ _ _ _ _ _ _ _ _ _ _ _ _ _ _ _ _ _ _ _ _ _ _ _ _ _ _ _ hP hD hS (lv_sub hl [1, 2, 3] rfl) h
                        · have h := if_n h hc11
                          by_cases hc12 : xnc = (12 : Int32)
                          · have h := if_y h hc12
                            refine lv_tableIn (tgt := 155) (off := 149) hx hb dX0_clock_6 (by rw [hc12]; decide) (by rw [hc12]; decide) (by rw [hc12]; rfl) (by decide) ?_
                            exact k_155 _ _ _ _ _ _ _ _ _ _ _ _ _ _ _ _ _ _ _ _ _ _ _ _ _ _ _ _ hP hD hS (lv_sub hl [1, 2, 0] rfl) h
                          · have h := if_n h hc12
                            by_cases hc13 : xnc = (13 : Int32)
                            · have h := if_y h hc13
                              refine lv_tableIn (tgt := 155) (off := 149) hx hb dX0_clock_6 (by rw [hc13]; decide) (by rw [hc13]; decide) (by rw [hc13]; rfl) (by decide) ?_
                              exact k_155 _ _ _ _ _ _ _ _ _ _ _ _ _ _ _ _ _ _ _ _ _ _ _ _ _ _ _ _ hP hD hS (lv_sub hl [1, 2, 0] rfl) h
                            · have h := if_n h hc13
                              by_cases hc14 : xnc = (14 : Int32)
                              · have h := if_y h hc14
                                refine lv_tableIn (tgt := 155) (off := 149) hx hb dX0_clock_6 (by rw [hc14]; decide) (by rw [hc14]; decide) (by rw [hc14]; rfl) (by decide) ?_
                                exact k_155 _ _ _ _ _ _ _ _ _ _ _ _ _ _ _ _ _ _ _ _ _ _ _ _ _ _ _ _ hP hD hS (lv_sub hl [1, 2, 0] rfl) h
                              · have h := if_n h hc14
                                by_cases hc15 : xnc = (15 : Int32)
                                · have h := if_y h hc15
                                  refine lv_tableIn (tgt := 130) (off := 124) hx hb dX0_clock_6 (by rw [hc15]; decide) (by rw [hc15]; decide) (by rw [hc15]; rfl) (by decide) ?_
                                  refine lv_aload_n hx hb dX0_clock_130 rfl (lv_at hl 1 rfl) ?_
                                  refine lv_aload_n hx hb dX0_clock_131 rfl (lv_at hl 1 rfl) ?_
                                  refine va_get (D := (dC, dI)) (ci := 0) (v := .int xnr) (C := RX0) (T := TX0) (N := 11) hx hb hts hinX0 hown hK hP 0 rfl rfl 3 (by decide) hf18 (fun _ h9 => h9) rfl dX0_clock_132 ?_
                                  refine va_put (D := (dC, dI)) (ci := 0) (v := .int xnr) (ty := .int) (C := RX0) (T := TX0) (N := 11) hx hb hts hinX0 tyX0 tyX0_ok nmX0 hown hK hP hD hS 0 rfl rfl 2 (by decide) hf15 (fun _ h9 => h9) rfl (by decide +kernel) rfl rfl (Nat.le_of_ble_eq_true rfl) dX0_clock_135 (fun H locs hP hD hS => ?_)
                                  have hP : va_P (dC, dI) vwCl [(aN, .inr (0, [.ref aB, .int xnc, .int xnr, .int xnr, .int xnl, .int xnb, .int xnv, .int xnn, .int xnh, .int xnt, .int xng])), (aB, .inr (1, [.ref aP, .ref aba, .int xbs, .int xbd, .int xbe, .int xbx])), (aba, .inl (kba, 4, .inl xba)), (aP, .inr (2, [.ref apr, .ref apw, .ref apt, .int xpc, .int xrn, .int xca, .int xst, .int xps])), (apr, .inl (kpr, 8, .inl xpr)), (apw, .inl (kpw, 64, .inl xpw)), (apt, .inl (kpt, 2, .inl xpt))] H := hP
                                  have hD : va_D A [(aN, .inr (0, [.ref aB, .int xnc, .int xnr, .int xnr, .int xnl, .int xnb, .int xnv, .int xnn, .int xnh, .int xnt, .int xng])), (aB, .inr (1, [.ref aP, .ref aba, .int xbs, .int xbd, .int xbe, .int xbx])), (aba, .inl (kba, 4, .inl xba)), (aP, .inr (2, [.ref apr, .ref apw, .ref apt, .int xpc, .int xrn, .int xca, .int xst, .int xps])), (apr, .inl (kpr, 8, .inl xpr)), (apw, .inl (kpw, 64, .inl xpw)), (apt, .inl (kpt, 2, .inl xpt))] := hD
                                  refine lv_goto (tgt := 155) hx hb dX0_clock_138 (by decide) ?_
                                  exact k_155 _ _ _ _ _ _ _ _ _ _ _ _ _ _ _ _ _ _ _ _ _ _ _ _ _ _ _ _ hP hD hS (lv_sub hl [1, 2, 0] rfl) h
                                · have h := if_n h hc15
                                  have e0 := lv_neT (a := 0) hc0 (by decide)
                                  have e1 := lv_neT (a := 1) hc1 (by decide)
                                  have e2 := lv_neT (a := 2) hc2 (by decide)
                                  have e3 := lv_neT (a := 3) hc3 (by decide)
                                  have e4 := lv_neT (a := 4) hc4 (by decide)
                                  have e5 := lv_neT (a := 5) hc5 (by decide)
                                  have e6 := lv_neT (a := 6) hc6 (by decide)
                                  have e7 := lv_neT (a := 7) hc7 (by decide)
                                  have e8 := lv_neT (a := 8) hc8 (by decide)
                                  have e9 := lv_neT (a := 9) hc9 (by decide)
                                  have e10 := lv_neT (a := 10) hc10 (by decide)
                                  have e11 := lv_neT (a := 11) hc11 (by decide)
                                  have e12 := lv_neT (a := 12) hc12 (by decide)
                                  have e13 := lv_neT (a := 13) hc13 (by decide)
                                  have e14 := lv_neT (a := 14) hc14 (by decide)
                                  have e15 := lv_neT (a := 15) hc15 (by decide)
                                  refine lv_tableOut (tgt := 155) hx hb dX0_clock_6 (by omega) (by decide) ?_
                                  exact k_155 _ _ _ _ _ _ _ _ _ _ _ _ _ _ _ _ _ _ _ _ _ _ _ _ _ _ _ _ hP hD hS (lv_sub hl [1, 2, 0] rfl) h
