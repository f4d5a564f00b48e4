set_option maxHeartbeats 4000000 in
set_option maxRecDepth 100000 in
theorem ct_K_tick (l : Launch) (dC : Nat → ClassId) (dI : Nat → Nat → Nat) (aK aN aB aba aP apr apw apt : Nat) (kba kpr kpw kpt : ClassId) (aT0 aT1 : Nat) (sz : Nat) (xnc : Int32) (xns : Int32) (xnr : Int32) (xnl : Int32) (xnb : Int32) (xnv : Int32) (xnn : Int32) (xnh : Int32) (xnt : Int32) (xng : Int32) (xba : (Nat → Int32)) (xbs : Int32) (xbd : Int32) (xbe : Int32) (xbx : Int32) (xpr : (Nat → Int32)) (xpw : (Nat → Int32)) (xpt : (Nat → Int32)) (xpc : Int32) (xrn : Int32) (xca : Int32) (xst : Int32) (xps : Int32) (j1 j2 j3 : Int32) (o : Int32 × Int32 × Int32 × Int32 × Int32 × Int32 × Int32 × Int32 × Int32 × Int32 × Int32 × (Nat → Int32) × Int32 × Int32 × Int32 × Int32 × (Nat → Int32) × (Nat → Int32) × (Nat → Int32) × Int32 × Int32 × Int32 × Int32 × Int32) (h : fn_K_tick xnc xns xnr xnl xnb xnv xnn xnh xnt xng xba xbs xbd xbe xbx xpr xpw xpt xpc xrn xca xst xps j1 j2 j3 = some o) : Met l yX3_tick wsX3_tick ({ frames := 6, cells := 0, slots := 0, locals := 134 }) (va_Pc [.ref aK, .int j1, .int j2, .int j3] (fun U => U.heap.size = sz ∧ va_P (dC, dI) vwCl [(aK, .inr (3, [.ref aP, .ref aB, .ref aN])), (aN, .inr (0, [.ref aB, .int xnc, .int xns, .int xnr, .int xnl, .int xnb, .int xnv, .int xnn, .int xnh, .int xnt, .int xng])), (aB, .inr (1, [.ref aP, .ref aba, .int xbs, .int xbd, .int xbe, .int xbx])), (aba, .inl (kba, 4, .inl xba)), (aP, .inr (2, [.ref apr, .ref apw, .ref apt, .int xpc, .int xrn, .int xca, .int xst, .int xps])), (apr, .inl (kpr, 8, .inl xpr)), (apw, .inl (kpw, 64, .inl xpw)), (apt, .inl (kpt, 2, .inl xpt))] U.heap ∧ va_K (dC, dI) vwCl [(kba, .int), (kpr, .int), (kpw, .int), (kpt, .int)] U ∧ va_D (fun _ => True) [(aK, .inr (3, [.ref aP, .ref aB, .ref aN])), (aN, .inr (0, [.ref aB, .int xnc, .int xns, .int xnr, .int xnl, .int xnb, .int xnv, .int xnn, .int xnh, .int xnt, .int xng])), (aB, .inr (1, [.ref aP, .ref aba, .int xbs, .int xbd, .int xbe, .int xbx])), (aba, .inl (kba, 4, .inl xba)), (aP, .inr (2, [.ref apr, .ref apw, .ref apt, .int xpc, .int xrn, .int xca, .int xst, .int xps])), (apr, .inl (kpr, 8, .inl xpr)), (apw, .inl (kpw, 64, .inl xpw)), (apt, .inl (kpt, 2, .inl xpt))] ∧ va_Z RX0 "NEXT_BY_MODE_0" "[I" (.ref aT0) (va_A [(aK, .inr (3, [.ref aP, .ref aB, .ref aN])), (aN, .inr (0, [.ref aB, .int xnc, .int xns, .int xnr, .int xnl, .int xnb, .int xnv, .int xnn, .int xnh, .int xnt, .int xng])), (aB, .inr (1, [.ref aP, .ref aba, .int xbs, .int xbd, .int xbe, .int xbx])), (aba, .inl (kba, 4, .inl xba)), (aP, .inr (2, [.ref apr, .ref apw, .ref apt, .int xpc, .int xrn, .int xca, .int xst, .int xps])), (apr, .inl (kpr, 8, .inl xpr)), (apw, .inl (kpw, 64, .inl xpw)), (apt, .inl (kpt, 2, .inl xpt))] sz) U U.heap ∧ va_T .int aT0 16 (fun j => .int (tb_0 j)) (va_A [(aK, .inr (3, [.ref aP, .ref aB, .ref aN])), (aN, .inr (0, [.ref aB, .int xnc, .int xns, .int xnr, .int xnl, .int xnb, .int xnv, .int xnn, .int xnh, .int xnt, .int xng])), (aB, .inr (1, [.ref aP, .ref aba, .int xbs, .int xbd, .int xbe, .int xbx])), (aba, .inl (kba, 4, .inl xba)), (aP, .inr (2, [.ref apr, .ref apw, .ref apt, .int xpc, .int xrn, .int xca, .int xst, .int xps])), (apr, .inl (kpr, 8, .inl xpr)), (apw, .inl (kpw, 64, .inl xpw)), (apt, .inl (kpt, 2, .inl xpt))] sz) U U.heap ∧ va_Z RX0 "NEXT_BY_MODE_1" "[I" (.ref aT1) (va_A [(aK, .inr (3, [.ref aP, .ref aB, .ref aN])), (aN, .inr (0, [.ref aB, .int xnc, .int xns, .int xnr, .int xnl, .int xnb, .int xnv, .int xnn, .int xnh, .int xnt, .int xng])), (aB, .inr (1, [.ref aP, .ref aba, .int xbs, .int xbd, .int xbe, .int xbx])), (aba, .inl (kba, 4, .inl xba)), (aP, .inr (2, [.ref apr, .ref apw, .ref apt, .int xpc, .int xrn, .int xca, .int xst, .int xps])), (apr, .inl (kpr, 8, .inl xpr)), (apw, .inl (kpw, 64, .inl xpw)), (apt, .inl (kpt, 2, .inl xpt))] sz) U U.heap ∧ va_T .int aT1 16 (fun j => .int (tb_1 j)) (va_A [(aK, .inr (3, [.ref aP, .ref aB, .ref aN])), (aN, .inr (0, [.ref aB, .int xnc, .int xns, .int xnr, .int xnl, .int xnb, .int xnv, .int xnn, .int xnh, .int xnt, .int xng])), (aB, .inr (1, [.ref aP, .ref aba, .int xbs, .int xbd, .int xbe, .int xbx])), (aba, .inl (kba, 4, .inl xba)), (aP, .inr (2, [.ref apr, .ref apw, .ref apt, .int xpc, .int xrn, .int xca, .int xst, .int xps])), (apr, .inl (kpr, 8, .inl xpr)), (apw, .inl (kpw, 64, .inl xpw)), (apt, .inl (kpt, 2, .inl xpt))] sz) U U.heap)) (va_Qi (fun (r : Int32) (u : Int32 × Int32 × Int32 × Int32 × Int32 × Int32 × Int32 × Int32 × Int32 × Int32 × (Nat → Int32) × Int32 × Int32 × Int32 × Int32 × (Nat → Int32) × (Nat → Int32) × (Nat → Int32) × Int32 × Int32 × Int32 × Int32 × Int32) => some (r, u) = some o) (fun (u : Int32 × Int32 × Int32 × Int32 × Int32 × Int32 × Int32 × Int32 × Int32 × Int32 × (Nat → Int32) × Int32 × Int32 × Int32 × Int32 × (Nat → Int32) × (Nat → Int32) × (Nat → Int32) × Int32 × Int32 × Int32 × Int32 × Int32) (t : State) => va_P (dC, dI) vwCl [(aK, .inr (3, [.ref aP, .ref aB, .ref aN])), (aN, .inr (0, [.ref aB, .int u.1, .int u.2.1, .int u.2.2.1, .int u.2.2.2.1, .int u.2.2.2.2.1, .int u.2.2.2.2.2.1, .int u.2.2.2.2.2.2.1, .int u.2.2.2.2.2.2.2.1, .int u.2.2.2.2.2.2.2.2.1, .int u.2.2.2.2.2.2.2.2.2.1])), (aB, .inr (1, [.ref aP, .ref aba, .int u.2.2.2.2.2.2.2.2.2.2.2.1, .int u.2.2.2.2.2.2.2.2.2.2.2.2.1, .int u.2.2.2.2.2.2.2.2.2.2.2.2.2.1, .int u.2.2.2.2.2.2.2.2.2.2.2.2.2.2.1])), (aba, .inl (kba, 4, .inl u.2.2.2.2.2.2.2.2.2.2.1)), (aP, .inr (2, [.ref apr, .ref apw, .ref apt, .int u.2.2.2.2.2.2.2.2.2.2.2.2.2.2.2.2.2.2.1, .int u.2.2.2.2.2.2.2.2.2.2.2.2.2.2.2.2.2.2.2.1, .int u.2.2.2.2.2.2.2.2.2.2.2.2.2.2.2.2.2.2.2.2.1, .int u.2.2.2.2.2.2.2.2.2.2.2.2.2.2.2.2.2.2.2.2.2.1, .int u.2.2.2.2.2.2.2.2.2.2.2.2.2.2.2.2.2.2.2.2.2.2])), (apr, .inl (kpr, 8, .inl u.2.2.2.2.2.2.2.2.2.2.2.2.2.2.2.1)), (apw, .inl (kpw, 64, .inl u.2.2.2.2.2.2.2.2.2.2.2.2.2.2.2.2.1)), (apt, .inl (kpt, 2, .inl u.2.2.2.2.2.2.2.2.2.2.2.2.2.2.2.2.2.1))] t.heap ∧ va_D (va_A [(aK, .inr (3, [.ref aP, .ref aB, .ref aN])), (aN, .inr (0, [.ref aB, .int xnc, .int xns, .int xnr, .int xnl, .int xnb, .int xnv, .int xnn, .int xnh, .int xnt, .int xng])), (aB, .inr (1, [.ref aP, .ref aba, .int xbs, .int xbd, .int xbe, .int xbx])), (aba, .inl (kba, 4, .inl xba)), (aP, .inr (2, [.ref apr, .ref apw, .ref apt, .int xpc, .int xrn, .int xca, .int xst, .int xps])), (apr, .inl (kpr, 8, .inl xpr)), (apw, .inl (kpw, 64, .inl xpw)), (apt, .inl (kpt, 2, .inl xpt))] sz) [(aK, .inr (3, [.ref aP, .ref aB, .ref aN])), (aN, .inr (0, [.ref aB, .int u.1, .int u.2.1, .int u.2.2.1, .int u.2.2.2.1, .int u.2.2.2.2.1, .int u.2.2.2.2.2.1, .int u.2.2.2.2.2.2.1, .int u.2.2.2.2.2.2.2.1, .int u.2.2.2.2.2.2.2.2.1, .int u.2.2.2.2.2.2.2.2.2.1])), (aB, .inr (1, [.ref aP, .ref aba, .int u.2.2.2.2.2.2.2.2.2.2.2.1, .int u.2.2.2.2.2.2.2.2.2.2.2.2.1, .int u.2.2.2.2.2.2.2.2.2.2.2.2.2.1, .int u.2.2.2.2.2.2.2.2.2.2.2.2.2.2.1])), (aba, .inl (kba, 4, .inl u.2.2.2.2.2.2.2.2.2.2.1)), (aP, .inr (2, [.ref apr, .ref apw, .ref apt, .int u.2.2.2.2.2.2.2.2.2.2.2.2.2.2.2.2.2.2.1, .int u.2.2.2.2.2.2.2.2.2.2.2.2.2.2.2.2.2.2.2.1, .int u.2.2.2.2.2.2.2.2.2.2.2.2.2.2.2.2.2.2.2.2.1, .int u.2.2.2.2.2.2.2.2.2.2.2.2.2.2.2.2.2.2.2.2.2.1, .int u.2.2.2.2.2.2.2.2.2.2.2.2.2.2.2.2.2.2.2.2.2.2])), (apr, .inl (kpr, 8, .inl u.2.2.2.2.2.2.2.2.2.2.2.2.2.2.2.1)), (apw, .inl (kpw, 64, .inl u.2.2.2.2.2.2.2.2.2.2.2.2.2.2.2.2.1)), (apt, .inl (kpt, 2, .inl u.2.2.2.2.2.2.2.2.2.2.2.2.2.2.2.2.2.1))]) (va_A [(aK, .inr (3, [.ref aP, .ref aB, .ref aN])), (aN, .inr (0, [.ref aB, .int xnc, .int xns, .int xnr, .int xnl, .int xnb, .int xnv, .int xnn, .int xnh, .int xnt, .int xng])), (aB, .inr (1, [.ref aP, .ref aba, .int xbs, .int xbd, .int xbe, .int xbx])), (aba, .inl (kba, 4, .inl xba)), (aP, .inr (2, [.ref apr, .ref apw, .ref apt, .int xpc, .int xrn, .int xca, .int xst, .int xps])), (apr, .inl (kpr, 8, .inl xpr)), (apw, .inl (kpw, 64, .inl xpw)), (apt, .inl (kpt, 2, .inl xpt))] sz)) 0 0 (va_A [(aK, .inr (3, [.ref aP, .ref aB, .ref aN])), (aN, .inr (0, [.ref aB, .int xnc, .int xns, .int xnr, .int xnl, .int xnb, .int xnv, .int xnn, .int xnh, .int xnt, .int xng])), (aB, .inr (1, [.ref aP, .ref aba, .int xbs, .int xbd, .int xbe, .int xbx])), (aba, .inl (kba, 4, .inl xba)), (aP, .inr (2, [.ref apr, .ref apw, .ref apt, .int xpc, .int xrn, .int xca, .int xst, .int xps])), (apr, .inl (kpr, 8, .inl xpr)), (apw, .inl (kpw, 64, .inl xpw)), (apt, .inl (kpt, 2, .inl xpt))] sz) := by
  refine Met.ofW (cc := cX3_tick) (maxL := 6) (ret := (some .int)) (by decide) rfl ?_
  intro p e s m args below meth c s₁ B hml hv
  obtain ⟨rfl, hsz, hP, hK, hD0, hZ0, hT0, hZ1, hT1⟩ := hv
  have hx := B.exec
  have hb := B.bytes
  have hr := B.returns
  have hts := atoms_spec (ws := wsX3_tick) B.pre
  have hown : s.vm.findClass RX3 = some m.cls := findClass_of_methodNamed B.named
  have hlocks := B.notSynchronized
  subst hsz
  have hD := hD0.self (sz := s.heap.size)
  generalize hAe : va_A [(aK, .inr (3, [.ref aP, .ref aB, .ref aN])), (aN, .inr (0, [.ref aB, .int xnc, .int xns, .int xnr, .int xnl, .int xnb, .int xnv, .int xnn, .int xnh, .int xnt, .int xng])), (aB, .inr (1, [.ref aP, .ref aba, .int xbs, .int xbd, .int xbe, .int xbx])), (aba, .inl (kba, 4, .inl xba)), (aP, .inr (2, [.ref apr, .ref apw, .ref apt, .int xpc, .int xrn, .int xca, .int xst, .int xps])), (apr, .inl (kpr, 8, .inl xpr)), (apw, .inl (kpw, 64, .inl xpw)), (apt, .inl (kpt, 2, .inl xpt))] s.heap.size = A at hD hZ0 hT0 hZ1 hT1 ⊢
  have hA : ∀ q : Nat, s.heap.size ≤ q → A q := fun q h => by rw [← hAe]; exact Or.inr h
  have hS : va_S A s.heap s.heap [] := va_S.rf
  have hP : va_P (dC, dI) vwCl [(aK, .inr (3, [.ref aP, .ref aB, .ref aN])), (aN, .inr (0, [.ref aB, .int xnc, .int xns, .int xnr, .int xnl, .int xnb, .int xnv, .int xnn, .int xnh, .int xnt, .int xng])), (aB, .inr (1, [.ref aP, .ref aba, .int xbs, .int xbd, .int xbe, .int xbx])), (aba, .inl (kba, 4, .inl xba)), (aP, .inr (2, [.ref apr, .ref apw, .ref apt, .int xpc, .int xrn, .int xca, .int xst, .int xps])), (apr, .inl (kpr, 8, .inl xpr)), (apw, .inl (kpw, 64, .inl xpw)), (apt, .inl (kpt, 2, .inl xpt))] s.heap := hP
  have hf30 := hts (.fieldLink RX3 30 "ProbeBench" "pins" "LProbeBench$Pins;") (by decide +kernel)
  have hinX3 : ∀ w ∈ u_ws RX3 TX3 3, w ∈ wsX3_tick := by decide +kernel
  have k_19 : ∀ (n : Nat), ∀ (H : Heap) (locs : List Loc) (ls : Array Slot) (xnc : Int32) (xns : Int32) (xnr : Int32) (xnl : Int32) (xnb : Int32) (xnv : Int32) (xnn : Int32) (xnh : Int32) (xnt : Int32) (xng : Int32) (xba : (Nat → Int32)) (xbs : Int32) (xbd : Int32) (xbe : Int32) (xbx : Int32) (xpr : (Nat → Int32)) (xpw : (Nat → Int32)) (xpt : (Nat → Int32)) (xpc : Int32) (xrn : Int32) (xca : Int32) (xst : Int32) (xps : Int32) (z1 : Int32) (z2 : Int32) (z3 : Int32) (z4 : Int32) (z5 : Int32), va_P (dC, dI) vwCl [(aK, .inr (3, [.ref aP, .ref aB, .ref aN])), (aN, .inr (0, [.ref aB, .int xnc, .int xns, .int xnr, .int xnl, .int xnb, .int xnv, .int xnn, .int xnh, .int xnt, .int xng])), (aB, .inr (1, [.ref aP, .ref aba, .int xbs, .int xbd, .int xbe, .int xbx])), (aba, .inl (kba, 4, .inl xba)), (aP, .inr (2, [.ref apr, .ref apw, .ref apt, .int xpc, .int xrn, .int xca, .int xst, .int xps])), (apr, .inl (kpr, 8, .inl xpr)), (apw, .inl (kpw, 64, .inl xpw)), (apt, .inl (kpt, 2, .inl xpt))] H → va_D A [(aK, .inr (3, [.ref aP, .ref aB, .ref aN])), (aN, .inr (0, [.ref aB, .int xnc, .int xns, .int xnr, .int xnl, .int xnb, .int xnv, .int xnn, .int xnh, .int xnt, .int xng])), (aB, .inr (1, [.ref aP, .ref aba, .int xbs, .int xbd, .int xbe, .int xbx])), (aba, .inl (kba, 4, .inl xba)), (aP, .inr (2, [.ref apr, .ref apw, .ref apt, .int xpc, .int xrn, .int xca, .int xst, .int xps])), (apr, .inl (kpr, 8, .inl xpr)), (apw, .inl (kpw, 64, .inl xpw)), (apt, .inl (kpt, 2, .inl xpt))] → va_S A s.heap H locs → lv_has ls 6 [(0, .ref aK), (1, .int z1), (2, .int z2), (3, .int z3), (4, .int z4), (5, .int z5)] → fn_K_tick_L19 n xnc xns xnr xnl xnb xnv xnn xnh xnt xng xba xbs xbd xbe xbx xpr xpw xpt xpc xrn xca xst xps z1 z2 z3 z4 z5 = some o → W p l e (headSpec wsX3_tick ({ frames := 6, cells := 0, slots := 0, locals := 134 })).room s m ([.ref aK, .int j1, .int j2, .int j3] : List Value).toArray below meth c H locs 0 0 (MQ below (va_Qi (fun (r : Int32) (u : Int32 × Int32 × Int32 × Int32 × Int32 × Int32 × Int32 × Int32 × Int32 × Int32 × (Nat → Int32) × Int32 × Int32 × Int32 × Int32 × (Nat → Int32) × (Nat → Int32) × (Nat → Int32) × Int32 × Int32 × Int32 × Int32 × Int32) => some (r, u) = some o) (fun (u : Int32 × Int32 × Int32 × Int32 × Int32 × Int32 × Int32 × Int32 × Int32 × Int32 × (Nat → Int32) × Int32 × Int32 × Int32 × Int32 × (Nat → Int32) × (Nat → Int32) × (Nat → Int32) × Int32 × Int32 × Int32 × Int32 × Int32) (t : State) => va_P (dC, dI) vwCl [(aK, .inr (3, [.ref aP, .ref aB, .ref aN])), (aN, .inr (0, [.ref aB, .int u.1, .int u.2.1, .int u.2.2.1, .int u.2.2.2.1, .int u.2.2.2.2.1, .int u.2.2.2.2.2.1, .int u.2.2.2.2.2.2.1, .int u.2.2.2.2.2.2.2.1, .int u.2.2.2.2.2.2.2.2.1, .int u.2.2.2.2.2.2.2.2.2.1])), (aB, .inr (1, [.ref aP, .ref aba, .int u.2.2.2.2.2.2.2.2.2.2.2.1, .int u.2.2.2.2.2.2.2.2.2.2.2.2.1, .int u.2.2.2.2.2.2.2.2.2.2.2.2.2.1, .int u.2.2.2.2.2.2.2.2.2.2.2.2.2.2.1])), (aba, .inl (kba, 4, .inl u.2.2.2.2.2.2.2.2.2.2.1)), (aP, .inr (2, [.ref apr, .ref apw, .ref apt, .int u.2.2.2.2.2.2.2.2.2.2.2.2.2.2.2.2.2.2.1, .int u.2.2.2.2.2.2.2.2.2.2.2.2.2.2.2.2.2.2.2.1, .int u.2.2.2.2.2.2.2.2.2.2.2.2.2.2.2.2.2.2.2.2.1, .int u.2.2.2.2.2.2.2.2.2.2.2.2.2.2.2.2.2.2.2.2.2.1, .int u.2.2.2.2.2.2.2.2.2.2.2.2.2.2.2.2.2.2.2.2.2.2])), (apr, .inl (kpr, 8, .inl u.2.2.2.2.2.2.2.2.2.2.2.2.2.2.2.1)), (apw, .inl (kpw, 64, .inl u.2.2.2.2.2.2.2.2.2.2.2.2.2.2.2.2.1)), (apt, .inl (kpt, 2, .inl u.2.2.2.2.2.2.2.2.2.2.2.2.2.2.2.2.2.1))] t.heap ∧ va_D A [(aK, .inr (3, [.ref aP, .ref aB, .ref aN])), (aN, .inr (0, [.ref aB, .int u.1, .int u.2.1, .int u.2.2.1, .int u.2.2.2.1, .int u.2.2.2.2.1, .int u.2.2.2.2.2.1, .int u.2.2.2.2.2.2.1, .int u.2.2.2.2.2.2.2.1, .int u.2.2.2.2.2.2.2.2.1, .int u.2.2.2.2.2.2.2.2.2.1])), (aB, .inr (1, [.ref aP, .ref aba, .int u.2.2.2.2.2.2.2.2.2.2.2.1, .int u.2.2.2.2.2.2.2.2.2.2.2.2.1, .int u.2.2.2.2.2.2.2.2.2.2.2.2.2.1, .int u.2.2.2.2.2.2.2.2.2.2.2.2.2.2.1])), (aba, .inl (kba, 4, .inl u.2.2.2.2.2.2.2.2.2.2.1)), (aP, .inr (2, [.ref apr, .ref apw, .ref apt, .int u.2.2.2.2.2.2.2.2.2.2.2.2.2.2.2.2.2.2.1, .int u.2.2.2.2.2.2.2.2.2.2.2.2.2.2.2.2.2.2.2.1, .int u.2.2.2.2.2.2.2.2.2.2.2.2.2.2.2.2.2.2.2.2.1, .int u.2.2.2.2.2.2.2.2.2.2.2.2.2.2.2.2.2.2.2.2.2.1, .int u.2.2.2.2.2.2.2.2.2.2.2.2.2.2.2.2.2.2.2.2.2.2])), (apr, .inl (kpr, 8, .inl u.2.2.2.2.2.2.2.2.2.2.2.2.2.2.2.1)), (apw, .inl (kpw, 64, .inl u.2.2.2.2.2.2.2.2.2.2.2.2.2.2.2.2.1)), (apt, .inl (kpt, 2, .inl u.2.2.2.2.2.2.2.2.2.2.2.2.2.2.2.2.2.1))]) A) ([.ref aK, .int j1, .int j2, .int j3] : List Value).toArray s 0 0 A) (F0 m 19 ls []) := by
    intro n
    induction n with
    | zero =>
      intro H locs ls xnc xns xnr xnl xnb xnv xnn xnh xnt xng xba xbs xbd xbe xbx xpr xpw xpt xpc xrn xca xst xps z1 z2 z3 z4 z5 hP hD hS hl h
      exact (no_ne h).elim
    | succ n ih =>
      intro H locs ls xnc xns xnr xnl xnb xnv xnn xnh xnt xng xba xbs xbd xbe xbx xpr xpw xpt xpc xrn xca xst xps z1 z2 z3 z4 z5 hP hD hS hl h
      have h : fn_K_tick_B19 (fn_K_tick_L19 n) xnc xns xnr xnl xnb xnv xnn xnh xnt xng xba xbs xbd xbe xbx xpr xpw xpt xpc xrn xca xst xps z1 z2 z3 z4 z5 = some o := h
      unfold fn_K_tick_B19 at h
      refine lv_iload hx hb dX3_tick_19 (lv_at hl 5 rfl) ?_
      refine lv_iload_n hx hb dX3_tick_21 rfl (lv_at hl 1 rfl) ?_
      refine lv_icmp_ge (tgt := 58) hx hb dX3_tick_22 (by decide) (fun hc => ?_) (fun hc => ?_)
      · have h := if_y h hc
        refine lv_iload hx hb dX3_tick_58 (lv_at hl 4 rfl) ?_
        exact W.iret hx hb hr (fun t ht hW => ⟨⟨z4, (xnc, xns, xnr, xnl, xnb, xnv, xnn, xnh, xnt, xng, xba, xbs, xbd, xbe, xbx, xpr, xpw, xpt, xpc, xrn, xca, xst, xps), rfl, h, by rw [ht]; exact hP, hD⟩, hS.F ht⟩) hS.2.2 dX3_tick_60
      · have h := if_n h hc
        refine lv_iload hx hb dX3_tick_25 (lv_at hl 4 rfl) ?_
        refine lv_aload_n hx hb dX3_tick_27 rfl (lv_at hl 0 rfl) ?_
        refine va_get (D := (dC, dI)) (ci := 3) (v := .ref aN) (C := RX3) (T := TX3) (N := 3) hx hb hts hinX3 hown hK hP 0 rfl rfl 2 (by decide) hf30 (fun _ h9 => h9) rfl dX3_tick_28 ?_
        refine lv_iload_n hx hb dX3_tick_31 rfl (lv_at hl 2 rfl) ?_
        refine lv_iload hx hb dX3_tick_32 (lv_at hl 5 rfl) ?_
        refine lv_ishr hx hb dX3_tick_34 ?_
        refine lv_iconst (v := (1 : Int32)) hx hb dX3_tick_35 (by decide) ?_
        refine lv_iand hx hb dX3_tick_36 ?_
        refine lv_iload_n hx hb dX3_tick_37 rfl (lv_at hl 3 rfl) ?_
        refine lv_iload hx hb dX3_tick_38 (lv_at hl 5 rfl) ?_
        refine lv_ishr hx hb dX3_tick_40 ?_
        refine lv_iconst (v := (1 : Int32)) hx hb dX3_tick_41 (by decide) ?_
        refine lv_iand hx hb dX3_tick_42 ?_
        obtain ⟨v43, hv, h⟩ := bn_ex h
        have hPc := hP.sub (ws' := [(aN, .inr (0, [.ref aB, .int xnc, .int xns, .int xnr, .int xnl, .int xnb, .int xnv, .int xnn, .int xnh, .int xnt, .int xng])), (aB, .inr (1, [.ref aP, .ref aba, .int xbs, .int xbd, .int xbe, .int xbx])), (aba, .inl (kba, 4, .inl xba)), (aP, .inr (2, [.ref apr, .ref apw, .ref apt, .int xpc, .int xrn, .int xca, .int xst, .int xps])), (apr, .inl (kpr, 8, .inl xpr)), (apw, .inl (kpw, 64, .inl xpw)), (apt, .inl (kpt, 2, .inl xpt))]) [1, 2, 3, 4, 5, 6, 7] rfl
        have hDc := hD.sub (ws' := [(aN, .inr (0, [.ref aB, .int xnc, .int xns, .int xnr, .int xnl, .int xnb, .int xnv, .int xnn, .int xnh, .int xnt, .int xng])), (aB, .inr (1, [.ref aP, .ref aba, .int xbs, .int xbd, .int xbe, .int xbx])), (aba, .inl (kba, 4, .inl xba)), (aP, .inr (2, [.ref apr, .ref apw, .ref apt, .int xpc, .int xrn, .int xca, .int xst, .int xps])), (apr, .inl (kpr, 8, .inl xpr)), (apw, .inl (kpw, 64, .inl xpw)), (apt, .inl (kpt, 2, .inl xpt))]) [1, 2, 3, 4, 5, 6, 7] (by decide) rfl
        have hKc := hK.sub (tys' := [(kba, .int), (kpr, .int), (kpw, .int), (kpt, .int)]) [0, 1, 2, 3] rfl
        have hFc := va_free (wc := [(aN, .inr (0, [.ref aB, .int xnc, .int xns, .int xnr, .int xnl, .int xnb, .int xnv, .int xnn, .int xnh, .int xnt, .int xng])), (aB, .inr (1, [.ref aP, .ref aba, .int xbs, .int xbd, .int xbe, .int xbx])), (aba, .inl (kba, 4, .inl xba)), (aP, .inr (2, [.ref apr, .ref apw, .ref apt, .int xpc, .int xrn, .int xca, .int xst, .int xps])), (apr, .inl (kpr, 8, .inl xpr)), (apw, .inl (kpw, 64, .inl xpw)), (apt, .inl (kpt, 2, .inl xpt))]) hD hS hA [1, 2, 3, 4, 5, 6, 7] rfl
        refine va_calli (va_runV (As := [.int ((z2 >>> (z5 &&& (31 : Int32))) &&& (1 : Int32)), .int ((z3 >>> (z5 &&& (31 : Int32))) &&& (1 : Int32))]) (rest := [.int z4]) ⟨hx, hb, hml, hown, hts⟩ (ct_N_clock l dC dI aN aB aba aP apr apw apt kba kpr kpw kpt aT0 aT1 H.size xnc xns xnr xnl xnb xnv xnn xnh xnt xng xba xbs xbd xbe xbx xpr xpw xpt xpc xrn xca xst xps ((z2 >>> (z5 &&& (31 : Int32))) &&& (1 : Int32)) ((z3 >>> (z5 &&& (31 : Int32))) &&& (1 : Int32)) v43 hv) (cwV 2 hts gX3_tick_X0_clock rfl rfl rfl (by decide +kernel) ⟨Nat.le_of_ble_eq_true rfl, Nat.le_of_ble_eq_true rfl⟩) ⟨fun a U g mk q => by obtain ⟨q0, q1, qP, qK, qD, qZ0, qT0, qZ1, qT1⟩ := q; exact ⟨q0, q1, qP, va_K.moved (u := U) (U := U.calling g mk a) (Vm.Alike.refl U.vm) qK, qD, va_Z.moved (u := U) (U := U.calling g mk a) (Vm.Alike.refl U.vm) qZ0, va_T.moved (u := U) (U := U.calling g mk a) (Vm.Alike.refl U.vm) qT0, va_Z.moved (u := U) (U := U.calling g mk a) (Vm.Alike.refl U.vm) qZ1, va_T.moved (u := U) (U := U.calling g mk a) (Vm.Alike.refl U.vm) qT1⟩, va_recv (ci := 0) (q0 := 1) hK hP rfl rfl, fun U hU hW => ⟨rfl, by rw [hU], by rw [hU]; exact hPc, va_K.moved hW.alike hKc, hDc.weaken (fun _ _ _ _ => trivial), by rw [hU]; exact va_Z.moved hW.alike ((hZ0.kept hS.2.1).narrow hFc), by rw [hU]; exact va_T.moved hW.alike ((hT0.kept hS.2.1).narrow hFc), by rw [hU]; exact va_Z.moved hW.alike ((hZ1.kept hS.2.1).narrow hFc), by rw [hU]; exact va_T.moved hW.alike ((hT1.kept hS.2.1).narrow hFc)⟩⟩ rfl rfl hl.1 rfl (lv_room (Nat.le_of_ble_eq_true rfl)) dX3_tick_43 ⟨Nat.zero_le _, Nat.zero_le _⟩) hS (fun q _ h => hFc q h) hFc (fun r u t H locs ht hvm hw hB hz1 hk1 hS => ?_)
        obtain ⟨rfl, rfl⟩ := pr_2 hw
        obtain ⟨hP1, hD1⟩ := hB
        rw [ht] at hP1
        obtain ⟨hP, hD⟩ := va_join (wr := [(aK, .inr (3, [.ref aP, .ref aB, .ref aN]))]) (w1 := [(aN, .inr (0, [.ref aB, .int v43.2.1, .int v43.2.2.1, .int v43.2.2.2.1, .int v43.2.2.2.2.1, .int v43.2.2.2.2.2.1, .int v43.2.2.2.2.2.2.1, .int v43.2.2.2.2.2.2.2.1, .int v43.2.2.2.2.2.2.2.2.1, .int v43.2.2.2.2.2.2.2.2.2.1, .int v43.2.2.2.2.2.2.2.2.2.2.1])), (aB, .inr (1, [.ref aP, .ref aba, .int v43.2.2.2.2.2.2.2.2.2.2.2.2.1, .int v43.2.2.2.2.2.2.2.2.2.2.2.2.2.1, .int v43.2.2.2.2.2.2.2.2.2.2.2.2.2.2.1, .int v43.2.2.2.2.2.2.2.2.2.2.2.2.2.2.2.1])), (aba, .inl (kba, 4, .inl v43.2.2.2.2.2.2.2.2.2.2.2.1)), (aP, .inr (2, [.ref apr, .ref apw, .ref apt, .int v43.2.2.2.2.2.2.2.2.2.2.2.2.2.2.2.2.2.2.2.1, .int v43.2.2.2.2.2.2.2.2.2.2.2.2.2.2.2.2.2.2.2.2.1, .int v43.2.2.2.2.2.2.2.2.2.2.2.2.2.2.2.2.2.2.2.2.2.1, .int v43.2.2.2.2.2.2.2.2.2.2.2.2.2.2.2.2.2.2.2.2.2.2.1, .int v43.2.2.2.2.2.2.2.2.2.2.2.2.2.2.2.2.2.2.2.2.2.2.2])), (apr, .inl (kpr, 8, .inl v43.2.2.2.2.2.2.2.2.2.2.2.2.2.2.2.2.1)), (apw, .inl (kpw, 64, .inl v43.2.2.2.2.2.2.2.2.2.2.2.2.2.2.2.2.2.1)), (apt, .inl (kpt, 2, .inl v43.2.2.2.2.2.2.2.2.2.2.2.2.2.2.2.2.2.2.1))]) hP hD [1, 2, 3, 4, 5, 6, 7] [0] rfl rfl (by decide) (by decide) hk1 hFc hP1 hD1
        have hP : va_P (dC, dI) vwCl [(aK, .inr (3, [.ref aP, .ref aB, .ref aN])), (aN, .inr (0, [.ref aB, .int v43.2.1, .int v43.2.2.1, .int v43.2.2.2.1, .int v43.2.2.2.2.1, .int v43.2.2.2.2.2.1, .int v43.2.2.2.2.2.2.1, .int v43.2.2.2.2.2.2.2.1, .int v43.2.2.2.2.2.2.2.2.1, .int v43.2.2.2.2.2.2.2.2.2.1, .int v43.2.2.2.2.2.2.2.2.2.2.1])), (aB, .inr (1, [.ref aP, .ref aba, .int v43.2.2.2.2.2.2.2.2.2.2.2.2.1, .int v43.2.2.2.2.2.2.2.2.2.2.2.2.2.1, .int v43.2.2.2.2.2.2.2.2.2.2.2.2.2.2.1, .int v43.2.2.2.2.2.2.2.2.2.2.2.2.2.2.2.1])), (aba, .inl (kba, 4, .inl v43.2.2.2.2.2.2.2.2.2.2.2.1)), (aP, .inr (2, [.ref apr, .ref apw, .ref apt, .int v43.2.2.2.2.2.2.2.2.2.2.2.2.2.2.2.2.2.2.2.1, .int v43.2.2.2.2.2.2.2.2.2.2.2.2.2.2.2.2.2.2.2.2.1, .int v43.2.2.2.2.2.2.2.2.2.2.2.2.2.2.2.2.2.2.2.2.2.1, .int v43.2.2.2.2.2.2.2.2.2.2.2.2.2.2.2.2.2.2.2.2.2.2.1, .int v43.2.2.2.2.2.2.2.2.2.2.2.2.2.2.2.2.2.2.2.2.2.2.2])), (apr, .inl (kpr, 8, .inl v43.2.2.2.2.2.2.2.2.2.2.2.2.2.2.2.2.1)), (apw, .inl (kpw, 64, .inl v43.2.2.2.2.2.2.2.2.2.2.2.2.2.2.2.2.2.1)), (apt, .inl (kpt, 2, .inl v43.2.2.2.2.2.2.2.2.2.2.2.2.2.2.2.2.2.2.1))] H := hP
        have hD : va_D A [(aK, .inr (3, [.ref aP, .ref aB, .ref aN])), (aN, .inr (0, [.ref aB, .int v43.2.1, .int v43.2.2.1, .int v43.2.2.2.1, .int v43.2.2.2.2.1, .int v43.2.2.2.2.2.1, .int v43.2.2.2.2.2.2.1, .int v43.2.2.2.2.2.2.2.1, .int v43.2.2.2.2.2.2.2.2.1, .int v43.2.2.2.2.2.2.2.2.2.1, .int v43.2.2.2.2.2.2.2.2.2.2.1])), (aB, .inr (1, [.ref aP, .ref aba, .int v43.2.2.2.2.2.2.2.2.2.2.2.2.1, .int v43.2.2.2.2.2.2.2.2.2.2.2.2.2.1, .int v43.2.2.2.2.2.2.2.2.2.2.2.2.2.2.1, .int v43.2.2.2.2.2.2.2.2.2.2.2.2.2.2.2.1])), (aba, .inl (kba, 4, .inl v43.2.2.2.2.2.2.2.2.2.2.2.1)), (aP, .inr (2, [.ref apr, .ref apw, .ref apt, .int v43.2.2.2.2.2.2.2.2.2.2.2.2.2.2.2.2.2.2.2.1, .int v43.2.2.2.2.2.2.2.2.2.2.2.2.2.2.2.2.2.2.2.2.1, .int v43.2.2.2.2.2.2.2.2.2.2.2.2.2.2.2.2.2.2.2.2.2.1, .int v43.2.2.2.2.2.2.2.2.2.2.2.2.2.2.2.2.2.2.2.2.2.2.1, .int v43.2.2.2.2.2.2.2.2.2.2.2.2.2.2.2.2.2.2.2.2.2.2.2])), (apr, .inl (kpr, 8, .inl v43.2.2.2.2.2.2.2.2.2.2.2.2.2.2.2.2.1)), (apw, .inl (kpw, 64, .inl v43.2.2.2.2.2.2.2.2.2.2.2.2.2.2.2.2.2.1)), (apt, .inl (kpt, 2, .inl v43.2.2.2.2.2.2.2.2.2.2.2.2.2.2.2.2.2.2.1))] := hD
        refine lv_iload hx hb dX3_tick_46 (lv_at hl 5 rfl) ?_
        refine lv_ishl hx hb dX3_tick_48 ?_
        refine lv_ior hx hb dX3_tick_49 ?_
        refine lv_istore hx hb dX3_tick_50 hl (by decide) rfl (fun ls hl => ?_)
        have hl : lv_has ls 6 [(4, .int (z4 ||| (v43.1 <<< (z5 &&& (31 : Int32))))), (0, .ref aK), (1, .int z1), (2, .int z2), (3, .int z3), (5, .int z5)] := hl
        refine lv_iinc (k := 5) (v := (z5 + (1 : Int32))) hx hb dX3_tick_52 hl rfl (ik_p1 _) (by decide) rfl (fun ls hl => ?_)
        have hl : lv_has ls 6 [(5, .int (z5 + (1 : Int32))), (4, .int (z4 ||| (v43.1 <<< (z5 &&& (31 : Int32))))), (0, .ref aK), (1, .int z1), (2, .int z2), (3, .int z3)] := hl
        refine lv_goto (tgt := 19) hx hb dX3_tick_55 (by decide) ?_
        exact ih _ _ _ _ _ _ _ _ _ _ _ _ _ _ _ _ _ _ _ _ _ _ _ _ _ _ _ _ _ _ _ hP hD hS (lv_sub hl [2, 3, 4, 5, 1, 0] rfl) h
  have hl := lv_entry ([.ref aK, .int j1, .int j2, .int j3]) (n := 6) (Nat.le_of_ble_eq_true rfl)
  rw [lg_entry_eq]
  generalize (lg_sl ([.ref aK, .int j1, .int j2, .int j3]) ++ List.replicate (6 - (lg_sl ([.ref aK, .int j1, .int j2, .int j3])).length) Slot.unset).toArray = ls at hl ⊢
  have hl : lv_has ls 6 [(0, .ref aK), (1, .int j1), (2, .int j2), (3, .int j3)] := hl
  unfold fn_K_tick at h
  refine lv_iload_n hx hb dX3_tick_0 rfl (lv_at hl 1 rfl) ?_
  refine lv_iconst (v := (1 : Int32)) hx hb dX3_tick_1 (by decide) ?_
  refine lv_icmp_lt (tgt := 11) hx hb dX3_tick_2 (by decide) (fun hc => ?_) (fun hc => ?_)
  · have h := if_y h hc
    refine lv_iconst (v := (-1 : Int32)) hx hb dX3_tick_11 (by decide) ?_
    exact W.iret hx hb hr (fun t ht hW => ⟨⟨(-1 : Int32), (xnc, xns, xnr, xnl, xnb, xnv, xnn, xnh, xnt, xng, xba, xbs, xbd, xbe, xbx, xpr, xpw, xpt, xpc, xrn, xca, xst, xps), rfl, h, by rw [ht]; exact hP, hD⟩, hS.F ht⟩) hS.2.2 dX3_tick_12
  · have h := if_n h hc
    refine lv_iload_n hx hb dX3_tick_5 rfl (lv_at hl 1 rfl) ?_
    refine lv_bipush (v := (24 : Int32)) hx hb dX3_tick_6 (by decide) ?_
    refine lv_icmp_le (tgt := 13) hx hb dX3_tick_8 (by decide) (fun hc => ?_) (fun hc => ?_)
    · have h := if_y h hc
      refine lv_iconst (v := (0 : Int32)) hx hb dX3_tick_13 (by decide) ?_
      refine lv_istore hx hb dX3_tick_14 hl (by decide) rfl (fun ls hl => ?_)
      have hl : lv_has ls 6 [(4, .int (0 : Int32)), (0, .ref aK), (1, .int j1), (2, .int j2), (3, .int j3)] := hl
      refine lv_iconst (v := (0 : Int32)) hx hb dX3_tick_16 (by decide) ?_
      refine lv_istore hx hb dX3_tick_17 hl (by decide) rfl (fun ls hl => ?_)
      have hl : lv_has ls 6 [(5, .int (0 : Int32)), (4, .int (0 : Int32)), (0, .ref aK), (1, .int j1), (2, .int j2), (3, .int j3)] := hl
      exact k_19 64 _ _ _ _ _ _ _ _ _ _ _ _ _ _ _ _ _ _ _ _ _ _ _ _ _ _ _ _ _ _ _ hP hD hS (lv_sub hl [2, 3, 4, 5, 1, 0] rfl) h
    · have h := if_n h hc
      refine lv_iconst (v := (-1 : Int32)) hx hb dX3_tick_11 (by decide) ?_
      exact W.iret hx hb hr (fun t ht hW => ⟨⟨(-1 : Int32), (xnc, xns, xnr, xnl, xnb, xnv, xnn, xnh, xnt, xng, xba, xbs, xbd, xbe, xbx, xpr, xpw, xpt, xpc, xrn, xca, xst, xps), rfl, h, by rw [ht]; exact hP, hD⟩, hS.F ht⟩) hS.2.2 dX3_tick_12
set_option maxHeartbeats 4000000 in
set_option maxRecDepth 100000 in
theorem ct_K_run (l : Launch) (dC : Nat → ClassId) (dI : Nat → Nat → Nat) (aK aP apr apw apt aB aN : Nat) (kpr kpw kpt : ClassId) (sz : Nat) (xpr : (Nat → Int32)) (xpw : (Nat → Int32)) (xpt : (Nat → Int32)) (xpc : Int32) (xrn : Int32) (xca : Int32) (xst : Int32) (xps : Int32) (j1 : Int32) (o : Int32 × (Nat → Int32) × (Nat → Int32) × Int32 × Int32 × Int32 × Int32 × Int32) (h : fn_K_run xpr xpw xpt xpc xrn xca xst xps j1 = some o) : Met l yX3_run wsX3_run ({ frames := 2, cells := 0, slots := 0, locals := 47 }) (va_Pc [.ref aK, .int j1] (fun U => U.heap.size = sz ∧ va_P (dC, dI) vwCl [(aK, .inr (3, [.ref aP, .ref aB, .ref aN])), (aP, .inr (2, [.ref apr, .ref apw, .ref apt, .int xpc, .int xrn, .int xca, .int xst, .int xps])), (apr, .inl (kpr, 8, .inl xpr)), (apw, .inl (kpw, 64, .inl xpw)), (apt, .inl (kpt, 2, .inl xpt))] U.heap ∧ va_K (dC, dI) vwCl [(kpr, .int), (kpw, .int), (kpt, .int)] U ∧ va_D (fun _ => True) [(aK, .inr (3, [.ref aP, .ref aB, .ref aN])), (aP, .inr (2, [.ref apr, .ref apw, .ref apt, .int xpc, .int xrn, .int xca, .int xst, .int xps])), (apr, .inl (kpr, 8, .inl xpr)), (apw, .inl (kpw, 64, .inl xpw)), (apt, .inl (kpt, 2, .inl xpt))])) (va_Qi (fun (r : Int32) (u : (Nat → Int32) × (Nat → Int32) × Int32 × Int32 × Int32 × Int32 × Int32) => some (r, u) = some o) (fun (u : (Nat → Int32) × (Nat → Int32) × Int32 × Int32 × Int32 × Int32 × Int32) (t : State) => va_P (dC, dI) vwCl [(aK, .inr (3, [.ref aP, .ref aB, .ref aN])), (aP, .inr (2, [.ref apr, .ref apw, .ref apt, .int u.2.2.1, .int u.2.2.2.1, .int u.2.2.2.2.1, .int u.2.2.2.2.2.1, .int u.2.2.2.2.2.2])), (apr, .inl (kpr, 8, .inl u.1)), (apw, .inl (kpw, 64, .inl u.2.1)), (apt, .inl (kpt, 2, .inl xpt))] t.heap ∧ va_D (va_A [(aK, .inr (3, [.ref aP, .ref aB, .ref aN])), (aP, .inr (2, [.ref apr, .ref apw, .ref apt, .int xpc, .int xrn, .int xca, .int xst, .int xps])), (apr, .inl (kpr, 8, .inl xpr)), (apw, .inl (kpw, 64, .inl xpw)), (apt, .inl (kpt, 2, .inl xpt))] sz) [(aK, .inr (3, [.ref aP, .ref aB, .ref aN])), (aP, .inr (2, [.ref apr, .ref apw, .ref apt, .int u.2.2.1, .int u.2.2.2.1, .int u.2.2.2.2.1, .int u.2.2.2.2.2.1, .int u.2.2.2.2.2.2])), (apr, .inl (kpr, 8, .inl u.1)), (apw, .inl (kpw, 64, .inl u.2.1)), (apt, .inl (kpt, 2, .inl xpt))]) (va_A [(aK, .inr (3, [.ref aP, .ref aB, .ref aN])), (aP, .inr (2, [.ref apr, .ref apw, .ref apt, .int xpc, .int xrn, .int xca, .int xst, .int xps])), (apr, .inl (kpr, 8, .inl xpr)), (apw, .inl (kpw, 64, .inl xpw)), (apt, .inl (kpt, 2, .inl xpt))] sz)) 0 0 (va_A [(aK, .inr (3, [.ref aP, .ref aB, .ref aN])), (aP, .inr (2, [.ref apr, .ref apw, .ref apt, .int xpc, .int xrn, .int xca, .int xst, .int xps])), (apr, .inl (kpr, 8, .inl xpr)), (apw, .inl (kpw, 64, .inl xpw)), (apt, .inl (kpt, 2, .inl xpt))] sz) := by
  refine Met.ofW (cc := cX3_run) (maxL := 3) (ret := (some .int)) (by decide) rfl ?_
  intro p e s m args below meth c s₁ B hml hv
  obtain ⟨rfl, hsz, hP, hK, hD0⟩ := hv
  have hx := B.exec
  have hb := B.bytes
  have hr := B.returns
  have hts := atoms_spec (ws := wsX3_run) B.pre
  have hown : s.vm.findClass RX3 = some m.cls := findClass_of_methodNamed B.named
  have hlocks := B.notSynchronized
  subst hsz
  have hD := hD0.self (sz := s.heap.size)
  generalize hAe : va_A [(aK, .inr (3, [.ref aP, .ref aB, .ref aN])), (aP, .inr (2, [.ref apr, .ref apw, .ref apt, .int xpc, .int xrn, .int xca, .int xst, .int xps])), (apr, .inl (kpr, 8, .inl xpr)), (apw, .inl (kpw, 64, .inl xpw)), (apt, .inl (kpt, 2, .inl xpt))] s.heap.size = A at hD ⊢
  have hA : ∀ q : Nat, s.heap.size ≤ q → A q := fun q h => by rw [← hAe]; exact Or.inr h
  have hS : va_S A s.heap s.heap [] := va_S.rf
  have hP : va_P (dC, dI) vwCl [(aK, .inr (3, [.ref aP, .ref aB, .ref aN])), (aP, .inr (2, [.ref apr, .ref apw, .ref apt, .int xpc, .int xrn, .int xca, .int xst, .int xps])), (apr, .inl (kpr, 8, .inl xpr)), (apw, .inl (kpw, 64, .inl xpw)), (apt, .inl (kpt, 2, .inl xpt))] s.heap := hP
  have hf10 := hts (.fieldLink RX3 10 "ProbeBench" "processor" "LProbeBench$Processor;") (by decide +kernel)
  have hf38 := hts (.fieldLink RX3 38 "ProbeBench$Processor" "running" "Z") (by decide +kernel)
  have hinX2 : ∀ w ∈ u_ws RX2 TX2 8, w ∈ wsX3_run := by decide +kernel
  have hinX3 : ∀ w ∈ u_ws RX3 TX3 3, w ∈ wsX3_run := by decide +kernel
  have k_15 : ∀ (n : Nat), ∀ (H : Heap) (locs : List Loc) (ls : Array Slot) (xpr : (Nat → Int32)) (xpw : (Nat → Int32)) (xpc : Int32) (xrn : Int32) (xca : Int32) (xst : Int32) (xps : Int32) (z1 : Int32) (z2 : Int32), va_P (dC, dI) vwCl [(aK, .inr (3, [.ref aP, .ref aB, .ref aN])), (aP, .inr (2, [.ref apr, .ref apw, .ref apt, .int xpc, .int xrn, .int xca, .int xst, .int xps])), (apr, .inl (kpr, 8, .inl xpr)), (apw, .inl (kpw, 64, .inl xpw)), (apt, .inl (kpt, 2, .inl xpt))] H → va_D A [(aK, .inr (3, [.ref aP, .ref aB, .ref aN])), (aP, .inr (2, [.ref apr, .ref apw, .ref apt, .int xpc, .int xrn, .int xca, .int xst, .int xps])), (apr, .inl (kpr, 8, .inl xpr)), (apw, .inl (kpw, 64, .inl xpw)), (apt, .inl (kpt, 2, .inl xpt))] → va_S A s.heap H locs → lv_has ls 3 [(0, .ref aK), (1, .int z1), (2, .int z2)] → fn_K_run_L15 n xpr xpw xpt xpc xrn xca xst xps z1 z2 = some o → W p l e (headSpec wsX3_run ({ frames := 2, cells := 0, slots := 0, locals := 47 })).room s m ([.ref aK, .int j1] : List Value).toArray below meth c H locs 0 0 (MQ below (va_Qi (fun (r : Int32) (u : (Nat → Int32) × (Nat → Int32) × Int32 × Int32 × Int32 × Int32 × Int32) => some (r, u) = some o) (fun (u : (Nat → Int32) × (Nat → Int32) × Int32 × Int32 × Int32 × Int32 × Int32) (t : State) => va_P (dC, dI) vwCl [(aK, .inr (3, [.ref aP, .ref aB, .ref aN])), (aP, .inr (2, [.ref apr, .ref apw, .ref apt, .int u.2.2.1, .int u.2.2.2.1, .int u.2.2.2.2.1, .int u.2.2.2.2.2.1, .int u.2.2.2.2.2.2])), (apr, .inl (kpr, 8, .inl u.1)), (apw, .inl (kpw, 64, .inl u.2.1)), (apt, .inl (kpt, 2, .inl xpt))] t.heap ∧ va_D A [(aK, .inr (3, [.ref aP, .ref aB, .ref aN])), (aP, .inr (2, [.ref apr, .ref apw, .ref apt, .int u.2.2.1, .int u.2.2.2.1, .int u.2.2.2.2.1, .int u.2.2.2.2.2.1, .int u.2.2.2.2.2.2])), (apr, .inl (kpr, 8, .inl u.1)), (apw, .inl (kpw, 64, .inl u.2.1)), (apt, .inl (kpt, 2, .inl xpt))]) A) ([.ref aK, .int j1] : List Value).toArray s 0 0 A) (F0 m 15 ls []) := by
    intro n
    induction n with
    | zero =>
      intro H locs ls xpr xpw xpc xrn xca xst xps z1 z2 hP hD hS hl h
      exact (no_ne h).elim
    | succ n ih =>
      intro H locs ls xpr xpw xpc xrn xca xst xps z1 z2 hP hD hS hl h
      have h : fn_K_run_B15 (fn_K_run_L15 n) xpr xpw xpt xpc xrn xca xst xps z1 z2 = some o := h
      unfold fn_K_run_B15 at h
      refine lv_iload_n hx hb dX3_run_15 rfl (lv_at hl 2 rfl) ?_
      refine lv_iload_n hx hb dX3_run_16 rfl (lv_at hl 1 rfl) ?_
      refine lv_icmp_ge (tgt := 46) hx hb dX3_run_17 (by decide) (fun hc => ?_) (fun hc => ?_)
      · have h := if_y h hc
        refine lv_iload_n hx hb dX3_run_46 rfl (lv_at hl 2 rfl) ?_
        exact W.iret hx hb hr (fun t ht hW => ⟨⟨z2, (xpr, xpw, xpc, xrn, xca, xst, xps), rfl, h, by rw [ht]; exact hP, hD⟩, hS.F ht⟩) hS.2.2 dX3_run_47
      · have h := if_n h hc
        refine lv_aload_n hx hb dX3_run_20 rfl (lv_at hl 0 rfl) ?_
        refine va_get (D := (dC, dI)) (ci := 3) (v := .ref aP) (C := RX3) (T := TX3) (N := 3) hx hb hts hinX3 hown hK hP 0 rfl rfl 0 (by decide) hf10 (fun _ h9 => h9) rfl dX3_run_21 ?_
        refine va_get (D := (dC, dI)) (ci := 2) (v := .int xrn) (C := RX2) (T := TX2) (N := 8) hx hb hts hinX2 hown hK hP 1 rfl rfl 4 (by decide) hf38 (fun _ h9 => h9) rfl dX3_run_24 ?_
        refine lv_if_eq (tgt := 46) hx hb dX3_run_27 (by decide) (fun hc => ?_) (fun hc => ?_)
        · have h := if_y h hc
          refine lv_iload_n hx hb dX3_run_46 rfl (lv_at hl 2 rfl) ?_
          exact W.iret hx hb hr (fun t ht hW => ⟨⟨z2, (xpr, xpw, xpc, xrn, xca, xst, xps), rfl, h, by rw [ht]; exact hP, hD⟩, hS.F ht⟩) hS.2.2 dX3_run_47
        · have h := if_n h hc
          refine lv_aload_n hx hb dX3_run_30 rfl (lv_at hl 0 rfl) ?_
          refine va_get (D := (dC, dI)) (ci := 3) (v := .ref aP) (C := RX3) (T := TX3) (N := 3) hx hb hts hinX3 hown hK hP 0 rfl rfl 0 (by decide) hf10 (fun _ h9 => h9) rfl dX3_run_31 ?_
          obtain ⟨v34, hv, h⟩ := bn_ex h
          have hPc := hP.sub (ws' := [(aP, .inr (2, [.ref apr, .ref apw, .ref apt, .int xpc, .int xrn, .int xca, .int xst, .int xps])), (apr, .inl (kpr, 8, .inl xpr)), (apw, .inl (kpw, 64, .inl xpw)), (apt, .inl (kpt, 2, .inl xpt))]) [1, 2, 3, 4] rfl
          have hDc := hD.sub (ws' := [(aP, .inr (2, [.ref apr, .ref apw, .ref apt, .int xpc, .int xrn, .int xca, .int xst, .int xps])), (apr, .inl (kpr, 8, .inl xpr)), (apw, .inl (kpw, 64, .inl xpw)), (apt, .inl (kpt, 2, .inl xpt))]) [1, 2, 3, 4] (by decide) rfl
          have hKc := hK.sub (tys' := [(kpr, .int), (kpw, .int), (kpt, .int)]) [0, 1, 2] rfl
          have hFc := va_free (wc := [(aP, .inr (2, [.ref apr, .ref apw, .ref apt, .int xpc, .int xrn, .int xca, .int xst, .int xps])), (apr, .inl (kpr, 8, .inl xpr)), (apw, .inl (kpw, 64, .inl xpw)), (apt, .inl (kpt, 2, .inl xpt))]) hD hS hA [1, 2, 3, 4] rfl
          refine va_calli (va_runV (As := []) (rest := []) ⟨hx, hb, hml, hown, hts⟩ (ct_P_advance l dC dI aP apr apw apt kpr kpw kpt H.size xpr xpw xpt xpc xrn xca xst xps v34 hv) (cwV 0 hts gX3_run_X2_advance rfl rfl rfl (by decide +kernel) ⟨Nat.le_of_ble_eq_true rfl, Nat.le_of_ble_eq_true rfl⟩) ⟨fun a U g mk q => by obtain ⟨q0, q1, qP, qK, qD⟩ := q; exact ⟨q0, q1, qP, va_K.moved (u := U) (U := U.calling g mk a) (Vm.Alike.refl U.vm) qK, qD⟩, va_recv (ci := 2) (q0 := 1) hK hP rfl rfl, fun U hU hW => ⟨rfl, by rw [hU], by rw [hU]; exact hPc, va_K.moved hW.alike hKc, hDc.weaken (fun _ _ _ _ => trivial)⟩⟩ rfl rfl hl.1 rfl (lv_room (Nat.le_of_ble_eq_true rfl)) dX3_run_34 ⟨Nat.zero_le _, Nat.zero_le _⟩) hS (fun q _ h => hFc q h) hFc (fun r u t H locs ht hvm hw hB hz1 hk1 hS => ?_)
          obtain ⟨rfl, rfl⟩ := pr_2 hw
          obtain ⟨hP1, hD1⟩ := hB
          rw [ht] at hP1
          obtain ⟨hP, hD⟩ := va_join (wr := [(aK, .inr (3, [.ref aP, .ref aB, .ref aN]))]) (w1 := [(aP, .inr (2, [.ref apr, .ref apw, .ref apt, .int v34.2.2.2.1, .int v34.2.2.2.2.1, .int v34.2.2.2.2.2.1, .int v34.2.2.2.2.2.2.1, .int v34.2.2.2.2.2.2.2])), (apr, .inl (kpr, 8, .inl v34.2.1)), (apw, .inl (kpw, 64, .inl v34.2.2.1)), (apt, .inl (kpt, 2, .inl xpt))]) hP hD [1, 2, 3, 4] [0] rfl rfl (by decide) (by decide) hk1 hFc hP1 hD1
          have hP : va_P (dC, dI) vwCl [(aK, .inr (3, [.ref aP, .ref aB, .ref aN])), (aP, .inr (2, [.ref apr, .ref apw, .ref apt, .int v34.2.2.2.1, .int v34.2.2.2.2.1, .int v34.2.2.2.2.2.1, .int v34.2.2.2.2.2.2.1, .int v34.2.2.2.2.2.2.2])), (apr, .inl (kpr, 8, .inl v34.2.1)), (apw, .inl (kpw, 64, .inl v34.2.2.1)), (apt, .inl (kpt, 2, .inl xpt))] H := hP
          have hD : va_D A [(aK, .inr (3, [.ref aP, .ref aB, .ref aN])), (aP, .inr (2, [.ref apr, .ref apw, .ref apt, .int v34.2.2.2.1, .int v34.2.2.2.2.1, .int v34.2.2.2.2.2.1, .int v34.2.2.2.2.2.2.1, .int v34.2.2.2.2.2.2.2])), (apr, .inl (kpr, 8, .inl v34.2.1)), (apw, .inl (kpw, 64, .inl v34.2.2.1)), (apt, .inl (kpt, 2, .inl xpt))] := hD
          refine lv_if_eq (tgt := 46) hx hb dX3_run_37 (by decide) (fun hc => ?_) (fun hc => ?_)
          · have h := if_y h hc
            refine lv_iload_n hx hb dX3_run_46 rfl (lv_at hl 2 rfl) ?_
            exact W.iret hx hb hr (fun t ht hW => ⟨⟨z2, (v34.2.1, v34.2.2.1, v34.2.2.2.1, v34.2.2.2.2.1, v34.2.2.2.2.2.1, v34.2.2.2.2.2.2.1, v34.2.2.2.2.2.2.2), rfl, h, by rw [ht]; exact hP, hD⟩, hS.F ht⟩) hS.2.2 dX3_run_47
          · have h := if_n h hc
            refine lv_iinc (k := 2) (v := (z2 + (1 : Int32))) hx hb dX3_run_40 hl rfl (ik_p1 _) (by decide) rfl (fun ls hl => ?_)
            have hl : lv_has ls 3 [(2, .int (z2 + (1 : Int32))), (0, .ref aK), (1, .int z1)] := hl
            refine lv_goto (tgt := 15) hx hb dX3_run_43 (by decide) ?_
            exact ih _ _ _ _ _ _ _ _ _ _ _ _ hP hD hS (lv_sub hl [1, 2, 0] rfl) h
  have hl := lv_entry ([.ref aK, .int j1]) (n := 3) (Nat.le_of_ble_eq_true rfl)
  rw [lg_entry_eq]
  generalize (lg_sl ([.ref aK, .int j1]) ++ List.replicate (3 - (lg_sl ([.ref aK, .int j1])).length) Slot.unset).toArray = ls at hl ⊢
  have hl : lv_has ls 3 [(0, .ref aK), (1, .int j1)] := hl
  unfold fn_K_run at h
  refine lv_iload_n hx hb dX3_run_0 rfl (lv_at hl 1 rfl) ?_
  refine lv_iconst (v := (1 : Int32)) hx hb dX3_run_1 (by decide) ?_
  refine lv_icmp_lt (tgt := 11) hx hb dX3_run_2 (by decide) (fun hc => ?_) (fun hc => ?_)
  · have h := if_y h hc
    refine lv_iconst (v := (-1 : Int32)) hx hb dX3_run_11 (by decide) ?_
    exact W.iret hx hb hr (fun t ht hW => ⟨⟨(-1 : Int32), (xpr, xpw, xpc, xrn, xca, xst, xps), rfl, h, by rw [ht]; exact hP, hD⟩, hS.F ht⟩) hS.2.2 dX3_run_12
  · have h := if_n h hc
    refine lv_iload_n hx hb dX3_run_5 rfl (lv_at hl 1 rfl) ?_
    refine lv_bipush (v := (50 : Int32)) hx hb dX3_run_6 (by decide) ?_
    refine lv_icmp_le (tgt := 13) hx hb dX3_run_8 (by decide) (fun hc => ?_) (fun hc => ?_)
    · have h := if_y h hc
      refine lv_iconst (v := (0 : Int32)) hx hb dX3_run_13 (by decide) ?_
      refine lv_istore_n hx hb dX3_run_14 rfl hl (by decide) rfl (fun ls hl => ?_)
      have hl : lv_has ls 3 [(2, .int (0 : Int32)), (0, .ref aK), (1, .int j1)] := hl
      exact k_15 64 _ _ _ _ _ _ _ _ _ _ _ _ hP hD hS (lv_sub hl [1, 2, 0] rfl) h
    · have h := if_n h hc
      refine lv_iconst (v := (-1 : Int32)) hx hb dX3_run_11 (by decide) ?_
      exact W.iret hx hb hr (fun t ht hW => ⟨⟨(-1 : Int32), (xpr, xpw, xpc, xrn, xca, xst, xps), rfl, h, by rw [ht]; exact hP, hD⟩, hS.F ht⟩) hS.2.2 dX3_run_12
set_option maxHeartbeats 4000000 in
set_option maxRecDepth 100000 in
theorem ct_K_read (l : Launch) (dC : Nat → ClassId) (dI : Nat → Nat → Nat) (aK aB aba aP apr apw apt aN : Nat) (kba kpr kpw kpt : ClassId) (sz : Nat) (xba : (Nat → Int32)) (xbs : Int32) (xbd : Int32) (xbe : Int32) (xbx : Int32) (xpr : (Nat → Int32)) (xpw : (Nat → Int32)) (xpt : (Nat → Int32)) (xpc : Int32) (xrn : Int32) (xca : Int32) (xst : Int32) (xps : Int32) (j1 : Int32) (o : Int32 × Int32) (h : fn_K_read xba xbs xbd xbe xbx xpw xpt xpc xrn xca j1 = some o) : Met l yX3_read wsX3_read ({ frames := 2, cells := 0, slots := 0, locals := 42 }) (va_Pc [.ref aK, .int j1] (fun U => U.heap.size = sz ∧ va_P (dC, dI) vwCl [(aK, .inr (3, [.ref aP, .ref aB, .ref aN])), (aB, .inr (1, [.ref aP, .ref aba, .int xbs, .int xbd, .int xbe, .int xbx])), (aba, .inl (kba, 4, .inl xba)), (aP, .inr (2, [.ref apr, .ref apw, .ref apt, .int xpc, .int xrn, .int xca, .int xst, .int xps])), (apr, .inl (kpr, 8, .inl xpr)), (apw, .inl (kpw, 64, .inl xpw)), (apt, .inl (kpt, 2, .inl xpt))] U.heap ∧ va_K (dC, dI) vwCl [(kba, .int), (kpr, .int), (kpw, .int), (kpt, .int)] U ∧ va_D (fun _ => True) [(aK, .inr (3, [.ref aP, .ref aB, .ref aN])), (aB, .inr (1, [.ref aP, .ref aba, .int xbs, .int xbd, .int xbe, .int xbx])), (aba, .inl (kba, 4, .inl xba)), (aP, .inr (2, [.ref apr, .ref apw, .ref apt, .int xpc, .int xrn, .int xca, .int xst, .int xps])), (apr, .inl (kpr, 8, .inl xpr)), (apw, .inl (kpw, 64, .inl xpw)), (apt, .inl (kpt, 2, .inl xpt))])) (va_Qi (fun (r : Int32) (u : Int32) => some (r, u) = some o) (fun (u : Int32) (t : State) => va_P (dC, dI) vwCl [(aK, .inr (3, [.ref aP, .ref aB, .ref aN])), (aB, .inr (1, [.ref aP, .ref aba, .int xbs, .int xbd, .int xbe, .int u])), (aba, .inl (kba, 4, .inl xba)), (aP, .inr (2, [.ref apr, .ref apw, .ref apt, .int xpc, .int xrn, .int xca, .int xst, .int xps])), (apr, .inl (kpr, 8, .inl xpr)), (apw, .inl (kpw, 64, .inl xpw)), (apt, .inl (kpt, 2, .inl xpt))] t.heap ∧ va_D (va_A [(aK, .inr (3, [.ref aP, .ref aB, .ref aN])), (aB, .inr (1, [.ref aP, .ref aba, .int xbs, .int xbd, .int xbe, .int xbx])), (aba, .inl (kba, 4, .inl xba)), (aP, .inr (2, [.ref apr, .ref apw, .ref apt, .int xpc, .int xrn, .int xca, .int xst, .int xps])), (apr, .inl (kpr, 8, .inl xpr)), (apw, .inl (kpw, 64, .inl xpw)), (apt, .inl (kpt, 2, .inl xpt))] sz) [(aK, .inr (3, [.ref aP, .ref aB, .ref aN])), (aB, .inr (1, [.ref aP, .ref aba, .int xbs, .int xbd, .int xbe, .int u])), (aba, .inl (kba, 4, .inl xba)), (aP, .inr (2, [.ref apr, .ref apw, .ref apt, .int xpc, .int xrn, .int xca, .int xst, .int xps])), (apr, .inl (kpr, 8, .inl xpr)), (apw, .inl (kpw, 64, .inl xpw)), (apt, .inl (kpt, 2, .inl xpt))]) (va_A [(aK, .inr (3, [.ref aP, .ref aB, .ref aN])), (aB, .inr (1, [.ref aP, .ref aba, .int xbs, .int xbd, .int xbe, .int xbx])), (aba, .inl (kba, 4, .inl xba)), (aP, .inr (2, [.ref apr, .ref apw, .ref apt, .int xpc, .int xrn, .int xca, .int xst, .int xps])), (apr, .inl (kpr, 8, .inl xpr)), (apw, .inl (kpw, 64, .inl xpw)), (apt, .inl (kpt, 2, .inl xpt))] sz)) 0 0 (va_A [(aK, .inr (3, [.ref aP, .ref aB, .ref aN])), (aB, .inr (1, [.ref aP, .ref aba, .int xbs, .int xbd, .int xbe, .int xbx])), (aba, .inl (kba, 4, .inl xba)), (aP, .inr (2, [.ref apr, .ref apw, .ref apt, .int xpc, .int xrn, .int xca, .int xst, .int xps])), (apr, .inl (kpr, 8, .inl xpr)), (apw, .inl (kpw, 64, .inl xpw)), (apt, .inl (kpt, 2, .inl xpt))] sz) := by
  refine Met.ofW (cc := cX3_read) (maxL := 2) (ret := (some .int)) (by decide) rfl ?_
  intro p e s m args below meth c s₁ B hml hv
  obtain ⟨rfl, hsz, hP, hK, hD0⟩ := hv
  have hx := B.exec
  have hb := B.bytes
  have hr := B.returns
  have hts := atoms_spec (ws := wsX3_read) B.pre
  have hown : s.vm.findClass RX3 = some m.cls := findClass_of_methodNamed B.named
  have hlocks := B.notSynchronized
  subst hsz
  have hD := hD0.self (sz := s.heap.size)
  generalize hAe : va_A [(aK, .inr (3, [.ref aP, .ref aB, .ref aN])), (aB, .inr (1, [.ref aP, .ref aba, .int xbs, .int xbd, .int xbe, .int xbx])), (aba, .inl (kba, 4, .inl xba)), (aP, .inr (2, [.ref apr, .ref apw, .ref apt, .int xpc, .int xrn, .int xca, .int xst, .int xps])), (apr, .inl (kpr, 8, .inl xpr)), (apw, .inl (kpw, 64, .inl xpw)), (apt, .inl (kpt, 2, .inl xpt))] s.heap.size = A at hD ⊢
  have hA : ∀ q : Nat, s.heap.size ≤ q → A q := fun q h => by rw [← hAe]; exact Or.inr h
  have hS : va_S A s.heap s.heap [] := va_S.rf
  have hP : va_P (dC, dI) vwCl [(aK, .inr (3, [.ref aP, .ref aB, .ref aN])), (aB, .inr (1, [.ref aP, .ref aba, .int xbs, .int xbd, .int xbe, .int xbx])), (aba, .inl (kba, 4, .inl xba)), (aP, .inr (2, [.ref apr, .ref apw, .ref apt, .int xpc, .int xrn, .int xca, .int xst, .int xps])), (apr, .inl (kpr, 8, .inl xpr)), (apw, .inl (kpw, 64, .inl xpw)), (apt, .inl (kpt, 2, .inl xpt))] s.heap := hP
  have hf21 := hts (.fieldLink RX3 21 "ProbeBench" "probe" "LProbeBench$Probe;") (by decide +kernel)
  have hinX3 : ∀ w ∈ u_ws RX3 TX3 3, w ∈ wsX3_read := by decide +kernel
  have hl := lv_entry ([.ref aK, .int j1]) (n := 2) (Nat.le_of_ble_eq_true rfl)
  rw [lg_entry_eq]
  generalize (lg_sl ([.ref aK, .int j1]) ++ List.replicate (2 - (lg_sl ([.ref aK, .int j1])).length) Slot.unset).toArray = ls at hl ⊢
  have hl : lv_has ls 2 [(0, .ref aK), (1, .int j1)] := hl
  unfold fn_K_read at h
  refine lv_iload_n hx hb dX3_read_0 rfl (lv_at hl 1 rfl) ?_
  obtain ⟨v1, hv, h⟩ := bn_ex h
  have hPc := hP.sub (ws' := []) [] rfl
  have hDc := hD.sub (ws' := []) [] (by decide) rfl
  have hKc := hK.sub (tys' := []) [] rfl
  have hFc := va_free (wc := []) hD hS hA [] rfl
  refine va_calli (va_runS (As := [.int j1]) (rest := []) ⟨hx, hb, hml, hown, hts⟩ (ct_B_hasRegister l dC dI  s.heap.size  j1 v1 hv) (va_cwS 1 hts gX3_read_X1_hasRegister rfl rfl rfl (by decide +kernel) ⟨Nat.le_of_ble_eq_true rfl, Nat.le_of_ble_eq_true rfl⟩) ⟨fun a U g mk q => by obtain ⟨q0, q1, qP, qK, qD⟩ := q; exact ⟨q0, q1, qP, va_K.moved (u := U) (U := U.calling g mk a) (Vm.Alike.refl U.vm) qK, qD⟩, fun U hU hW => ⟨rfl, by rw [hU], by rw [hU]; exact hPc, va_K.moved hW.alike hKc, hDc.weaken (fun _ _ _ _ => trivial)⟩⟩ rfl rfl hl.1 rfl (lv_room (Nat.le_of_ble_eq_true rfl)) dX3_read_1 ⟨Nat.zero_le _, Nat.zero_le _⟩) hS (fun q _ h => hFc q h) hFc (fun r u t H locs ht hvm hw hB hz1 hk1 hS => ?_)
  obtain rfl := pr_0 hw
  obtain ⟨hP1, hD1⟩ := hB
  rw [ht] at hP1
  obtain ⟨hP, hD⟩ := va_join (wr := [(aK, .inr (3, [.ref aP, .ref aB, .ref aN])), (aB, .inr (1, [.ref aP, .ref aba, .int xbs, .int xbd, .int xbe, .int xbx])), (aba, .inl (kba, 4, .inl xba)), (aP, .inr (2, [.ref apr, .ref apw, .ref apt, .int xpc, .int xrn, .int xca, .int xst, .int xps])), (apr, .inl (kpr, 8, .inl xpr)), (apw, .inl (kpw, 64, .inl xpw)), (apt, .inl (kpt, 2, .inl xpt))]) (w1 := []) hP hD [] [0, 1, 2, 3, 4, 5, 6] rfl rfl (by decide) (by decide) hk1 hFc hP1 hD1
  have hP : va_P (dC, dI) vwCl [(aK, .inr (3, [.ref aP, .ref aB, .ref aN])), (aB, .inr (1, [.ref aP, .ref aba, .int xbs, .int xbd, .int xbe, .int xbx])), (aba, .inl (kba, 4, .inl xba)), (aP, .inr (2, [.ref apr, .ref apw, .ref apt, .int xpc, .int xrn, .int xca, .int xst, .int xps])), (apr, .inl (kpr, 8, .inl xpr)), (apw, .inl (kpw, 64, .inl xpw)), (apt, .inl (kpt, 2, .inl xpt))] H := hP
  have hD : va_D A [(aK, .inr (3, [.ref aP, .ref aB, .ref aN])), (aB, .inr (1, [.ref aP, .ref aba, .int xbs, .int xbd, .int xbe, .int xbx])), (aba, .inl (kba, 4, .inl xba)), (aP, .inr (2, [.ref apr, .ref apw, .ref apt, .int xpc, .int xrn, .int xca, .int xst, .int xps])), (apr, .inl (kpr, 8, .inl xpr)), (apw, .inl (kpw, 64, .inl xpw)), (apt, .inl (kpt, 2, .inl xpt))] := hD
  refine lv_if_eq (tgt := 18) hx hb dX3_read_4 (by decide) (fun hc => ?_) (fun hc => ?_)
  · have h := if_y h hc
    refine lv_iconst (v := (-1 : Int32)) hx hb dX3_read_18 (by decide) ?_
    exact W.iret hx hb hr (fun t ht hW => ⟨⟨(-1 : Int32), xbx, rfl, h, by rw [ht]; exact hP, hD⟩, hS.F ht⟩) hS.2.2 dX3_read_19
  · have h := if_n h hc
    refine lv_aload_n hx hb dX3_read_7 rfl (lv_at hl 0 rfl) ?_
    refine va_get (D := (dC, dI)) (ci := 3) (v := .ref aB) (C := RX3) (T := TX3) (N := 3) hx hb hts hinX3 hown hK hP 0 rfl rfl 1 (by decide) hf21 (fun _ h9 => h9) rfl dX3_read_8 ?_
    refine lv_iload_n hx hb dX3_read_11 rfl (lv_at hl 1 rfl) ?_
    obtain ⟨v12, hv, h⟩ := bn_ex h
    have hPc := hP.sub (ws' := [(aB, .inr (1, [.ref aP, .ref aba, .int xbs, .int xbd, .int xbe, .int xbx])), (aba, .inl (kba, 4, .inl xba)), (aP, .inr (2, [.ref apr, .ref apw, .ref apt, .int xpc, .int xrn, .int xca, .int xst, .int xps])), (apr, .inl (kpr, 8, .inl xpr)), (apw, .inl (kpw, 64, .inl xpw)), (apt, .inl (kpt, 2, .inl xpt))]) [1, 2, 3, 4, 5, 6] rfl
    have hDc := hD.sub (ws' := [(aB, .inr (1, [.ref aP, .ref aba, .int xbs, .int xbd, .int xbe, .int xbx])), (aba, .inl (kba, 4, .inl xba)), (aP, .inr (2, [.ref apr, .ref apw, .ref apt, .int xpc, .int xrn, .int xca, .int xst, .int xps])), (apr, .inl (kpr, 8, .inl xpr)), (apw, .inl (kpw, 64, .inl xpw)), (apt, .inl (kpt, 2, .inl xpt))]) [1, 2, 3, 4, 5, 6] (by decide) rfl
    have hKc := hK.sub (tys' := [(kba, .int), (kpr, .int), (kpw, .int), (kpt, .int)]) [0, 1, 2, 3] rfl
    have hFc := va_free (wc := [(aB, .inr (1, [.ref aP, .ref aba, .int xbs, .int xbd, .int xbe, .int xbx])), (aba, .inl (kba, 4, .inl xba)), (aP, .inr (2, [.ref apr, .ref apw, .ref apt, .int xpc, .int xrn, .int xca, .int xst, .int xps])), (apr, .inl (kpr, 8, .inl xpr)), (apw, .inl (kpw, 64, .inl xpw)), (apt, .inl (kpt, 2, .inl xpt))]) hD hS hA [1, 2, 3, 4, 5, 6] rfl
    refine va_calli (va_runV (As := [.int j1]) (rest := []) ⟨hx, hb, hml, hown, hts⟩ (ct_B_fetch l dC dI aB aba aP apr apw apt kba kpr kpw kpt H.size xba xbs xbd xbe xbx xpr xpw xpt xpc xrn xca xst xps j1 v12 hv) (cwV 1 hts gX3_read_X1_fetch rfl rfl rfl (by decide +kernel) ⟨Nat.le_of_ble_eq_true rfl, Nat.le_of_ble_eq_true rfl⟩) ⟨fun a U g mk q => by obtain ⟨q0, q1, qP, qK, qD⟩ := q; exact ⟨q0, q1, qP, va_K.moved (u := U) (U := U.calling g mk a) (Vm.Alike.refl U.vm) qK, qD⟩, va_recv (ci := 1) (q0 := 1) hK hP rfl rfl, fun U hU hW => ⟨rfl, by rw [hU], by rw [hU]; exact hPc, va_K.moved hW.alike hKc, hDc.weaken (fun _ _ _ _ => trivial)⟩⟩ rfl rfl hl.1 rfl (lv_room (Nat.le_of_ble_eq_true rfl)) dX3_read_12 ⟨Nat.zero_le _, Nat.zero_le _⟩) hS (fun q _ h => hFc q h) hFc (fun r u t H locs ht hvm hw hB hz1 hk1 hS => ?_)
    obtain ⟨rfl, rfl⟩ := pr_2 hw
    obtain ⟨hP1, hD1⟩ := hB
    rw [ht] at hP1
    obtain ⟨hP, hD⟩ := va_join (wr := [(aK, .inr (3, [.ref aP, .ref aB, .ref aN]))]) (w1 := [(aB, .inr (1, [.ref aP, .ref aba, .int xbs, .int xbd, .int xbe, .int v12.2])), (aba, .inl (kba, 4, .inl xba)), (aP, .inr (2, [.ref apr, .ref apw, .ref apt, .int xpc, .int xrn, .int xca, .int xst, .int xps])), (apr, .inl (kpr, 8, .inl xpr)), (apw, .inl (kpw, 64, .inl xpw)), (apt, .inl (kpt, 2, .inl xpt))]) hP hD [1, 2, 3, 4, 5, 6] [0] rfl rfl (by decide) (by decide) hk1 hFc hP1 hD1
    have hP : va_P (dC, dI) vwCl [(aK, .inr (3, [.ref aP, .ref aB, .ref aN])), (aB, .inr (1, [.ref aP, .ref aba, .int xbs, .int xbd, .int xbe, .int v12.2])), (aba, .inl (kba, 4, .inl xba)), (aP, .inr (2, [.ref apr, .ref apw, .ref apt, .int xpc, .int xrn, .int xca, .int xst, .int xps])), (apr, .inl (kpr, 8, .inl xpr)), (apw, .inl (kpw, 64, .inl xpw)), (apt, .inl (kpt, 2, .inl xpt))] H := hP
    have hD : va_D A [(aK, .inr (3, [.ref aP, .ref aB, .ref aN])), (aB, .inr (1, [.ref aP, .ref aba, .int xbs, .int xbd, .int xbe, .int v12.2])), (aba, .inl (kba, 4, .inl xba)), (aP, .inr (2, [.ref apr, .ref apw, .ref apt, .int xpc, .int xrn, .int xca, .int xst, .int xps])), (apr, .inl (kpr, 8, .inl xpr)), (apw, .inl (kpw, 64, .inl xpw)), (apt, .inl (kpt, 2, .inl xpt))] := hD
    refine lv_goto (tgt := 19) hx hb dX3_read_15 (by decide) ?_
    exact W.iret hx hb hr (fun t ht hW => ⟨⟨v12.1, v12.2, rfl, h, by rw [ht]; exact hP, hD⟩, hS.F ht⟩) hS.2.2 dX3_read_19
set_option maxHeartbeats 4000000 in
set_option maxRecDepth 100000 in
theorem ct_K_write (l : Launch) (dC : Nat → ClassId) (dI : Nat → Nat → Nat) (aK aB aba aP apr apw apt aN : Nat) (kba kpr kpw kpt : ClassId) (sz : Nat) (xba : (Nat → Int32)) (xbs : Int32) (xbd : Int32) (xbe : Int32) (xbx : Int32) (xpr : (Nat → Int32)) (xpw : (Nat → Int32)) (xpt : (Nat → Int32)) (xpc : Int32) (xrn : Int32) (xca : Int32) (xst : Int32) (xps : Int32) (j1 j2 : Int32) (o : Int32 × (Nat → Int32) × Int32 × Int32 × Int32 × Int32 × (Nat → Int32) × (Nat → Int32) × (Nat → Int32) × Int32 × Int32 × Int32 × Int32 × Int32) (h : fn_K_write xba xbs xbd xbe xbx xpr xpw xpt xpc xrn xca xst xps j1 j2 = some o) : Met l yX3_write wsX3_write ({ frames := 4, cells := 0, slots := 0, locals := 90 }) (va_Pc [.ref aK, .int j1, .int j2] (fun U => U.heap.size = sz ∧ va_P (dC, dI) vwCl [(aK, .inr (3, [.ref aP, .ref aB, .ref aN])), (aB, .inr (1, [.ref aP, .ref aba, .int xbs, .int xbd, .int xbe, .int xbx])), (aba, .inl (kba, 4, .inl xba)), (aP, .inr (2, [.ref apr, .ref apw, .ref apt, .int xpc, .int xrn, .int xca, .int xst, .int xps])), (apr, .inl (kpr, 8, .inl xpr)), (apw, .inl (kpw, 64, .inl xpw)), (apt, .inl (kpt, 2, .inl xpt))] U.heap ∧ va_K (dC, dI) vwCl [(kba, .int), (kpr, .int), (kpw, .int), (kpt, .int)] U ∧ va_D (fun _ => True) [(aK, .inr (3, [.ref aP, .ref aB, .ref aN])), (aB, .inr (1, [.ref aP, .ref aba, .int xbs, .int xbd, .int xbe, .int xbx])), (aba, .inl (kba, 4, .inl xba)), (aP, .inr (2, [.ref apr, .ref apw, .ref apt, .int xpc, .int xrn, .int xca, .int xst, .int xps])), (apr, .inl (kpr, 8, .inl xpr)), (apw, .inl (kpw, 64, .inl xpw)), (apt, .inl (kpt, 2, .inl xpt))])) (va_Qi (fun (r : Int32) (u : (Nat → Int32) × Int32 × Int32 × Int32 × Int32 × (Nat → Int32) × (Nat → Int32) × (Nat → Int32) × Int32 × Int32 × Int32 × Int32 × Int32) => some (r, u) = some o) (fun (u : (Nat → Int32) × Int32 × Int32 × Int32 × Int32 × (Nat → Int32) × (Nat → Int32) × (Nat → Int32) × Int32 × Int32 × Int32 × Int32 × Int32) (t : State) => va_P (dC, dI) vwCl [(aK, .inr (3, [.ref aP, .ref aB, .ref aN])), (aB, .inr (1, [.ref aP, .ref aba, .int u.2.1, .int u.2.2.1, .int u.2.2.2.1, .int u.2.2.2.2.1])), (aba, .inl (kba, 4, .inl u.1)), (aP, .inr (2, [.ref apr, .ref apw, .ref apt, .int u.2.2.2.2.2.2.2.2.1, .int u.2.2.2.2.2.2.2.2.2.1, .int u.2.2.2.2.2.2.2.2.2.2.1, .int u.2.2.2.2.2.2.2.2.2.2.2.1, .int u.2.2.2.2.2.2.2.2.2.2.2.2])), (apr, .inl (kpr, 8, .inl u.2.2.2.2.2.1)), (apw, .inl (kpw, 64, .inl u.2.2.2.2.2.2.1)), (apt, .inl (kpt, 2, .inl u.2.2.2.2.2.2.2.1))] t.heap ∧ va_D (va_A [(aK, .inr (3, [.ref aP, .ref aB, .ref aN])), (aB, .inr (1, [.ref aP, .ref aba, .int xbs, .int xbd, .int xbe, .int xbx])), (aba, .inl (kba, 4, .inl xba)), (aP, .inr (2, [.ref apr, .ref apw, .ref apt, .int xpc, .int xrn, .int xca, .int xst, .int xps])), (apr, .inl (kpr, 8, .inl xpr)), (apw, .inl (kpw, 64, .inl xpw)), (apt, .inl (kpt, 2, .inl xpt))] sz) [(aK, .inr (3, [.ref aP, .ref aB, .ref aN])), (aB, .inr (1, [.ref aP, .ref aba, .int u.2.1, .int u.2.2.1, .int u.2.2.2.1, .int u.2.2.2.2.1])), (aba, .inl (kba, 4, .inl u.1)), (aP, .inr (2, [.ref apr, .ref apw, .ref apt, .int u.2.2.2.2.2.2.2.2.1, .int u.2.2.2.2.2.2.2.2.2.1, .int u.2.2.2.2.2.2.2.2.2.2.1, .int u.2.2.2.2.2.2.2.2.2.2.2.1, .int u.2.2.2.2.2.2.2.2.2.2.2.2])), (apr, .inl (kpr, 8, .inl u.2.2.2.2.2.1)), (apw, .inl (kpw, 64, .inl u.2.2.2.2.2.2.1)), (apt, .inl (kpt, 2, .inl u.2.2.2.2.2.2.2.1))]) (va_A [(aK, .inr (3, [.ref aP, .ref aB, .ref aN])), (aB, .inr (1, [.ref aP, .ref aba, .int xbs, .int xbd, .int xbe, .int xbx])), (aba, .inl (kba, 4, .inl xba)), (aP, .inr (2, [.ref apr, .ref apw, .ref apt, .int xpc, .int xrn, .int xca, .int xst, .int xps])), (apr, .inl (kpr, 8, .inl xpr)), (apw, .inl (kpw, 64, .inl xpw)), (apt, .inl (kpt, 2, .inl xpt))] sz)) 0 0 (va_A [(aK, .inr (3, [.ref aP, .ref aB, .ref aN])), (aB, .inr (1, [.ref aP, .ref aba, .int xbs, .int xbd, .int xbe, .int xbx])), (aba, .inl (kba, 4, .inl xba)), (aP, .inr (2, [.ref apr, .ref apw, .ref apt, .int xpc, .int xrn, .int xca, .int xst, .int xps])), (apr, .inl (kpr, 8, .inl xpr)), (apw, .inl (kpw, 64, .inl xpw)), (apt, .inl (kpt, 2, .inl xpt))] sz) := by
  refine Met.ofW (cc := cX3_write) (maxL := 3) (ret := (some .boolean)) (by decide) rfl ?_
  intro p e s m args below meth c s₁ B hml hv
  obtain ⟨rfl, hsz, hP, hK, hD0⟩ := hv
  have hx := B.exec
  have hb := B.bytes
  have hr := B.returns
  have hts := atoms_spec (ws := wsX3_write) B.pre
  have hown : s.vm.findClass RX3 = some m.cls := findClass_of_methodNamed B.named
  have hlocks := B.notSynchronized
  subst hsz
  have hD := hD0.self (sz := s.heap.size)
  generalize hAe : va_A [(aK, .inr (3, [.ref aP, .ref aB, .ref aN])), (aB, .inr (1, [.ref aP, .ref aba, .int xbs, .int xbd, .int xbe, .int xbx])), (aba, .inl (kba, 4, .inl xba)), (aP, .inr (2, [.ref apr, .ref apw, .ref apt, .int xpc, .int xrn, .int xca, .int xst, .int xps])), (apr, .inl (kpr, 8, .inl xpr)), (apw, .inl (kpw, 64, .inl xpw)), (apt, .inl (kpt, 2, .inl xpt))] s.heap.size = A at hD ⊢
  have hA : ∀ q : Nat, s.heap.size ≤ q → A q := fun q h => by rw [← hAe]; exact Or.inr h
  have hS : va_S A s.heap s.heap [] := va_S.rf
  have hP : va_P (dC, dI) vwCl [(aK, .inr (3, [.ref aP, .ref aB, .ref aN])), (aB, .inr (1, [.ref aP, .ref aba, .int xbs, .int xbd, .int xbe, .int xbx])), (aba, .inl (kba, 4, .inl xba)), (aP, .inr (2, [.ref apr, .ref apw, .ref apt, .int xpc, .int xrn, .int xca, .int xst, .int xps])), (apr, .inl (kpr, 8, .inl xpr)), (apw, .inl (kpw, 64, .inl xpw)), (apt, .inl (kpt, 2, .inl xpt))] s.heap := hP
  have hc54 := hts (.constant RX3 54 (65535 : Int32)) (by decide +kernel)
  have hf21 := hts (.fieldLink RX3 21 "ProbeBench" "probe" "LProbeBench$Probe;") (by decide +kernel)
  have hinX3 : ∀ w ∈ u_ws RX3 TX3 3, w ∈ wsX3_write := by decide +kernel
  have hl := lv_entry ([.ref aK, .int j1, .int j2]) (n := 3) (Nat.le_of_ble_eq_true rfl)
  rw [lg_entry_eq]
  generalize (lg_sl ([.ref aK, .int j1, .int j2]) ++ List.replicate (3 - (lg_sl ([.ref aK, .int j1, .int j2])).length) Slot.unset).toArray = ls at hl ⊢
  have hl : lv_has ls 3 [(0, .ref aK), (1, .int j1), (2, .int j2)] := hl
  unfold fn_K_write at h
  refine lv_iload_n hx hb dX3_write_0 rfl (lv_at hl 1 rfl) ?_
  obtain ⟨v1, hv, h⟩ := bn_ex h
  have hPc := hP.sub (ws' := []) [] rfl
  have hDc := hD.sub (ws' := []) [] (by decide) rfl
  have hKc := hK.sub (tys' := []) [] rfl
  have hFc := va_free (wc := []) hD hS hA [] rfl
  refine va_calli (va_runS (As := [.int j1]) (rest := []) ⟨hx, hb, hml, hown, hts⟩ (ct_B_hasRegister l dC dI  s.heap.size  j1 v1 hv) (va_cwS 1 hts gX3_write_X1_hasRegister rfl rfl rfl (by decide +kernel) ⟨Nat.le_of_ble_eq_true rfl, Nat.le_of_ble_eq_true rfl⟩) ⟨fun a U g mk q => by obtain ⟨q0, q1, qP, qK, qD⟩ := q; exact ⟨q0, q1, qP, va_K.moved (u := U) (U := U.calling g mk a) (Vm.Alike.refl U.vm) qK, qD⟩, fun U hU hW => ⟨rfl, by rw [hU], by rw [hU]; exact hPc, va_K.moved hW.alike hKc, hDc.weaken (fun _ _ _ _ => trivial)⟩⟩ rfl rfl hl.1 rfl (lv_room (Nat.le_of_ble_eq_true rfl)) dX3_write_1 ⟨Nat.zero_le _, Nat.zero_le _⟩) hS (fun q _ h => hFc q h) hFc (fun r u t H locs ht hvm hw hB hz1 hk1 hS => ?_)
  obtain rfl := pr_0 hw
  obtain ⟨hP1, hD1⟩ := hB
  rw [ht] at hP1
  obtain ⟨hP, hD⟩ := va_join (wr := [(aK, .inr (3, [.ref aP, .ref aB, .ref aN])), (aB, .inr (1, [.ref aP, .ref aba, .int xbs, .int xbd, .int xbe, .int xbx])), (aba, .inl (kba, 4, .inl xba)), (aP, .inr (2, [.ref apr, .ref apw, .ref apt, .int xpc, .int xrn, .int xca, .int xst, .int xps])), (apr, .inl (kpr, 8, .inl xpr)), (apw, .inl (kpw, 64, .inl xpw)), (apt, .inl (kpt, 2, .inl xpt))]) (w1 := []) hP hD [] [0, 1, 2, 3, 4, 5, 6] rfl rfl (by decide) (by decide) hk1 hFc hP1 hD1
  have hP : va_P (dC, dI) vwCl [(aK, .inr (3, [.ref aP, .ref aB, .ref aN])), (aB, .inr (1, [.ref aP, .ref aba, .int xbs, .int xbd, .int xbe, .int xbx])), (aba, .inl (kba, 4, .inl xba)), (aP, .inr (2, [.ref apr, .ref apw, .ref apt, .int xpc, .int xrn, .int xca, .int xst, .int xps])), (apr, .inl (kpr, 8, .inl xpr)), (apw, .inl (kpw, 64, .inl xpw)), (apt, .inl (kpt, 2, .inl xpt))] H := hP
  have hD : va_D A [(aK, .inr (3, [.ref aP, .ref aB, .ref aN])), (aB, .inr (1, [.ref aP, .ref aba, .int xbs, .int xbd, .int xbe, .int xbx])), (aba, .inl (kba, 4, .inl xba)), (aP, .inr (2, [.ref apr, .ref apw, .ref apt, .int xpc, .int xrn, .int xca, .int xst, .int xps])), (apr, .inl (kpr, 8, .inl xpr)), (apw, .inl (kpw, 64, .inl xpw)), (apt, .inl (kpt, 2, .inl xpt))] := hD
  refine lv_if_ne (tgt := 9) hx hb dX3_write_4 (by decide) (fun hc => ?_) (fun hc => ?_)
  · have h := if_n h hc
    refine lv_aload_n hx hb dX3_write_9 rfl (lv_at hl 0 rfl) ?_
    refine va_get (D := (dC, dI)) (ci := 3) (v := .ref aB) (C := RX3) (T := TX3) (N := 3) hx hb hts hinX3 hown hK hP 0 rfl rfl 1 (by decide) hf21 (fun _ h9 => h9) rfl dX3_write_10 ?_
    refine lv_iload_n hx hb dX3_write_13 rfl (lv_at hl 1 rfl) ?_
    refine lv_iload_n hx hb dX3_write_14 rfl (lv_at hl 2 rfl) ?_
    refine lv_ldc hx hb hown hc54 dX3_write_15 ?_
    refine lv_iand hx hb dX3_write_17 ?_
    obtain ⟨v18, hv, h⟩ := bn_ex h
    have hPc := hP.sub (ws' := [(aB, .inr (1, [.ref aP, .ref aba, .int xbs, .int xbd, .int xbe, .int xbx])), (aba, .inl (kba, 4, .inl xba)), (aP, .inr (2, [.ref apr, .ref apw, .ref apt, .int xpc, .int xrn, .int xca, .int xst, .int xps])), (apr, .inl (kpr, 8, .inl xpr)), (apw, .inl (kpw, 64, .inl xpw)), (apt, .inl (kpt, 2, .inl xpt))]) [1, 2, 3, 4, 5, 6] rfl
    have hDc := hD.sub (ws' := [(aB, .inr (1, [.ref aP, .ref aba, .int xbs, .int xbd, .int xbe, .int xbx])), (aba, .inl (kba, 4, .inl xba)), (aP, .inr (2, [.ref apr, .ref apw, .ref apt, .int xpc, .int xrn, .int xca, .int xst, .int xps])), (apr, .inl (kpr, 8, .inl xpr)), (apw, .inl (kpw, 64, .inl xpw)), (apt, .inl (kpt, 2, .inl xpt))]) [1, 2, 3, 4, 5, 6] (by decide) rfl
    have hKc := hK.sub (tys' := [(kba, .int), (kpr, .int), (kpw, .int), (kpt, .int)]) [0, 1, 2, 3] rfl
    have hFc := va_free (wc := [(aB, .inr (1, [.ref aP, .ref aba, .int xbs, .int xbd, .int xbe, .int xbx])), (aba, .inl (kba, 4, .inl xba)), (aP, .inr (2, [.ref apr, .ref apw, .ref apt, .int xpc, .int xrn, .int xca, .int xst, .int xps])), (apr, .inl (kpr, 8, .inl xpr)), (apw, .inl (kpw, 64, .inl xpw)), (apt, .inl (kpt, 2, .inl xpt))]) hD hS hA [1, 2, 3, 4, 5, 6] rfl
    refine va_callv (va_runV (As := [.int j1, .int (j2 &&& (65535 : Int32))]) (rest := []) ⟨hx, hb, hml, hown, hts⟩ (ct_B_put l dC dI aB aba aP apr apw apt kba kpr kpw kpt H.size xba xbs xbd xbe xbx xpr xpw xpt xpc xrn xca xst xps j1 (j2 &&& (65535 : Int32)) v18 hv) (cwV 2 hts gX3_write_X1_put rfl rfl rfl (by decide +kernel) ⟨Nat.le_of_ble_eq_true rfl, Nat.le_of_ble_eq_true rfl⟩) ⟨fun a U g mk q => by obtain ⟨q0, q1, qP, qK, qD⟩ := q; exact ⟨q0, q1, qP, va_K.moved (u := U) (U := U.calling g mk a) (Vm.Alike.refl U.vm) qK, qD⟩, va_recv (ci := 1) (q0 := 1) hK hP rfl rfl, fun U hU hW => ⟨rfl, by rw [hU], by rw [hU]; exact hPc, va_K.moved hW.alike hKc, hDc.weaken (fun _ _ _ _ => trivial)⟩⟩ rfl rfl hl.1 rfl (lv_room (Nat.le_of_ble_eq_true rfl)) dX3_write_18 ⟨Nat.zero_le _, Nat.zero_le _⟩) hS (fun q _ h => hFc q h) hFc (fun u t H locs ht hvm hw hB hz1 hk1 hS => ?_)
    obtain rfl := pr_0 hw
    obtain ⟨hP1, hD1⟩ := hB
    rw [ht] at hP1
    obtain ⟨hP, hD⟩ := va_join (wr := [(aK, .inr (3, [.ref aP, .ref aB, .ref aN]))]) (w1 := [(aB, .inr (1, [.ref aP, .ref aba, .int v18.2.1, .int v18.2.2.1, .int v18.2.2.2.1, .int v18.2.2.2.2.1])), (aba, .inl (kba, 4, .inl v18.1)), (aP, .inr (2, [.ref apr, .ref apw, .ref apt, .int v18.2.2.2.2.2.2.2.2.1, .int v18.2.2.2.2.2.2.2.2.2.1, .int v18.2.2.2.2.2.2.2.2.2.2.1, .int v18.2.2.2.2.2.2.2.2.2.2.2.1, .int v18.2.2.2.2.2.2.2.2.2.2.2.2])), (apr, .inl (kpr, 8, .inl v18.2.2.2.2.2.1)), (apw, .inl (kpw, 64, .inl v18.2.2.2.2.2.2.1)), (apt, .inl (kpt, 2, .inl v18.2.2.2.2.2.2.2.1))]) hP hD [1, 2, 3, 4, 5, 6] [0] rfl rfl (by decide) (by decide) hk1 hFc hP1 hD1
    have hP : va_P (dC, dI) vwCl [(aK, .inr (3, [.ref aP, .ref aB, .ref aN])), (aB, .inr (1, [.ref aP, .ref aba, .int v18.2.1, .int v18.2.2.1, .int v18.2.2.2.1, .int v18.2.2.2.2.1])), (aba, .inl (kba, 4, .inl v18.1)), (aP, .inr (2, [.ref apr, .ref apw, .ref apt, .int v18.2.2.2.2.2.2.2.2.1, .int v18.2.2.2.2.2.2.2.2.2.1, .int v18.2.2.2.2.2.2.2.2.2.2.1, .int v18.2.2.2.2.2.2.2.2.2.2.2.1, .int v18.2.2.2.2.2.2.2.2.2.2.2.2])), (apr, .inl (kpr, 8, .inl v18.2.2.2.2.2.1)), (apw, .inl (kpw, 64, .inl v18.2.2.2.2.2.2.1)), (apt, .inl (kpt, 2, .inl v18.2.2.2.2.2.2.2.1))] H := hP
    have hD : va_D A [(aK, .inr (3, [.ref aP, .ref aB, .ref aN])), (aB, .inr (1, [.ref aP, .ref aba, .int v18.2.1, .int v18.2.2.1, .int v18.2.2.2.1, .int v18.2.2.2.2.1])), (aba, .inl (kba, 4, .inl v18.1)), (aP, .inr (2, [.ref apr, .ref apw, .ref apt, .int v18.2.2.2.2.2.2.2.2.1, .int v18.2.2.2.2.2.2.2.2.2.1, .int v18.2.2.2.2.2.2.2.2.2.2.1, .int v18.2.2.2.2.2.2.2.2.2.2.2.1, .int v18.2.2.2.2.2.2.2.2.2.2.2.2])), (apr, .inl (kpr, 8, .inl v18.2.2.2.2.2.1)), (apw, .inl (kpw, 64, .inl v18.2.2.2.2.2.2.1)), (apt, .inl (kpt, 2, .inl v18.2.2.2.2.2.2.2.1))] := hD
    refine lv_iconst (v := (1 : Int32)) hx hb dX3_write_21 (by decide) ?_
    exact W.zret hx hb hr (kb_n (Or.inr rfl)) (fun t ht hW => ⟨⟨(1 : Int32), (v18.1, v18.2.1, v18.2.2.1, v18.2.2.2.1, v18.2.2.2.2.1, v18.2.2.2.2.2.1, v18.2.2.2.2.2.2.1, v18.2.2.2.2.2.2.2.1, v18.2.2.2.2.2.2.2.2.1, v18.2.2.2.2.2.2.2.2.2.1, v18.2.2.2.2.2.2.2.2.2.2.1, v18.2.2.2.2.2.2.2.2.2.2.2.1, v18.2.2.2.2.2.2.2.2.2.2.2.2), rfl, h, by rw [ht]; exact hP, hD⟩, hS.F ht⟩) hS.2.2 dX3_write_22
  · have h := if_y h hc
    refine lv_iconst (v := (0 : Int32)) hx hb dX3_write_7 (by decide) ?_
    exact W.zret hx hb hr (kb_n (Or.inl rfl)) (fun t ht hW => ⟨⟨(0 : Int32), (xba, xbs, xbd, xbe, xbx, xpr, xpw, xpt, xpc, xrn, xca, xst, xps), rfl, h, by rw [ht]; exact hP, hD⟩, hS.F ht⟩) hS.2.2 dX3_write_8
set_option maxHeartbeats 4000000 in
set_option maxRecDepth 100000 in
theorem ct_K_state (l : Launch) (dC : Nat → ClassId) (dI : Nat → Nat → Nat) (aK aN aP aB : Nat) (sz : Nat) (xnc : Int32) (xns : Int32) (xnr : Int32) (xnl : Int32) (xnb : Int32) (xnv : Int32) (xnn : Int32) (xnh : Int32) (xnt : Int32) (xng : Int32) (o : Int32) (h : fn_K_state xnc = some o) : Met l yX3_state wsX3_state ({ frames := 0, cells := 0, slots := 0, locals := 0 }) (va_Pc [.ref aK] (fun U => U.heap.size = sz ∧ va_P (dC, dI) vwCl [(aK, .inr (3, [.ref aP, .ref aB, .ref aN])), (aN, .inr (0, [.ref aB, .int xnc, .int xns, .int xnr, .int xnl, .int xnb, .int xnv, .int xnn, .int xnh, .int xnt, .int xng]))] U.heap ∧ va_K (dC, dI) vwCl [] U ∧ va_D (fun _ => True) [(aK, .inr (3, [.ref aP, .ref aB, .ref aN])), (aN, .inr (0, [.ref aB, .int xnc, .int xns, .int xnr, .int xnl, .int xnb, .int xnv, .int xnn, .int xnh, .int xnt, .int xng]))])) (va_Qi (fun (r : Int32) (_ : Unit) => some r = some o) (fun (u : Unit) (t : State) => va_P (dC, dI) vwCl [(aK, .inr (3, [.ref aP, .ref aB, .ref aN])), (aN, .inr (0, [.ref aB, .int xnc, .int xns, .int xnr, .int xnl, .int xnb, .int xnv, .int xnn, .int xnh, .int xnt, .int xng]))] t.heap ∧ va_D (va_A [(aK, .inr (3, [.ref aP, .ref aB, .ref aN])), (aN, .inr (0, [.ref aB, .int xnc, .int xns, .int xnr, .int xnl, .int xnb, .int xnv, .int xnn, .int xnh, .int xnt, .int xng]))] sz) [(aK, .inr (3, [.ref aP, .ref aB, .ref aN])), (aN, .inr (0, [.ref aB, .int xnc, .int xns, .int xnr, .int xnl, .int xnb, .int xnv, .int xnn, .int xnh, .int xnt, .int xng]))]) (va_A [(aK, .inr (3, [.ref aP, .ref aB, .ref aN])), (aN, .inr (0, [.ref aB, .int xnc, .int xns, .int xnr, .int xnl, .int xnb, .int xnv, .int xnn, .int xnh, .int xnt, .int xng]))] sz)) 0 0 (va_A [(aK, .inr (3, [.ref aP, .ref aB, .ref aN])), (aN, .inr (0, [.ref aB, .int xnc, .int xns, .int xnr, .int xnl, .int xnb, .int xnv, .int xnn, .int xnh, .int xnt, .int xng]))] sz) := by
  refine Met.ofW (cc := cX3_state) (maxL := 1) (ret := (some .int)) (by decide) rfl ?_
  intro p e s m args below meth c s₁ B hml hv
  obtain ⟨rfl, hsz, hP, hK, hD0⟩ := hv
  have hx := B.exec
  have hb := B.bytes
  have hr := B.returns
  have hts := atoms_spec (ws := wsX3_state) B.pre
  have hown : s.vm.findClass RX3 = some m.cls := findClass_of_methodNamed B.named
  have hlocks := B.notSynchronized
  subst hsz
  have hD := hD0.self (sz := s.heap.size)
  generalize hAe : va_A [(aK, .inr (3, [.ref aP, .ref aB, .ref aN])), (aN, .inr (0, [.ref aB, .int xnc, .int xns, .int xnr, .int xnl, .int xnb, .int xnv, .int xnn, .int xnh, .int xnt, .int xng]))] s.heap.size = A at hD ⊢
  have hA : ∀ q : Nat, s.heap.size ≤ q → A q := fun q h => by rw [← hAe]; exact Or.inr h
  have hS : va_S A s.heap s.heap [] := va_S.rf
  have hP : va_P (dC, dI) vwCl [(aK, .inr (3, [.ref aP, .ref aB, .ref aN])), (aN, .inr (0, [.ref aB, .int xnc, .int xns, .int xnr, .int xnl, .int xnb, .int xnv, .int xnn, .int xnh, .int xnt, .int xng]))] s.heap := hP
  have hf30 := hts (.fieldLink RX3 30 "ProbeBench" "pins" "LProbeBench$Pins;") (by decide +kernel)
  have hf59 := hts (.fieldLink RX3 59 "ProbeBench$Pins" "current" "I") (by decide +kernel)
  have hinX0 : ∀ w ∈ u_ws RX0 TX0 11, w ∈ wsX3_state := by decide +kernel
  have hinX3 : ∀ w ∈ u_ws RX3 TX3 3, w ∈ wsX3_state := by decide +kernel
  have hl := lv_entry ([.ref aK]) (n := 1) (Nat.le_of_ble_eq_true rfl)
  rw [lg_entry_eq]
  generalize (lg_sl ([.ref aK]) ++ List.replicate (1 - (lg_sl ([.ref aK])).length) Slot.unset).toArray = ls at hl ⊢
  have hl : lv_has ls 1 [(0, .ref aK)] := hl
  unfold fn_K_state at h
  refine lv_aload_n hx hb dX3_state_0 rfl (lv_at hl 0 rfl) ?_
  refine va_get (D := (dC, dI)) (ci := 3) (v := .ref aN) (C := RX3) (T := TX3) (N := 3) hx hb hts hinX3 hown hK hP 0 rfl rfl 2 (by decide) hf30 (fun _ h9 => h9) rfl dX3_state_1 ?_
  refine va_get (D := (dC, dI)) (ci := 0) (v := .int xnc) (C := RX0) (T := TX0) (N := 11) hx hb hts hinX0 hown hK hP 1 rfl rfl 1 (by decide) hf59 (fun _ h9 => h9) rfl dX3_state_4 ?_
  exact W.iret hx hb hr (fun t ht hW => ⟨⟨xnc, (), rfl, h, by rw [ht]; exact hP, hD⟩, hS.F ht⟩) hS.2.2 dX3_state_7
set_option maxHeartbeats 4000000 in
set_option maxRecDepth 100000 in
theorem ct_K_instruction (l : Launch) (dC : Nat → ClassId) (dI : Nat → Nat → Nat) (aK aN aP aB : Nat) (sz : Nat) (xnc : Int32) (xns : Int32) (xnr : Int32) (xnl : Int32) (xnb : Int32) (xnv : Int32) (xnn : Int32) (xnh : Int32) (xnt : Int32) (xng : Int32) (o : Int32) (h : fn_K_instruction xns = some o) : Met l yX3_instruction wsX3_instruction ({ frames := 0, cells := 0, slots := 0, locals := 0 }) (va_Pc [.ref aK] (fun U => U.heap.size = sz ∧ va_P (dC, dI) vwCl [(aK, .inr (3, [.ref aP, .ref aB, .ref aN])), (aN, .inr (0, [.ref aB, .int xnc, .int xns, .int xnr, .int xnl, .int xnb, .int xnv, .int xnn, .int xnh, .int xnt, .int xng]))] U.heap ∧ va_K (dC, dI) vwCl [] U ∧ va_D (fun _ => True) [(aK, .inr (3, [.ref aP, .ref aB, .ref aN])), (aN, .inr (0, [.ref aB, .int xnc, .int xns, .int xnr, .int xnl, .int xnb, .int xnv, .int xnn, .int xnh, .int xnt, .int xng]))])) (va_Qi (fun (r : Int32) (_ : Unit) => some r = some o) (fun (u : Unit) (t : State) => va_P (dC, dI) vwCl [(aK, .inr (3, [.ref aP, .ref aB, .ref aN])), (aN, .inr (0, [.ref aB, .int xnc, .int xns, .int xnr, .int xnl, .int xnb, .int xnv, .int xnn, .int xnh, .int xnt, .int xng]))] t.heap ∧ va_D (va_A [(aK, .inr (3, [.ref aP, .ref aB, .ref aN])), (aN, .inr (0, [.ref aB, .int xnc, .int xns, .int xnr, .int xnl, .int xnb, .int xnv, .int xnn, .int xnh, .int xnt, .int xng]))] sz) [(aK, .inr (3, [.ref aP, .ref aB, .ref aN])), (aN, .inr (0, [.ref aB, .int xnc, .int xns, .int xnr, .int xnl, .int xnb, .int xnv, .int xnn, .int xnh, .int xnt, .int xng]))]) (va_A [(aK, .inr (3, [.ref aP, .ref aB, .ref aN])), (aN, .inr (0, [.ref aB, .int xnc, .int xns, .int xnr, .int xnl, .int xnb, .int xnv, .int xnn, .int xnh, .int xnt, .int xng]))] sz)) 0 0 (va_A [(aK, .inr (3, [.ref aP, .ref aB, .ref aN])), (aN, .inr (0, [.ref aB, .int xnc, .int xns, .int xnr, .int xnl, .int xnb, .int xnv, .int xnn, .int xnh, .int xnt, .int xng]))] sz) := by
  refine Met.ofW (cc := cX3_instruction) (maxL := 1) (ret := (some .int)) (by decide) rfl ?_
  intro p e s m args below meth c s₁ B hml hv
  obtain ⟨rfl, hsz, hP, hK, hD0⟩ := hv
  have hx := B.exec
  have hb := B.bytes
  have hr := B.returns
  have hts := atoms_spec (ws := wsX3_instruction) B.pre
  have hown : s.vm.findClass RX3 = some m.cls := findClass_of_methodNamed B.named
  have hlocks := B.notSynchronized
  subst hsz
  have hD := hD0.self (sz := s.heap.size)
  generalize hAe : va_A [(aK, .inr (3, [.ref aP, .ref aB, .ref aN])), (aN, .inr (0, [.ref aB, .int xnc, .int xns, .int xnr, .int xnl, .int xnb, .int xnv, .int xnn, .int xnh, .int xnt, .int xng]))] s.heap.size = A at hD ⊢
  have hA : ∀ q : Nat, s.heap.size ≤ q → A q := fun q h => by rw [← hAe]; exact Or.inr h
  have hS : va_S A s.heap s.heap [] := va_S.rf
  have hP : va_P (dC, dI) vwCl [(aK, .inr (3, [.ref aP, .ref aB, .ref aN])), (aN, .inr (0, [.ref aB, .int xnc, .int xns, .int xnr, .int xnl, .int xnb, .int xnv, .int xnn, .int xnh, .int xnt, .int xng]))] s.heap := hP
  have hf30 := hts (.fieldLink RX3 30 "ProbeBench" "pins" "LProbeBench$Pins;") (by decide +kernel)
  have hf63 := hts (.fieldLink RX3 63 "ProbeBench$Pins" "selected" "I") (by decide +kernel)
  have hinX0 : ∀ w ∈ u_ws RX0 TX0 11, w ∈ wsX3_instruction := by decide +kernel
  have hinX3 : ∀ w ∈ u_ws RX3 TX3 3, w ∈ wsX3_instruction := by decide +kernel
  have hl := lv_entry ([.ref aK]) (n := 1) (Nat.le_of_ble_eq_true rfl)
  rw [lg_entry_eq]
  generalize (lg_sl ([.ref aK]) ++ List.replicate (1 - (lg_sl ([.ref aK])).length) Slot.unset).toArray = ls at hl ⊢
  have hl : lv_has ls 1 [(0, .ref aK)] := hl
  unfold fn_K_instruction at h
  refine lv_aload_n hx hb dX3_instruction_0 rfl (lv_at hl 0 rfl) ?_
  refine va_get (D := (dC, dI)) (ci := 3) (v := .ref aN) (C := RX3) (T := TX3) (N := 3) hx hb hts hinX3 hown hK hP 0 rfl rfl 2 (by decide) hf30 (fun _ h9 => h9) rfl dX3_instruction_1 ?_
  refine va_get (D := (dC, dI)) (ci := 0) (v := .int xns) (C := RX0) (T := TX0) (N := 11) hx hb hts hinX0 hown hK hP 1 rfl rfl 2 (by decide) hf63 (fun _ h9 => h9) rfl dX3_instruction_4 ?_
  exact W.iret hx hb hr (fun t ht hW => ⟨⟨xns, (), rfl, h, by rw [ht]; exact hP, hD⟩, hS.F ht⟩) hS.2.2 dX3_instruction_7
set_option maxHeartbeats 4000000 in
set_option maxRecDepth 100000 in
theorem ct_K_register (l : Launch) (dC : Nat → ClassId) (dI : Nat → Nat → Nat) (aK aP apr apw apt aB aN : Nat) (kpr kpw kpt : ClassId) (sz : Nat) (xpr : (Nat → Int32)) (xpw : (Nat → Int32)) (xpt : (Nat → Int32)) (xpc : Int32) (xrn : Int32) (xca : Int32) (xst : Int32) (xps : Int32) (j1 : Int32) (o : Int32) (h : fn_K_register xpr j1 = some o) : Met l yX3_register wsX3_register ({ frames := 0, cells := 0, slots := 0, locals := 0 }) (va_Pc [.ref aK, .int j1] (fun U => U.heap.size = sz ∧ va_P (dC, dI) vwCl [(aK, .inr (3, [.ref aP, .ref aB, .ref aN])), (aP, .inr (2, [.ref apr, .ref apw, .ref apt, .int xpc, .int xrn, .int xca, .int xst, .int xps])), (apr, .inl (kpr, 8, .inl xpr)), (apw, .inl (kpw, 64, .inl xpw)), (apt, .inl (kpt, 2, .inl xpt))] U.heap ∧ va_K (dC, dI) vwCl [(kpr, .int), (kpw, .int), (kpt, .int)] U ∧ va_D (fun _ => True) [(aK, .inr (3, [.ref aP, .ref aB, .ref aN])), (aP, .inr (2, [.ref apr, .ref apw, .ref apt, .int xpc, .int xrn, .int xca, .int xst, .int xps])), (apr, .inl (kpr, 8, .inl xpr)), (apw, .inl (kpw, 64, .inl xpw)), (apt, .inl (kpt, 2, .inl xpt))])) (va_Qi (fun (r : Int32) (_ : Unit) => some r = some o) (fun (u : Unit) (t : State) => va_P (dC, dI) vwCl [(aK, .inr (3, [.ref aP, .ref aB, .ref aN])), (aP, .inr (2, [.ref apr, .ref apw, .ref apt, .int xpc, .int xrn, .int xca, .int xst, .int xps])), (apr, .inl (kpr, 8, .inl xpr)), (apw, .inl (kpw, 64, .inl xpw)), (apt, .inl (kpt, 2, .inl xpt))] t.heap ∧ va_D (va_A [(aK, .inr (3, [.ref aP, .ref aB, .ref aN])), (aP, .inr (2, [.ref apr, .ref apw, .ref apt, .int xpc, .int xrn, .int xca, .int xst, .int xps])), (apr, .inl (kpr, 8, .inl xpr)), (apw, .inl (kpw, 64, .inl xpw)), (apt, .inl (kpt, 2, .inl xpt))] sz) [(aK, .inr (3, [.ref aP, .ref aB, .ref aN])), (aP, .inr (2, [.ref apr, .ref apw, .ref apt, .int xpc, .int xrn, .int xca, .int xst, .int xps])), (apr, .inl (kpr, 8, .inl xpr)), (apw, .inl (kpw, 64, .inl xpw)), (apt, .inl (kpt, 2, .inl xpt))]) (va_A [(aK, .inr (3, [.ref aP, .ref aB, .ref aN])), (aP, .inr (2, [.ref apr, .ref apw, .ref apt, .int xpc, .int xrn, .int xca, .int xst, .int xps])), (apr, .inl (kpr, 8, .inl xpr)), (apw, .inl (kpw, 64, .inl xpw)), (apt, .inl (kpt, 2, .inl xpt))] sz)) 0 0 (va_A [(aK, .inr (3, [.ref aP, .ref aB, .ref aN])), (aP, .inr (2, [.ref apr, .ref apw, .ref apt, .int xpc, .int xrn, .int xca, .int xst, .int xps])), (apr, .inl (kpr, 8, .inl xpr)), (apw, .inl (kpw, 64, .inl xpw)), (apt, .inl (kpt, 2, .inl xpt))] sz) := by
  refine Met.ofW (cc := cX3_register) (maxL := 2) (ret := (some .int)) (by decide) rfl ?_
  intro p e s m args below meth c s₁ B hml hv
  obtain ⟨rfl, hsz, hP, hK, hD0⟩ := hv
  have hx := B.exec
  have hb := B.bytes
  have hr := B.returns
  have hts := atoms_spec (ws := wsX3_register) B.pre
  have hown : s.vm.findClass RX3 = some m.cls := findClass_of_methodNamed B.named
  have hlocks := B.notSynchronized
  subst hsz
  have hD := hD0.self (sz := s.heap.size)
  generalize hAe : va_A [(aK, .inr (3, [.ref aP, .ref aB, .ref aN])), (aP, .inr (2, [.ref apr, .ref apw, .ref apt, .int xpc, .int xrn, .int xca, .int xst, .int xps])), (apr, .inl (kpr, 8, .inl xpr)), (apw, .inl (kpw, 64, .inl xpw)), (apt, .inl (kpt, 2, .inl xpt))] s.heap.size = A at hD ⊢
  have hA : ∀ q : Nat, s.heap.size ≤ q → A q := fun q h => by rw [← hAe]; exact Or.inr h
  have hS : va_S A s.heap s.heap [] := va_S.rf
  have hP : va_P (dC, dI) vwCl [(aK, .inr (3, [.ref aP, .ref aB, .ref aN])), (aP, .inr (2, [.ref apr, .ref apw, .ref apt, .int xpc, .int xrn, .int xca, .int xst, .int xps])), (apr, .inl (kpr, 8, .inl xpr)), (apw, .inl (kpw, 64, .inl xpw)), (apt, .inl (kpt, 2, .inl xpt))] s.heap := hP
  have hf10 := hts (.fieldLink RX3 10 "ProbeBench" "processor" "LProbeBench$Processor;") (by decide +kernel)
  have hf66 := hts (.fieldLink RX3 66 "ProbeBench$Processor" "registers" "[I") (by decide +kernel)
  have hinX2 : ∀ w ∈ u_ws RX2 TX2 8, w ∈ wsX3_register := by decide +kernel
  have hinX3 : ∀ w ∈ u_ws RX3 TX3 3, w ∈ wsX3_register := by decide +kernel
  have hl := lv_entry ([.ref aK, .int j1]) (n := 2) (Nat.le_of_ble_eq_true rfl)
  rw [lg_entry_eq]
  generalize (lg_sl ([.ref aK, .int j1]) ++ List.replicate (2 - (lg_sl ([.ref aK, .int j1])).length) Slot.unset).toArray = ls at hl ⊢
  have hl : lv_has ls 2 [(0, .ref aK), (1, .int j1)] := hl
  unfold fn_K_register at h
  refine lv_iload_n hx hb dX3_register_0 rfl (lv_at hl 1 rfl) ?_
  refine lv_if_lt (tgt := 22) hx hb dX3_register_1 (by decide) (fun hc => ?_) (fun hc => ?_)
  · have h := if_y h hc
    refine lv_iconst (v := (-1 : Int32)) hx hb dX3_register_22 (by decide) ?_
    exact W.iret hx hb hr (fun t ht hW => ⟨⟨(-1 : Int32), (), rfl, h, by rw [ht]; exact hP, hD⟩, hS.F ht⟩) hS.2.2 dX3_register_23
  · have h := if_n h hc
    refine lv_iload_n hx hb dX3_register_4 rfl (lv_at hl 1 rfl) ?_
    refine lv_bipush (v := (8 : Int32)) hx hb dX3_register_5 (by decide) ?_
    refine lv_icmp_ge (tgt := 22) hx hb dX3_register_7 (by decide) (fun hc => ?_) (fun hc => ?_)
    · have h := if_y h hc
      refine lv_iconst (v := (-1 : Int32)) hx hb dX3_register_22 (by decide) ?_
      exact W.iret hx hb hr (fun t ht hW => ⟨⟨(-1 : Int32), (), rfl, h, by rw [ht]; exact hP, hD⟩, hS.F ht⟩) hS.2.2 dX3_register_23
    · have h := if_n h hc
      refine lv_aload_n hx hb dX3_register_10 rfl (lv_at hl 0 rfl) ?_
      refine va_get (D := (dC, dI)) (ci := 3) (v := .ref aP) (C := RX3) (T := TX3) (N := 3) hx hb hts hinX3 hown hK hP 0 rfl rfl 0 (by decide) hf10 (fun _ h9 => h9) rfl dX3_register_11 ?_
      refine va_get (D := (dC, dI)) (ci := 2) (v := .ref apr) (C := RX2) (T := TX2) (N := 8) hx hb hts hinX2 hown hK hP 1 rfl rfl 0 (by decide) hf66 (fun _ h9 => h9) rfl dX3_register_14 ?_
      refine lv_iload_n hx hb dX3_register_17 rfl (lv_at hl 1 rfl) ?_
      obtain ⟨hi, h⟩ := ck_in h
      refine va_iald hx hb hK hP 2 0 rfl rfl hi dX3_register_18 ?_
      refine lv_goto (tgt := 23) hx hb dX3_register_19 (by decide) ?_
      exact W.iret hx hb hr (fun t ht hW => ⟨⟨(xpr (Int32.toNatClampNeg j1)), (), rfl, h, by rw [ht]; exact hP, hD⟩, hS.F ht⟩) hS.2.2 dX3_register_23
set_option maxHeartbeats 4000000 in
set_option maxRecDepth 100000 in
theorem ct_K_word (l : Launch) (dC : Nat → ClassId) (dI : Nat → Nat → Nat) (aK aP apr apw apt aB aN : Nat) (kpr kpw kpt : ClassId) (sz : Nat) (xpr : (Nat → Int32)) (xpw : (Nat → Int32)) (xpt : (Nat → Int32)) (xpc : Int32) (xrn : Int32) (xca : Int32) (xst : Int32) (xps : Int32) (j1 : Int32) (o : Int32) (h : fn_K_word xpw j1 = some o) : Met l yX3_word wsX3_word ({ frames := 0, cells := 0, slots := 0, locals := 0 }) (va_Pc [.ref aK, .int j1] (fun U => U.heap.size = sz ∧ va_P (dC, dI) vwCl [(aK, .inr (3, [.ref aP, .ref aB, .ref aN])), (aP, .inr (2, [.ref apr, .ref apw, .ref apt, .int xpc, .int xrn, .int xca, .int xst, .int xps])), (apr, .inl (kpr, 8, .inl xpr)), (apw, .inl (kpw, 64, .inl xpw)), (apt, .inl (kpt, 2, .inl xpt))] U.heap ∧ va_K (dC, dI) vwCl [(kpr, .int), (kpw, .int), (kpt, .int)] U ∧ va_D (fun _ => True) [(aK, .inr (3, [.ref aP, .ref aB, .ref aN])), (aP, .inr (2, [.ref apr, .ref apw, .ref apt, .int xpc, .int xrn, .int xca, .int xst, .int xps])), (apr, .inl (kpr, 8, .inl xpr)), (apw, .inl (kpw, 64, .inl xpw)), (apt, .inl (kpt, 2, .inl xpt))])) (va_Qi (fun (r : Int32) (_ : Unit) => some r = some o) (fun (u : Unit) (t : State) => va_P (dC, dI) vwCl [(aK, .inr (3, [.ref aP, .ref aB, .ref aN])), (aP, .inr (2, [.ref apr, .ref apw, .ref apt, .int xpc, .int xrn, .int xca, .int xst, .int xps])), (apr, .inl (kpr, 8, .inl xpr)), (apw, .inl (kpw, 64, .inl xpw)), (apt, .inl (kpt, 2, .inl xpt))] t.heap ∧ va_D (va_A [(aK, .inr (3, [.ref aP, .ref aB, .ref aN])), (aP, .inr (2, [.ref apr, .ref apw, .ref apt, .int xpc, .int xrn, .int xca, .int xst, .int xps])), (apr, .inl (kpr, 8, .inl xpr)), (apw, .inl (kpw, 64, .inl xpw)), (apt, .inl (kpt, 2, .inl xpt))] sz) [(aK, .inr (3, [.ref aP, .ref aB, .ref aN])), (aP, .inr (2, [.ref apr, .ref apw, .ref apt, .int xpc, .int xrn, .int xca, .int xst, .int xps])), (apr, .inl (kpr, 8, .inl xpr)), (apw, .inl (kpw, 64, .inl xpw)), (apt, .inl (kpt, 2, .inl xpt))]) (va_A [(aK, .inr (3, [.ref aP, .ref aB, .ref aN])), (aP, .inr (2, [.ref apr, .ref apw, .ref apt, .int xpc, .int xrn, .int xca, .int xst, .int xps])), (apr, .inl (kpr, 8, .inl xpr)), (apw, .inl (kpw, 64, .inl xpw)), (apt, .inl (kpt, 2, .inl xpt))] sz)) 0 0 (va_A [(aK, .inr (3, [.ref aP, .ref aB, .ref aN])), (aP, .inr (2, [.ref apr, .ref apw, .ref apt, .int xpc, .int xrn, .int xca, .int xst, .int xps])), (apr, .inl (kpr, 8, .inl xpr)), (apw, .inl (kpw, 64, .inl xpw)), (apt, .inl (kpt, 2, .inl xpt))] sz) := by
  refine Met.ofW (cc := cX3_word) (maxL := 2) (ret := (some .int)) (by decide) rfl ?_
  intro p e s m args below meth c s₁ B hml hv
  obtain ⟨rfl, hsz, hP, hK, hD0⟩ := hv
  have hx := B.exec
  have hb := B.bytes
  have hr := B.returns
  have hts := atoms_spec (ws := wsX3_word) B.pre
  have hown : s.vm.findClass RX3 = some m.cls := findClass_of_methodNamed B.named
  have hlocks := B.notSynchronized
  subst hsz
  have hD := hD0.self (sz := s.heap.size)
  generalize hAe : va_A [(aK, .inr (3, [.ref aP, .ref aB, .ref aN])), (aP, .inr (2, [.ref apr, .ref apw, .ref apt, .int xpc, .int xrn, .int xca, .int xst, .int xps])), (apr, .inl (kpr, 8, .inl xpr)), (apw, .inl (kpw, 64, .inl xpw)), (apt, .inl (kpt, 2, .inl xpt))] s.heap.size = A at hD ⊢
  have hA : ∀ q : Nat, s.heap.size ≤ q → A q := fun q h => by rw [← hAe]; exact Or.inr h
  have hS : va_S A s.heap s.heap [] := va_S.rf
  have hP : va_P (dC, dI) vwCl [(aK, .inr (3, [.ref aP, .ref aB, .ref aN])), (aP, .inr (2, [.ref apr, .ref apw, .ref apt, .int xpc, .int xrn, .int xca, .int xst, .int xps])), (apr, .inl (kpr, 8, .inl xpr)), (apw, .inl (kpw, 64, .inl xpw)), (apt, .inl (kpt, 2, .inl xpt))] s.heap := hP
  have hf10 := hts (.fieldLink RX3 10 "ProbeBench" "processor" "LProbeBench$Processor;") (by decide +kernel)
  have hf70 := hts (.fieldLink RX3 70 "ProbeBench$Processor" "words" "[I") (by decide +kernel)
  have hinX2 : ∀ w ∈ u_ws RX2 TX2 8, w ∈ wsX3_word := by decide +kernel
  have hinX3 : ∀ w ∈ u_ws RX3 TX3 3, w ∈ wsX3_word := by decide +kernel
  have hl := lv_entry ([.ref aK, .int j1]) (n := 2) (Nat.le_of_ble_eq_true rfl)
  rw [lg_entry_eq]
  generalize (lg_sl ([.ref aK, .int j1]) ++ List.replicate (2 - (lg_sl ([.ref aK, .int j1])).length) Slot.unset).toArray = ls at hl ⊢
  have hl : lv_has ls 2 [(0, .ref aK), (1, .int j1)] := hl
  unfold fn_K_word at h
  refine lv_iload_n hx hb dX3_word_0 rfl (lv_at hl 1 rfl) ?_
  refine lv_if_lt (tgt := 22) hx hb dX3_word_1 (by decide) (fun hc => ?_) (fun hc => ?_)
  · have h := if_y h hc
    refine lv_iconst (v := (-1 : Int32)) hx hb dX3_word_22 (by decide) ?_
    exact W.iret hx hb hr (fun t ht hW => ⟨⟨(-1 : Int32), (), rfl, h, by rw [ht]; exact hP, hD⟩, hS.F ht⟩) hS.2.2 dX3_word_23
  · have h := if_n h hc
    refine lv_iload_n hx hb dX3_word_4 rfl (lv_at hl 1 rfl) ?_
    refine lv_bipush (v := (64 : Int32)) hx hb dX3_word_5 (by decide) ?_
    refine lv_icmp_ge (tgt := 22) hx hb dX3_word_7 (by decide) (fun hc => ?_) (fun hc => ?_)
    · have h := if_y h hc
      refine lv_iconst (v := (-1 : Int32)) hx hb dX3_word_22 (by decide) ?_
      exact W.iret hx hb hr (fun t ht hW => ⟨⟨(-1 : Int32), (), rfl, h, by rw [ht]; exact hP, hD⟩, hS.F ht⟩) hS.2.2 dX3_word_23
    · have h := if_n h hc
      refine lv_aload_n hx hb dX3_word_10 rfl (lv_at hl 0 rfl) ?_
      refine va_get (D := (dC, dI)) (ci := 3) (v := .ref aP) (C := RX3) (T := TX3) (N := 3) hx hb hts hinX3 hown hK hP 0 rfl rfl 0 (by decide) hf10 (fun _ h9 => h9) rfl dX3_word_11 ?_
      refine va_get (D := (dC, dI)) (ci := 2) (v := .ref apw) (C := RX2) (T := TX2) (N := 8) hx hb hts hinX2 hown hK hP 1 rfl rfl 1 (by decide) hf70 (fun _ h9 => h9) rfl dX3_word_14 ?_
      refine lv_iload_n hx hb dX3_word_17 rfl (lv_at hl 1 rfl) ?_
      obtain ⟨hi, h⟩ := ck_in h
      refine va_iald hx hb hK hP 3 1 rfl rfl hi dX3_word_18 ?_
      refine lv_goto (tgt := 23) hx hb dX3_word_19 (by decide) ?_
      exact W.iret hx hb hr (fun t ht hW => ⟨⟨(xpw (Int32.toNatClampNeg j1)), (), rfl, h, by rw [ht]; exact hP, hD⟩, hS.F ht⟩) hS.2.2 dX3_word_23
set_option maxHeartbeats 4000000 in
set_option maxRecDepth 100000 in
theorem ct_K_pc (l : Launch) (dC : Nat → ClassId) (dI : Nat → Nat → Nat) (aK aP apr apw apt aB aN : Nat) (kpr kpw kpt : ClassId) (sz : Nat) (xpr : (Nat → Int32)) (xpw : (Nat → Int32)) (xpt : (Nat → Int32)) (xpc : Int32) (xrn : Int32) (xca : Int32) (xst : Int32) (xps : Int32) (o : Int32) (h : fn_K_pc xpc = some o) : Met l yX3_pc wsX3_pc ({ frames := 0, cells := 0, slots := 0, locals := 0 }) (va_Pc [.ref aK] (fun U => U.heap.size = sz ∧ va_P (dC, dI) vwCl [(aK, .inr (3, [.ref aP, .ref aB, .ref aN])), (aP, .inr (2, [.ref apr, .ref apw, .ref apt, .int xpc, .int xrn, .int xca, .int xst, .int xps])), (apr, .inl (kpr, 8, .inl xpr)), (apw, .inl (kpw, 64, .inl xpw)), (apt, .inl (kpt, 2, .inl xpt))] U.heap ∧ va_K (dC, dI) vwCl [(kpr, .int), (kpw, .int), (kpt, .int)] U ∧ va_D (fun _ => True) [(aK, .inr (3, [.ref aP, .ref aB, .ref aN])), (aP, .inr (2, [.ref apr, .ref apw, .ref apt, .int xpc, .int xrn, .int xca, .int xst, .int xps])), (apr, .inl (kpr, 8, .inl xpr)), (apw, .inl (kpw, 64, .inl xpw)), (apt, .inl (kpt, 2, .inl xpt))])) (va_Qi (fun (r : Int32) (_ : Unit) => some r = some o) (fun (u : Unit) (t : State) => va_P (dC, dI) vwCl [(aK, .inr (3, [.ref aP, .ref aB, .ref aN])), (aP, .inr (2, [.ref apr, .ref apw, .ref apt, .int xpc, .int xrn, .int xca, .int xst, .int xps])), (apr, .inl (kpr, 8, .inl xpr)), (apw, .inl (kpw, 64, .inl xpw)), (apt, .inl (kpt, 2, .inl xpt))] t.heap ∧ va_D (va_A [(aK, .inr (3, [.ref aP, .ref aB, .ref aN])), (aP, .inr (2, [.ref apr, .ref apw, .ref apt, .int xpc, .int xrn, .int xca, .int xst, .int xps])), (apr, .inl (kpr, 8, .inl xpr)), (apw, .inl (kpw, 64, .inl xpw)), (apt, .inl (kpt, 2, .inl xpt))] sz) [(aK, .inr (3, [.ref aP, .ref aB, .ref aN])), (aP, .inr (2, [.ref apr, .ref apw, .ref apt, .int xpc, .int xrn, .int xca, .int xst, .int xps])), (apr, .inl (kpr, 8, .inl xpr)), (apw, .inl (kpw, 64, .inl xpw)), (apt, .inl (kpt, 2, .inl xpt))]) (va_A [(aK, .inr (3, [.ref aP, .ref aB, .ref aN])), (aP, .inr (2, [.ref apr, .ref apw, .ref apt, .int xpc, .int xrn, .int xca, .int xst, .int xps])), (apr, .inl (kpr, 8, .inl xpr)), (apw, .inl (kpw, 64, .inl xpw)), (apt, .inl (kpt, 2, .inl xpt))] sz)) 0 0 (va_A [(aK, .inr (3, [.ref aP, .ref aB, .ref aN])), (aP, .inr (2, [.ref apr, .ref apw, .ref apt, .int xpc, .int xrn, .int xca, .int xst, .int xps])), (apr, .inl (kpr, 8, .inl xpr)), (apw, .inl (kpw, 64, .inl xpw)), (apt, .inl (kpt, 2, .inl xpt))] sz) := by
  refine Met.ofW (cc := cX3_pc) (maxL := 1) (ret := (some .int)) (by decide) rfl ?_
  intro p e s m args below meth c s₁ B hml hv
  obtain ⟨rfl, hsz, hP, hK, hD0⟩ := hv
  have hx := B.exec
  have hb := B.bytes
  have hr := B.returns
  have hts := atoms_spec (ws := wsX3_pc) B.pre
  have hown : s.vm.findClass RX3 = some m.cls := findClass_of_methodNamed B.named
  have hlocks := B.notSynchronized
  subst hsz
  have hD := hD0.self (sz := s.heap.size)
  generalize hAe : va_A [(aK, .inr (3, [.ref aP, .ref aB, .ref aN])), (aP, .inr (2, [.ref apr, .ref apw, .ref apt, .int xpc, .int xrn, .int xca, .int xst, .int xps])), (apr, .inl (kpr, 8, .inl xpr)), (apw, .inl (kpw, 64, .inl xpw)), (apt, .inl (kpt, 2, .inl xpt))] s.heap.size = A at hD ⊢
  have hA : ∀ q : Nat, s.heap.size ≤ q → A q := fun q h => by rw [← hAe]; exact Or.inr h
  have hS : va_S A s.heap s.heap [] := va_S.rf
  have hP : va_P (dC, dI) vwCl [(aK, .inr (3, [.ref aP, .ref aB, .ref aN])), (aP, .inr (2, [.ref apr, .ref apw, .ref apt, .int xpc, .int xrn, .int xca, .int xst, .int xps])), (apr, .inl (kpr, 8, .inl xpr)), (apw, .inl (kpw, 64, .inl xpw)), (apt, .inl (kpt, 2, .inl xpt))] s.heap := hP
  have hf10 := hts (.fieldLink RX3 10 "ProbeBench" "processor" "LProbeBench$Processor;") (by decide +kernel)
  have hf73 := hts (.fieldLink RX3 73 "ProbeBench$Processor" "counter" "I") (by decide +kernel)
  have hinX2 : ∀ w ∈ u_ws RX2 TX2 8, w ∈ wsX3_pc := by decide +kernel
  have hinX3 : ∀ w ∈ u_ws RX3 TX3 3, w ∈ wsX3_pc := by decide +kernel
  have hl := lv_entry ([.ref aK]) (n := 1) (Nat.le_of_ble_eq_true rfl)
  rw [lg_entry_eq]
  generalize (lg_sl ([.ref aK]) ++ List.replicate (1 - (lg_sl ([.ref aK])).length) Slot.unset).toArray = ls at hl ⊢
  have hl : lv_has ls 1 [(0, .ref aK)] := hl
  unfold fn_K_pc at h
  refine lv_aload_n hx hb dX3_pc_0 rfl (lv_at hl 0 rfl) ?_
  refine va_get (D := (dC, dI)) (ci := 3) (v := .ref aP) (C := RX3) (T := TX3) (N := 3) hx hb hts hinX3 hown hK hP 0 rfl rfl 0 (by decide) hf10 (fun _ h9 => h9) rfl dX3_pc_1 ?_
  refine va_get (D := (dC, dI)) (ci := 2) (v := .int xpc) (C := RX2) (T := TX2) (N := 8) hx hb hts hinX2 hown hK hP 1 rfl rfl 3 (by decide) hf73 (fun _ h9 => h9) rfl dX3_pc_4 ?_
  exact W.iret hx hb hr (fun t ht hW => ⟨⟨xpc, (), rfl, h, by rw [ht]; exact hP, hD⟩, hS.F ht⟩) hS.2.2 dX3_pc_7
set_option maxHeartbeats 4000000 in
set_option maxRecDepth 100000 in
theorem ct_K_steps (l : Launch) (dC : Nat → ClassId) (dI : Nat → Nat → Nat) (aK aP apr apw apt aB aN : Nat) (kpr kpw kpt : ClassId) (sz : Nat) (xpr : (Nat → Int32)) (xpw : (Nat → Int32)) (xpt : (Nat → Int32)) (xpc : Int32) (xrn : Int32) (xca : Int32) (xst : Int32) (xps : Int32) (o : Int32) (h : fn_K_steps xst = some o) : Met l yX3_steps wsX3_steps ({ frames := 0, cells := 0, slots := 0, locals := 0 }) (va_Pc [.ref aK] (fun U => U.heap.size = sz ∧ va_P (dC, dI) vwCl [(aK, .inr (3, [.ref aP, .ref aB, .ref aN])), (aP, .inr (2, [.ref apr, .ref apw, .ref apt, .int xpc, .int xrn, .int xca, .int xst, .int xps])), (apr, .inl (kpr, 8, .inl xpr)), (apw, .inl (kpw, 64, .inl xpw)), (apt, .inl (kpt, 2, .inl xpt))] U.heap ∧ va_K (dC, dI) vwCl [(kpr, .int), (kpw, .int), (kpt, .int)] U ∧ va_D (fun _ => True) [(aK, .inr (3, [.ref aP, .ref aB, .ref aN])), (aP, .inr (2, [.ref apr, .ref apw, .ref apt, .int xpc, .int xrn, .int xca, .int xst, .int xps])), (apr, .inl (kpr, 8, .inl xpr)), (apw, .inl (kpw, 64, .inl xpw)), (apt, .inl (kpt, 2, .inl xpt))])) (va_Qi (fun (r : Int32) (_ : Unit) => some r = some o) (fun (u : Unit) (t : State) => va_P (dC, dI) vwCl [(aK, .inr (3, [.ref aP, .ref aB, .ref aN])), (aP, .inr (2, [.ref apr, .ref apw, .ref apt, .int xpc, .int xrn, .int xca, .int xst, .int xps])), (apr, .inl (kpr, 8, .inl xpr)), (apw, .inl (kpw, 64, .inl xpw)), (apt, .inl (kpt, 2, .inl xpt))] t.heap ∧ va_D (va_A [(aK, .inr (3, [.ref aP, .ref aB, .ref aN])), (aP, .inr (2, [.ref apr, .ref apw, .ref apt, .int xpc, .int xrn, .int xca, .int xst, .int xps])), (apr, .inl (kpr, 8, .inl xpr)), (apw, .inl (kpw, 64, .inl xpw)), (apt, .inl (kpt, 2, .inl xpt))] sz) [(aK, .inr (3, [.ref aP, .ref aB, .ref aN])), (aP, .inr (2, [.ref apr, .ref apw, .ref apt, .int xpc, .int xrn, .int xca, .int xst, .int xps])), (apr, .inl (kpr, 8, .inl xpr)), (apw, .inl (kpw, 64, .inl xpw)), (apt, .inl (kpt, 2, .inl xpt))]) (va_A [(aK, .inr (3, [.ref aP, .ref aB, .ref aN])), (aP, .inr (2, [.ref apr, .ref apw, .ref apt, .int xpc, .int xrn, .int xca, .int xst, .int xps])), (apr, .inl (kpr, 8, .inl xpr)), (apw, .inl (kpw, 64, .inl xpw)), (apt, .inl (kpt, 2, .inl xpt))] sz)) 0 0 (va_A [(aK, .inr (3, [.ref aP, .ref aB, .ref aN])), (aP, .inr (2, [.ref apr, .ref apw, .ref apt, .int xpc, .int xrn, .int xca, .int xst, .int xps])), (apr, .inl (kpr, 8, .inl xpr)), (apw, .inl (kpw, 64, .inl xpw)), (apt, .inl (kpt, 2, .inl xpt))] sz) := by
  refine Met.ofW (cc := cX3_steps) (maxL := 1) (ret := (some .int)) (by decide) rfl ?_
  intro p e s m args below meth c s₁ B hml hv
  obtain ⟨rfl, hsz, hP, hK, hD0⟩ := hv
  have hx := B.exec
  have hb := B.bytes
  have hr := B.returns
  have hts := atoms_spec (ws := wsX3_steps) B.pre
  have hown : s.vm.findClass RX3 = some m.cls := findClass_of_methodNamed B.named
  have hlocks := B.notSynchronized
  subst hsz
  have hD := hD0.self (sz := s.heap.size)
  generalize hAe : va_A [(aK, .inr (3, [.ref aP, .ref aB, .ref aN])), (aP, .inr (2, [.ref apr, .ref apw, .ref apt, .int xpc, .int xrn, .int xca, .int xst, .int xps])), (apr, .inl (kpr, 8, .inl xpr)), (apw, .inl (kpw, 64, .inl xpw)), (apt, .inl (kpt, 2, .inl xpt))] s.heap.size = A at hD ⊢
  have hA : ∀ q : Nat, s.heap.size ≤ q → A q := fun q h => by rw [← hAe]; exact Or.inr h
  have hS : va_S A s.heap s.heap [] := va_S.rf
  have hP : va_P (dC, dI) vwCl [(aK, .inr (3, [.ref aP, .ref aB, .ref aN])), (aP, .inr (2, [.ref apr, .ref apw, .ref apt, .int xpc, .int xrn, .int xca, .int xst, .int xps])), (apr, .inl (kpr, 8, .inl xpr)), (apw, .inl (kpw, 64, .inl xpw)), (apt, .inl (kpt, 2, .inl xpt))] s.heap := hP
  have hf10 := hts (.fieldLink RX3 10 "ProbeBench" "processor" "LProbeBench$Processor;") (by decide +kernel)
  have hf76 := hts (.fieldLink RX3 76 "ProbeBench$Processor" "stepsDone" "I") (by decide +kernel)
  have hinX2 : ∀ w ∈ u_ws RX2 TX2 8, w ∈ wsX3_steps := by decide +kernel
  have hinX3 : ∀ w ∈ u_ws RX3 TX3 3, w ∈ wsX3_steps := by decide +kernel
  have hl := lv_entry ([.ref aK]) (n := 1) (Nat.le_of_ble_eq_true rfl)
  rw [lg_entry_eq]
  generalize (lg_sl ([.ref aK]) ++ List.replicate (1 - (lg_sl ([.ref aK])).length) Slot.unset).toArray = ls at hl ⊢
  have hl : lv_has ls 1 [(0, .ref aK)] := hl
  unfold fn_K_steps at h
  refine lv_aload_n hx hb dX3_steps_0 rfl (lv_at hl 0 rfl) ?_
  refine va_get (D := (dC, dI)) (ci := 3) (v := .ref aP) (C := RX3) (T := TX3) (N := 3) hx hb hts hinX3 hown hK hP 0 rfl rfl 0 (by decide) hf10 (fun _ h9 => h9) rfl dX3_steps_1 ?_
  refine va_get (D := (dC, dI)) (ci := 2) (v := .int xst) (C := RX2) (T := TX2) (N := 8) hx hb hts hinX2 hown hK hP 1 rfl rfl 6 (by decide) hf76 (fun _ h9 => h9) rfl dX3_steps_4 ?_
  exact W.iret hx hb hr (fun t ht hW => ⟨⟨xst, (), rfl, h, by rw [ht]; exact hP, hD⟩, hS.F ht⟩) hS.2.2 dX3_steps_7
