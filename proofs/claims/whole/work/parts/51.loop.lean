theorem lw_past {L k : Nat} (hL : L ≤ 2048) (h : 513 ≤ k ∧ k ≤ 513) : Int32.ofNat L - (4 : Int32) < nI (4 * k) := by
  have e : Int32.ofNat L - (4 : Int32) = nI L - nI 4 := rfl
  rw [e, Int32.lt_iff_toInt_lt, pk_sub_toInt (by omega) (by omega), nI_toInt (by omega)]
  omega
theorem lw_in {L k : Nat} (hL : L ≤ 2048) (hk : k ≤ 513) (h : ¬ Int32.ofNat L - (4 : Int32) < nI (4 * k)) : 4 * k + 4 ≤ L := by
  have e : Int32.ofNat L - (4 : Int32) = nI L - nI 4 := rfl
  rw [e, Int32.lt_iff_toInt_lt, pk_sub_toInt (by omega) (by omega), nI_toInt (by omega)] at h
  omega
theorem lw_inc (k : Nat) : nI (4 * k) + Int32.ofInt 4 = nI (4 * (k + 1)) := by
  have e : nI (4 * k) + Int32.ofInt 4 = nI (4 * k) + nI 4 := rfl
  rw [e, nI_add]; rfl
set_option maxHeartbeats 8000000 in
set_option maxRecDepth 100000 in
theorem lc_loop {p : Program} {e : Env} {s : State} {m : MethodId} {below : List Frame} {meth : Method} {c : Code} (l : Launch) {b L : Nat} {xs : Nat → Int32} {Q : State → Prop} {A : Nat → Prop} {dC : Nat → ClassId} {dI : Nat → Nat → Nat} {aK aN aB aba aP apr apw apt aM amr amm apg atk ata arw : Nat} {kba kpr kpw kpt kmr kmm kpg ktk kta krw : ClassId} {aT0 aT1 : Nat} (hx : p.tables.exec = Jvm.exec) (hb : c.code = cL_law) (hml : c.maxLocals = 4) (hown : s.vm.findClass RL = some m.cls) (hts : ∀ w ∈ wsL_law, w.before #[Value.ref b] s = true) (hX : va_X b L xs s s.heap) (hbl : b < s.heap.size) (hbA : ¬ A b) (hA : ∀ q : Nat, s.heap.size ≤ q → A q) (hK : va_K (dC, dI) vwCl [(kba, .int), (kpr, .int), (kpw, .int), (kpt, .int), (kmr, .int), (kmm, .int), (kpg, .int), (ktk, .int), (kta, .int), (krw, .int)] s) (hZ0 : va_Z RX0 "NEXT_BY_MODE_0" "[I" (.ref aT0) A s s.heap) (hT0 : va_T .int aT0 16 (fun j => .int (tb_0 j)) A s s.heap) (hZ1 : va_Z RX0 "NEXT_BY_MODE_1" "[I" (.ref aT1) A s s.heap) (hT1 : va_T .int aT1 16 (fun j => .int (tb_1 j)) A s s.heap) (hL : L ≤ 2048) (kend : ∀ (H : Heap) (locs : List Loc) (ls : Array Slot), va_S A s.heap H locs → W p l e room_1 s m #[Value.ref b] below meth c H locs 15 232 Q (F0 m 314 ls [])) : ∀ (n k t : Nat) (H : Heap) (locs : List Loc) (ls : Array Slot) (xnc : Int32) (xns : Int32) (xnr : Int32) (xnl : Int32) (xnb : Int32) (xnv : Int32) (xnn : Int32) (xnh : Int32) (xnt : Int32) (xng : Int32) (xba : (Nat → Int32)) (xbs : Int32) (xbd : Int32) (xbe : Int32) (xbx : Int32) (xpr : (Nat → Int32)) (xpw : (Nat → Int32)) (xpt : (Nat → Int32)) (xpc : Int32) (xrn : Int32) (xca : Int32) (xst : Int32) (xps : Int32) (ymr : (Nat → Int32)) (ymm : (Nat → Int32)) (ypc : Int32) (yha : Int32) (yca : Int32) (ysp : Int32) (yfr : Int32) (yst : Int32) (yda : Int32) (yer : Int32) (yad : Int32) (ypg : (Nat → Int32)) (ytk : (Nat → Int32)) (yta : (Nat → Int32)) (yse : Int32) (yin : Int32) (yrw : (Nat → Int32)) (ywd : Int32) (ytm : Int32) (ybg : Int32) (yan : Int32) (ybs : Int32) (yva : Int32) (ynu : Int32), k + n = 513 → t ≤ 24 * k → RR t xnc xns xnr xnl xnb xnv xnn xnh xnt xng xba xbs xbd xbe xbx xpr xpw xpt xpc xrn xca xst xps ymr ymm ypc yha yca ysp yfr yst yda yer yad ypg ytk yta yse yin yrw ywd ytm ybg yan ybs yva ynu → va_P (dC, dI) vwCl [(aK, .inr (3, [.ref aP, .ref aB, .ref aN])), (aN, .inr (0, [.ref aB, .int xnc, .int xns, .int xnr, .int xnl, .int xnb, .int xnv, .int xnn, .int xnh, .int xnt, .int xng])), (aB, .inr (1, [.ref aP, .ref aba, .int xbs, .int xbd, .int xbe, .int xbx])), (aba, .inl (kba, 4, .inl xba)), (aP, .inr (2, [.ref apr, .ref apw, .ref apt, .int xpc, .int xrn, .int xca, .int xst, .int xps])), (apr, .inl (kpr, 8, .inl xpr)), (apw, .inl (kpw, 64, .inl xpw)), (apt, .inl (kpt, 2, .inl xpt)), (aM, .inr (4, [.ref amr, .ref amm, .int ypc, .int yha, .int yca, .int ysp, .int yfr, .int yst, .int yda, .int yer, .int yad, .ref apg, .ref atk, .ref ata, .int yse, .int yin, .ref arw, .int ywd, .int ytm, .int ybg, .int yan, .int ybs, .int yva, .int ynu])), (amr, .inl (kmr, 8, .inl ymr)), (amm, .inl (kmm, 64, .inl ymm)), (apg, .inl (kpg, 4, .inl ypg)), (atk, .inl (ktk, 2, .inl ytk)), (ata, .inl (kta, 2, .inl yta)), (arw, .inl (krw, 22, .inl yrw))] H → va_D A [(aK, .inr (3, [.ref aP, .ref aB, .ref aN])), (aN, .inr (0, [.ref aB, .int xnc, .int xns, .int xnr, .int xnl, .int xnb, .int xnv, .int xnn, .int xnh, .int xnt, .int xng])), (aB, .inr (1, [.ref aP, .ref aba, .int xbs, .int xbd, .int xbe, .int xbx])), (aba, .inl (kba, 4, .inl xba)), (aP, .inr (2, [.ref apr, .ref apw, .ref apt, .int xpc, .int xrn, .int xca, .int xst, .int xps])), (apr, .inl (kpr, 8, .inl xpr)), (apw, .inl (kpw, 64, .inl xpw)), (apt, .inl (kpt, 2, .inl xpt)), (aM, .inr (4, [.ref amr, .ref amm, .int ypc, .int yha, .int yca, .int ysp, .int yfr, .int yst, .int yda, .int yer, .int yad, .ref apg, .ref atk, .ref ata, .int yse, .int yin, .ref arw, .int ywd, .int ytm, .int ybg, .int yan, .int ybs, .int yva, .int ynu])), (amr, .inl (kmr, 8, .inl ymr)), (amm, .inl (kmm, 64, .inl ymm)), (apg, .inl (kpg, 4, .inl ypg)), (atk, .inl (ktk, 2, .inl ytk)), (ata, .inl (kta, 2, .inl yta)), (arw, .inl (krw, 22, .inl yrw))] → va_S A s.heap H locs → lv_has ls 4 [(0, .ref b), (1, .ref aK), (2, .ref aM), (3, .int (nI (4 * k)))] → W p l e room_1 s m #[Value.ref b] below meth c H locs 15 232 Q (F0 m 18 ls []) := by
  intro n
  induction n with
  | zero =>
    intro k t H locs ls xnc xns xnr xnl xnb xnv xnn xnh xnt xng xba xbs xbd xbe xbx xpr xpw xpt xpc xrn xca xst xps ymr ymm ypc yha yca ysp yfr yst yda yer yad ypg ytk yta yse yin yrw ywd ytm ybg yan ybs yva ynu hn ht hR hP hD hS hl
    refine lv_iload_n hx hb dL_law_18 rfl (lv_at hl 3 rfl) ?_
    refine lv_aload_n hx hb dL_law_19 rfl (lv_at hl 0 rfl) ?_
    refine va_slen hx hb hX hbl hbA hS dL_law_20 ?_
    refine lv_iconst (v := (4 : Int32)) hx hb dL_law_21 (by decide) ?_
    refine lv_isub hx hb dL_law_22 ?_
    refine lv_icmp_gt (tgt := 314) hx hb dL_law_23 (by decide) (fun hc => ?_) (fun hc => ?_)
    · exact kend H locs ls hS
    · exact absurd (lw_past hL (by omega)) hc
  | succ n ih =>
    intro k t H locs ls xnc xns xnr xnl xnb xnv xnn xnh xnt xng xba xbs xbd xbe xbx xpr xpw xpt xpc xrn xca xst xps ymr ymm ypc yha yca ysp yfr yst yda yer yad ypg ytk yta yse yin yrw ywd ytm ybg yan ybs yva ynu hn ht hR hP hD hS hl
    refine lv_iload_n hx hb dL_law_18 rfl (lv_at hl 3 rfl) ?_
    refine lv_aload_n hx hb dL_law_19 rfl (lv_at hl 0 rfl) ?_
    refine va_slen hx hb hX hbl hbA hS dL_law_20 ?_
    refine lv_iconst (v := (4 : Int32)) hx hb dL_law_21 (by decide) ?_
    refine lv_isub hx hb dL_law_22 ?_
    refine lv_icmp_gt (tgt := 314) hx hb dL_law_23 (by decide) (fun hc => ?_) (fun hc => ?_)
    · exact kend H locs ls hS
    · have hk : 4 * k + 4 ≤ L := lw_in hL (by omega) hc
      have kk : ∀ (t' : Nat) (H : Heap) (locs : List Loc) (ls : Array Slot) (xnc : Int32) (xns : Int32) (xnr : Int32) (xnl : Int32) (xnb : Int32) (xnv : Int32) (xnn : Int32) (xnh : Int32) (xnt : Int32) (xng : Int32) (xba : (Nat → Int32)) (xbs : Int32) (xbd : Int32) (xbe : Int32) (xbx : Int32) (xpr : (Nat → Int32)) (xpw : (Nat → Int32)) (xpt : (Nat → Int32)) (xpc : Int32) (xrn : Int32) (xca : Int32) (xst : Int32) (xps : Int32) (ymr : (Nat → Int32)) (ymm : (Nat → Int32)) (ypc : Int32) (yha : Int32) (yca : Int32) (ysp : Int32) (yfr : Int32) (yst : Int32) (yda : Int32) (yer : Int32) (yad : Int32) (ypg : (Nat → Int32)) (ytk : (Nat → Int32)) (yta : (Nat → Int32)) (yse : Int32) (yin : Int32) (yrw : (Nat → Int32)) (ywd : Int32) (ytm : Int32) (ybg : Int32) (yan : Int32) (ybs : Int32) (yva : Int32) (ynu : Int32), t' ≤ t + 24 → RR t' xnc xns xnr xnl xnb xnv xnn xnh xnt xng xba xbs xbd xbe xbx xpr xpw xpt xpc xrn xca xst xps ymr ymm ypc yha yca ysp yfr yst yda yer yad ypg ytk yta yse yin yrw ywd ytm ybg yan ybs yva ynu → va_P (dC, dI) vwCl [(aK, .inr (3, [.ref aP, .ref aB, .ref aN])), (aN, .inr (0, [.ref aB, .int xnc, .int xns, .int xnr, .int xnl, .int xnb, .int xnv, .int xnn, .int xnh, .int xnt, .int xng])), (aB, .inr (1, [.ref aP, .ref aba, .int xbs, .int xbd, .int xbe, .int xbx])), (aba, .inl (kba, 4, .inl xba)), (aP, .inr (2, [.ref apr, .ref apw, .ref apt, .int xpc, .int xrn, .int xca, .int xst, .int xps])), (apr, .inl (kpr, 8, .inl xpr)), (apw, .inl (kpw, 64, .inl xpw)), (apt, .inl (kpt, 2, .inl xpt)), (aM, .inr (4, [.ref amr, .ref amm, .int ypc, .int yha, .int yca, .int ysp, .int yfr, .int yst, .int yda, .int yer, .int yad, .ref apg, .ref atk, .ref ata, .int yse, .int yin, .ref arw, .int ywd, .int ytm, .int ybg, .int yan, .int ybs, .int yva, .int ynu])), (amr, .inl (kmr, 8, .inl ymr)), (amm, .inl (kmm, 64, .inl ymm)), (apg, .inl (kpg, 4, .inl ypg)), (atk, .inl (ktk, 2, .inl ytk)), (ata, .inl (kta, 2, .inl yta)), (arw, .inl (krw, 22, .inl yrw))] H → va_D A [(aK, .inr (3, [.ref aP, .ref aB, .ref aN])), (aN, .inr (0, [.ref aB, .int xnc, .int xns, .int xnr, .int xnl, .int xnb, .int xnv, .int xnn, .int xnh, .int xnt, .int xng])), (aB, .inr (1, [.ref aP, .ref aba, .int xbs, .int xbd, .int xbe, .int xbx])), (aba, .inl (kba, 4, .inl xba)), (aP, .inr (2, [.ref apr, .ref apw, .ref apt, .int xpc, .int xrn, .int xca, .int xst, .int xps])), (apr, .inl (kpr, 8, .inl xpr)), (apw, .inl (kpw, 64, .inl xpw)), (apt, .inl (kpt, 2, .inl xpt)), (aM, .inr (4, [.ref amr, .ref amm, .int ypc, .int yha, .int yca, .int ysp, .int yfr, .int yst, .int yda, .int yer, .int yad, .ref apg, .ref atk, .ref ata, .int yse, .int yin, .ref arw, .int ywd, .int ytm, .int ybg, .int yan, .int ybs, .int yva, .int ynu])), (amr, .inl (kmr, 8, .inl ymr)), (amm, .inl (kmm, 64, .inl ymm)), (apg, .inl (kpg, 4, .inl ypg)), (atk, .inl (ktk, 2, .inl ytk)), (ata, .inl (kta, 2, .inl yta)), (arw, .inl (krw, 22, .inl yrw))] → va_S A s.heap H locs → lv_has ls 4 [(0, .ref b), (1, .ref aK), (2, .ref aM), (3, .int (nI (4 * k)))] → W p l e room_1 s m #[Value.ref b] below meth c H locs 15 232 Q (F0 m 308 ls []) := by
        intro t' H locs ls xnc xns xnr xnl xnb xnv xnn xnh xnt xng xba xbs xbd xbe xbx xpr xpw xpt xpc xrn xca xst xps ymr ymm ypc yha yca ysp yfr yst yda yer yad ypg ytk yta yse yin yrw ywd ytm ybg yan ybs yva ynu ht' hR hP hD hS hl
        refine lv_iinc (k := 3) (v := nI (4 * (k + 1))) hx hb dL_law_308 hl rfl (lw_inc k) (by decide) rfl (fun ls hl => ?_)
        refine lv_goto (tgt := 18) hx hb dL_law_311 (by decide) ?_
        exact ih (k + 1) t' H locs ls xnc xns xnr xnl xnb xnv xnn xnh xnt xng xba xbs xbd xbe xbx xpr xpw xpt xpc xrn xca xst xps ymr ymm ypc yha yca ysp yfr yst yda yer yad ypg ytk yta yse yin yrw ywd ytm ybg yan ybs yva ynu (by omega) (by omega) hR hP hD hS (lv_sub hl [1, 2, 3, 0] rfl)
      have hi0 : vp_in (nI (4 * k)) L := vp_in_nI (by omega) (by omega)
      refine lv_aload_n hx hb dL_law_26 rfl (lv_at hl 0 rfl) ?_
      refine lv_iload_n hx hb dL_law_27 rfl (lv_at hl 3 rfl) ?_
      refine va_sld hx hb hX hbl hbA hS hi0 dL_law_28 ?_
      refine lv_bipush (v := (15 : Int32)) hx hb dL_law_29 (by decide) ?_
      refine lv_iand hx hb dL_law_31 ?_
      generalize (xs (Int32.toNatClampNeg (nI (4 * k))) &&& (15 : Int32)) = x
      by_cases hc0 : x = (0 : Int32)
      · refine lv_tableIn (tgt := 88) (off := 56) hx hb dL_law_32 (by rw [hc0]; decide) (by rw [hc0]; decide) (by rw [hc0]; rfl) (by decide) ?_
        exact lc_0 l hx hb hml hown hts hX hbl hbA hA hK hZ0 hT0 hZ1 hT1 hL hk ht hR hP hD hS hl kk
      · by_cases hc1 : x = (1 : Int32)
        · refine lv_tableIn (tgt := 131) (off := 99) hx hb dL_law_32 (by rw [hc1]; decide) (by rw [hc1]; decide) (by rw [hc1]; rfl) (by decide) ?_
          exact lc_1 l hx hb hml hown hts hX hbl hbA hA hK hZ0 hT0 hZ1 hT1 hL hk ht hR hP hD hS hl kk
        · by_cases hc2 : x = (2 : Int32)
          · refine lv_tableIn (tgt := 154) (off := 122) hx hb dL_law_32 (by rw [hc2]; decide) (by rw [hc2]; decide) (by rw [hc2]; rfl) (by decide) ?_
            exact lc_2 l hx hb hml hown hts hX hbl hbA hA hK hZ0 hT0 hZ1 hT1 hL hk ht hR hP hD hS hl kk
          · by_cases hc3 : x = (3 : Int32)
            · refine lv_tableIn (tgt := 177) (off := 145) hx hb dL_law_32 (by rw [hc3]; decide) (by rw [hc3]; decide) (by rw [hc3]; rfl) (by decide) ?_
              exact lc_3 l hx hb hml hown hts hX hbl hbA hA hK hZ0 hT0 hZ1 hT1 hL hk ht hR hP hD hS hl kk
            · by_cases hc4 : x = (4 : Int32)
              · refine lv_tableIn (tgt := 210) (off := 178) hx hb dL_law_32 (by rw [hc4]; decide) (by rw [hc4]; decide) (by rw [hc4]; rfl) (by decide) ?_
                exact lc_4 l hx hb hml hown hts hX hbl hbA hA hK hZ0 hT0 hZ1 hT1 hL hk ht hR hP hD hS hl kk
              · by_cases hc5 : x = (5 : Int32)
                · refine lv_tableIn (tgt := 223) (off := 191) hx hb dL_law_32 (by rw [hc5]; decide) (by rw [hc5]; decide) (by rw [hc5]; rfl) (by decide) ?_
                  exact lc_5 l hx hb hml hown hts hX hbl hbA hA hK hZ0 hT0 hZ1 hT1 hL hk ht hR hP hD hS hl kk
                · by_cases hc6 : x = (6 : Int32)
                  · refine lv_tableIn (tgt := 236) (off := 204) hx hb dL_law_32 (by rw [hc6]; decide) (by rw [hc6]; decide) (by rw [hc6]; rfl) (by decide) ?_
                    exact lc_6 l hx hb hml hown hts hX hbl hbA hA hK hZ0 hT0 hZ1 hT1 hL hk ht hR hP hD hS hl kk
                  · by_cases hc7 : x = (7 : Int32)
                    · refine lv_tableIn (tgt := 259) (off := 227) hx hb dL_law_32 (by rw [hc7]; decide) (by rw [hc7]; decide) (by rw [hc7]; rfl) (by decide) ?_
                      exact lc_7 l hx hb hml hown hts hX hbl hbA hA hK hZ0 hT0 hZ1 hT1 hL hk ht hR hP hD hS hl kk
                    · by_cases hc8 : x = (8 : Int32)
                      · refine lv_tableIn (tgt := 282) (off := 250) hx hb dL_law_32 (by rw [hc8]; decide) (by rw [hc8]; decide) (by rw [hc8]; rfl) (by decide) ?_
                        exact lc_8 l hx hb hml hown hts hX hbl hbA hA hK hZ0 hT0 hZ1 hT1 hL hk ht hR hP hD hS hl kk
                      · by_cases hc9 : x = (9 : Int32)
                        · refine lv_tableIn (tgt := 295) (off := 263) hx hb dL_law_32 (by rw [hc9]; decide) (by rw [hc9]; decide) (by rw [hc9]; rfl) (by decide) ?_
                          exact lc_9 l hx hb hml hown hts hX hbl hbA hA hK hZ0 hT0 hZ1 hT1 hL hk ht hR hP hD hS hl kk
                        · have e0 := lv_neT (a := 0) hc0 (by decide)
                          have e1 := lv_neT (a := 1) hc1 (by decide)
                          have e2 := lv_neT (a := 2) hc2 (by decide)
                          have e3 := lv_neT (a := 3) hc3 (by decide)
                          have e4 := lv_neT (a := 4) hc4 (by decide)
                          have e5 := lv_neT (a := 5) hc5 (by decide)
                          have e6 := lv_neT (a := 6) hc6 (by decide)
                          have e7 := lv_neT (a := 7) hc7 (by decide)
                          have e8 := lv_neT (a := 8) hc8 (by decide)
                          have e9 := lv_neT (a := 9) hc9 (by decide)
                          refine lv_tableOut (tgt := 308) hx hb dL_law_32 (by omega) (by decide) ?_
                          exact kk t H locs ls xnc xns xnr xnl xnb xnv xnn xnh xnt xng xba xbs xbd xbe xbx xpr xpw xpt xpc xrn xca xst xps ymr ymm ypc yha yca ysp yfr yst yda yer yad ypg ytk yta yse yin yrw ywd ytm ybg yan ybs yva ynu (by omega) hR hP hD hS hl
