/-! the other calls, in the words of the relation -/
theorem rr_run {t : Nat} {xnc : Int32} {xns : Int32} {xnr : Int32} {xnl : Int32} {xnb : Int32} {xnv : Int32} {xnn : Int32} {xnh : Int32} {xnt : Int32} {xng : Int32} {xba : Nat → Int32} {xbs : Int32} {xbd : Int32} {xbe : Int32} {xbx : Int32} {xpr : Nat → Int32} {xpw : Nat → Int32} {xpt : Nat → Int32} {xpc : Int32} {xrn : Int32} {xca : Int32} {xst : Int32} {xps : Int32} {ymr : Nat → Int32} {ymm : Nat → Int32} {ypc : Int32} {yha : Int32} {yca : Int32} {ysp : Int32} {yfr : Int32} {yst : Int32} {yda : Int32} {yer : Int32} {yad : Int32} {ypg : Nat → Int32} {ytk : Nat → Int32} {yta : Nat → Int32} {yse : Int32} {yin : Int32} {yrw : Nat → Int32} {ywd : Int32} {ytm : Int32} {ybg : Int32} {yan : Int32} {ybs : Int32} {yva : Int32} {ynu : Int32} (j : Int32) (hR : RR t xnc xns xnr xnl xnb xnv xnn xnh xnt xng xba xbs xbd xbe xbx xpr xpw xpt xpc xrn xca xst xps ymr ymm ypc yha yca ysp yfr yst yda yer yad ypg ytk yta yse yin yrw ywd ytm ybg yan ybs yva ynu) : ∃ o xpr' xpw' xpc' xrn' xca' xst' xps' ymr' ymm' ypc' yha' yca' yfr' yst', fn_K_run xpr xpw xpt xpc xrn xca xst xps j = some (o, xpr', xpw', xpc', xrn', xca', xst', xps') ∧ fn_M_run ymr ymm ypc yha yca yfr yst ytk yta j = some (o, ymr', ymm', ypc', yha', yca', yfr', yst') ∧ RR t xnc xns xnr xnl xnb xnv xnn xnh xnt xng xba xbs xbd xbe xbx xpr' xpw' xpt xpc' xrn' xca' xst' xps' ymr' ymm' ypc' yha' yca' ysp yfr' yst' yda yer yad ypg ytk yta yse yin yrw ywd ytm ybg yan ybs yva ynu := by
  obtain ⟨b, s, i, ⟨rfl, rfl, rfl, rfl, rfl, rfl, rfl, rfl, rfl, rfl, rfl, rfl, rfl, rfl, rfl, rfl, rfl⟩, ⟨rfl, rfl, rfl, rfl, rfl, rfl⟩, hs, hi, hnb, hnv, hnn, hnh, hrow, hT, hB⟩ := hR
  obtain ⟨hg, k1, k2, k3, k4, hS, ht, hF⟩ := hB
  obtain ⟨d, b', r', m', p', c', s', f', g1, g2, g3, g4⟩ := sim_run b xst j hS hF ht
  exact ⟨d, r', m', p', bI b', c', s', f', r', m', p', bI (!b'), c', f', s', g1, g2, b', s, i, ⟨rfl, rfl, rfl, rfl, rfl, rfl, rfl, rfl, rfl, rfl, rfl, rfl, rfl, rfl, rfl, rfl, rfl⟩, ⟨rfl, rfl, rfl, rfl, rfl, rfl⟩, hs, hi, hnb, hnv, hnn, hnh, hrow, hT, hg, k1, k2, k3, k4, g3, ht, g4⟩
theorem rr_read {t : Nat} {xnc : Int32} {xns : Int32} {xnr : Int32} {xnl : Int32} {xnb : Int32} {xnv : Int32} {xnn : Int32} {xnh : Int32} {xnt : Int32} {xng : Int32} {xba : Nat → Int32} {xbs : Int32} {xbd : Int32} {xbe : Int32} {xbx : Int32} {xpr : Nat → Int32} {xpw : Nat → Int32} {xpt : Nat → Int32} {xpc : Int32} {xrn : Int32} {xca : Int32} {xst : Int32} {xps : Int32} {ymr : Nat → Int32} {ymm : Nat → Int32} {ypc : Int32} {yha : Int32} {yca : Int32} {ysp : Int32} {yfr : Int32} {yst : Int32} {yda : Int32} {yer : Int32} {yad : Int32} {ypg : Nat → Int32} {ytk : Nat → Int32} {yta : Nat → Int32} {yse : Int32} {yin : Int32} {yrw : Nat → Int32} {ywd : Int32} {ytm : Int32} {ybg : Int32} {yan : Int32} {ybs : Int32} {yva : Int32} {ynu : Int32} (j : Int32) (hR : RR t xnc xns xnr xnl xnb xnv xnn xnh xnt xng xba xbs xbd xbe xbx xpr xpw xpt xpc xrn xca xst xps ymr ymm ypc yha yca ysp yfr yst yda yer yad ypg ytk yta yse yin yrw ywd ytm ybg yan ybs yva ynu) : ∃ o xbx' yad', fn_K_read xba xbs xbd xbe xbx xpw xpt xpc xrn xca j = some (o, xbx') ∧ fn_M_read ymm ypc yha yca ysp yda yer yad ypg ytk yta j = some (o, yad') ∧ RR t xnc xns xnr xnl xnb xnv xnn xnh xnt xng xba xbs xbd xbe xbx' xpr xpw xpt xpc xrn xca xst xps ymr ymm ypc yha yca ysp yfr yst yda yer yad' ypg ytk yta yse yin yrw ywd ytm ybg yan ybs yva ynu := by
  obtain ⟨b, s, i, ⟨rfl, rfl, rfl, rfl, rfl, rfl, rfl, rfl, rfl, rfl, rfl, rfl, rfl, rfl, rfl, rfl, rfl⟩, ⟨rfl, rfl, rfl, rfl, rfl, rfl⟩, hs, hi, hnb, hnv, hnn, hnh, hrow, hT, hB⟩ := hR
  have hB0 := hB
  obtain ⟨hg, k1, k2, k3, k4, hS, ht, hF⟩ := hB
  unfold fn_K_read fn_B_hasRegister
  by_cases h1 : j < (0 : Int32)
  · refine ⟨(-1 : Int32), xbx, xbx, ?_, ?_, b, s, i, ⟨rfl, rfl, rfl, rfl, rfl, rfl, rfl, rfl, rfl, rfl, rfl, rfl, rfl, rfl, rfl, rfl, rfl⟩, ⟨rfl, rfl, rfl, rfl, rfl, rfl⟩, hs, hi, hnb, hnv, hnn, hnh, hrow, hT, hB0⟩
    · rw [if_pos h1]; rfl
    · unfold fn_M_read fn_M_in
      rw [if_pos h1]; rfl
  by_cases h2 : (16 : Int32) ≤ j
  · refine ⟨(-1 : Int32), xbx, xbx, ?_, ?_, b, s, i, ⟨rfl, rfl, rfl, rfl, rfl, rfl, rfl, rfl, rfl, rfl, rfl, rfl, rfl, rfl, rfl, rfl, rfl⟩, ⟨rfl, rfl, rfl, rfl, rfl, rfl⟩, hs, hi, hnb, hnv, hnn, hnh, hrow, hT, hB0⟩
    · rw [if_neg h1, if_pos h2]; rfl
    · have h3 : (15 : Int32) < j := Int32.lt_of_lt_of_le (by decide) h2
      unfold fn_M_read fn_M_in
      rw [if_neg h1, if_pos h3]; rfl
  obtain ⟨k, hk, rfl⟩ : ∃ k : Nat, k < 16 ∧ j = nI k := by
    rcases pk_ix j (n := 16) (by decide) with h | h | ⟨k, hk, e⟩
    · exact absurd h h1
    · exact absurd h h2
    · exact ⟨k, hk, e⟩
  obtain ⟨a, x, g1, g2, g3, g4⟩ := sim_fetch (stp := xbs) b k hk hg k2 k3 k4 hS.2.1 hS.2.2.1 hS.2.2.2 ht
  refine ⟨a, x, x, ?_, g2, b, s, i, ⟨rfl, rfl, rfl, rfl, rfl, rfl, rfl, rfl, rfl, rfl, rfl, rfl, rfl, rfl, rfl, rfl, rfl⟩, ⟨rfl, rfl, rfl, rfl, rfl, rfl⟩, hs, hi, hnb, hnv, hnn, hnh, hrow, hT, hg, k1, k2, k3, g4, hS, ht, hF⟩
  simp only [if_neg h1, if_neg h2, bs, if_neg z_10, g1]
theorem rr_write {t : Nat} {xnc : Int32} {xns : Int32} {xnr : Int32} {xnl : Int32} {xnb : Int32} {xnv : Int32} {xnn : Int32} {xnh : Int32} {xnt : Int32} {xng : Int32} {xba : Nat → Int32} {xbs : Int32} {xbd : Int32} {xbe : Int32} {xbx : Int32} {xpr : Nat → Int32} {xpw : Nat → Int32} {xpt : Nat → Int32} {xpc : Int32} {xrn : Int32} {xca : Int32} {xst : Int32} {xps : Int32} {ymr : Nat → Int32} {ymm : Nat → Int32} {ypc : Int32} {yha : Int32} {yca : Int32} {ysp : Int32} {yfr : Int32} {yst : Int32} {yda : Int32} {yer : Int32} {yad : Int32} {ypg : Nat → Int32} {ytk : Nat → Int32} {yta : Nat → Int32} {yse : Int32} {yin : Int32} {yrw : Nat → Int32} {ywd : Int32} {ytm : Int32} {ybg : Int32} {yan : Int32} {ybs : Int32} {yva : Int32} {ynu : Int32} (j v : Int32) (hR : RR t xnc xns xnr xnl xnb xnv xnn xnh xnt xng xba xbs xbd xbe xbx xpr xpw xpt xpc xrn xca xst xps ymr ymm ypc yha yca ysp yfr yst yda yer yad ypg ytk yta yse yin yrw ywd ytm ybg yan ybs yva ynu) : ∃ o xba' xbs' xbd' xbe' xbx' xpr' xpw' xpt' xpc' xrn' xca' xst' xps' ymr' ymm' ypc' yha' yca' ysp' yfr' yst' yda' yer' yad' ypg' ytk' yta', fn_K_write xba xbs xbd xbe xbx xpr xpw xpt xpc xrn xca xst xps j v = some (o, xba', xbs', xbd', xbe', xbx', xpr', xpw', xpt', xpc', xrn', xca', xst', xps') ∧ fn_M_write ymr ymm ypc yha yca ysp yfr yst yda yer yad ypg ytk yta j v = some (o, ymr', ymm', ypc', yha', yca', ysp', yfr', yst', yda', yer', yad', ypg', ytk', yta') ∧ RR t xnc xns xnr xnl xnb xnv xnn xnh xnt xng xba' xbs' xbd' xbe' xbx' xpr' xpw' xpt' xpc' xrn' xca' xst' xps' ymr' ymm' ypc' yha' yca' ysp' yfr' yst' yda' yer' yad' ypg' ytk' yta' yse yin yrw ywd ytm ybg yan ybs yva ynu := by
  obtain ⟨b, s, i, ⟨rfl, rfl, rfl, rfl, rfl, rfl, rfl, rfl, rfl, rfl, rfl, rfl, rfl, rfl, rfl, rfl, rfl⟩, ⟨rfl, rfl, rfl, rfl, rfl, rfl⟩, hs, hi, hnb, hnv, hnn, hnh, hrow, hT, hB⟩ := hR
  unfold fn_K_write fn_B_hasRegister
  by_cases h1 : j < (0 : Int32)
  · refine ⟨(0 : Int32), xba, xbs, xbd, xbe, xbx, xpr, xpw, xpt, xpc, bI b, xca, xst, xps, xpr, xpw, xpc, bI (!b), xca, xbs, xps, xst, xbd, xbe, xbx, xba, ytk, yta, ?_, ?_, b, s, i, ⟨rfl, rfl, rfl, rfl, rfl, rfl, rfl, rfl, rfl, rfl, rfl, rfl, rfl, rfl, rfl, rfl, rfl⟩, ⟨rfl, rfl, rfl, rfl, rfl, rfl⟩, hs, hi, hnb, hnv, hnn, hnh, hrow, hT, hB⟩
    · rw [if_pos h1]; rfl
    · unfold fn_M_write fn_M_in
      rw [if_pos h1]; rfl
  by_cases h2 : (16 : Int32) ≤ j
  · refine ⟨(0 : Int32), xba, xbs, xbd, xbe, xbx, xpr, xpw, xpt, xpc, bI b, xca, xst, xps, xpr, xpw, xpc, bI (!b), xca, xbs, xps, xst, xbd, xbe, xbx, xba, ytk, yta, ?_, ?_, b, s, i, ⟨rfl, rfl, rfl, rfl, rfl, rfl, rfl, rfl, rfl, rfl, rfl, rfl, rfl, rfl, rfl, rfl, rfl⟩, ⟨rfl, rfl, rfl, rfl, rfl, rfl⟩, hs, hi, hnb, hnv, hnn, hnh, hrow, hT, hB⟩
    · rw [if_neg h1, if_pos h2]; rfl
    · have h3 : (15 : Int32) < j := Int32.lt_of_lt_of_le (by decide) h2
      unfold fn_M_write fn_M_in
      rw [if_neg h1, if_pos h3]; rfl
  obtain ⟨k, hk, rfl⟩ : ∃ k : Nat, k < 16 ∧ j = nI k := by
    rcases pk_ix j (n := 16) (by decide) with h | h | ⟨k, hk, e⟩
    · exact absurd h h1
    · exact absurd h h2
    · exact ⟨k, hk, e⟩
  obtain ⟨b', pgm', stp', dat', err', adr', reg', mem', xpt', tk', ta', pc', cau', st', fre', g1, g2, g3⟩ := sim_put b xst v k hk hB
  refine ⟨1, pgm', stp', dat', err', adr', reg', mem', xpt', pc', bI b', cau', st', fre', reg', mem', pc', bI (!b'), cau', stp', fre', st', dat', err', adr', pgm', tk', ta', ?_, g2, b', s, i, ⟨rfl, rfl, rfl, rfl, rfl, rfl, rfl, rfl, rfl, rfl, rfl, rfl, rfl, rfl, rfl, rfl, rfl⟩, ⟨rfl, rfl, rfl, rfl, rfl, rfl⟩, hs, hi, hnb, hnv, hnn, hnh, hrow, hT, g3⟩
  simp only [if_neg h1, if_neg h2, bs, if_neg z_10, g1]
theorem rr_state {t : Nat} {xnc : Int32} {xns : Int32} {xnr : Int32} {xnl : Int32} {xnb : Int32} {xnv : Int32} {xnn : Int32} {xnh : Int32} {xnt : Int32} {xng : Int32} {xba : Nat → Int32} {xbs : Int32} {xbd : Int32} {xbe : Int32} {xbx : Int32} {xpr : Nat → Int32} {xpw : Nat → Int32} {xpt : Nat → Int32} {xpc : Int32} {xrn : Int32} {xca : Int32} {xst : Int32} {xps : Int32} {ymr : Nat → Int32} {ymm : Nat → Int32} {ypc : Int32} {yha : Int32} {yca : Int32} {ysp : Int32} {yfr : Int32} {yst : Int32} {yda : Int32} {yer : Int32} {yad : Int32} {ypg : Nat → Int32} {ytk : Nat → Int32} {yta : Nat → Int32} {yse : Int32} {yin : Int32} {yrw : Nat → Int32} {ywd : Int32} {ytm : Int32} {ybg : Int32} {yan : Int32} {ybs : Int32} {yva : Int32} {ynu : Int32} (hR : RR t xnc xns xnr xnl xnb xnv xnn xnh xnt xng xba xbs xbd xbe xbx xpr xpw xpt xpc xrn xca xst xps ymr ymm ypc yha yca ysp yfr yst yda yer yad ypg ytk yta yse yin yrw ywd ytm ybg yan ybs yva ynu) : ∃ o, fn_K_state xnc = some o ∧ fn_M_state yse = some o := by
  obtain ⟨b, s, i, ⟨rfl, rfl, rfl, rfl, rfl, rfl, rfl, rfl, rfl, rfl, rfl, rfl, rfl, rfl, rfl, rfl, rfl⟩, ⟨rfl, rfl, rfl, rfl, rfl, rfl⟩, hs, hi, hnb, hnv, hnn, hnh, hrow, hT, hB⟩ := hR
  exact ⟨_, rfl, rfl⟩
theorem rr_instruction {t : Nat} {xnc : Int32} {xns : Int32} {xnr : Int32} {xnl : Int32} {xnb : Int32} {xnv : Int32} {xnn : Int32} {xnh : Int32} {xnt : Int32} {xng : Int32} {xba : Nat → Int32} {xbs : Int32} {xbd : Int32} {xbe : Int32} {xbx : Int32} {xpr : Nat → Int32} {xpw : Nat → Int32} {xpt : Nat → Int32} {xpc : Int32} {xrn : Int32} {xca : Int32} {xst : Int32} {xps : Int32} {ymr : Nat → Int32} {ymm : Nat → Int32} {ypc : Int32} {yha : Int32} {yca : Int32} {ysp : Int32} {yfr : Int32} {yst : Int32} {yda : Int32} {yer : Int32} {yad : Int32} {ypg : Nat → Int32} {ytk : Nat → Int32} {yta : Nat → Int32} {yse : Int32} {yin : Int32} {yrw : Nat → Int32} {ywd : Int32} {ytm : Int32} {ybg : Int32} {yan : Int32} {ybs : Int32} {yva : Int32} {ynu : Int32} (hR : RR t xnc xns xnr xnl xnb xnv xnn xnh xnt xng xba xbs xbd xbe xbx xpr xpw xpt xpc xrn xca xst xps ymr ymm ypc yha yca ysp yfr yst yda yer yad ypg ytk yta yse yin yrw ywd ytm ybg yan ybs yva ynu) : ∃ o, fn_K_instruction xns = some o ∧ fn_M_instruction yin = some o := by
  obtain ⟨b, s, i, ⟨rfl, rfl, rfl, rfl, rfl, rfl, rfl, rfl, rfl, rfl, rfl, rfl, rfl, rfl, rfl, rfl, rfl⟩, ⟨rfl, rfl, rfl, rfl, rfl, rfl⟩, hs, hi, hnb, hnv, hnn, hnh, hrow, hT, hB⟩ := hR
  exact ⟨_, rfl, rfl⟩
theorem rr_pc {t : Nat} {xnc : Int32} {xns : Int32} {xnr : Int32} {xnl : Int32} {xnb : Int32} {xnv : Int32} {xnn : Int32} {xnh : Int32} {xnt : Int32} {xng : Int32} {xba : Nat → Int32} {xbs : Int32} {xbd : Int32} {xbe : Int32} {xbx : Int32} {xpr : Nat → Int32} {xpw : Nat → Int32} {xpt : Nat → Int32} {xpc : Int32} {xrn : Int32} {xca : Int32} {xst : Int32} {xps : Int32} {ymr : Nat → Int32} {ymm : Nat → Int32} {ypc : Int32} {yha : Int32} {yca : Int32} {ysp : Int32} {yfr : Int32} {yst : Int32} {yda : Int32} {yer : Int32} {yad : Int32} {ypg : Nat → Int32} {ytk : Nat → Int32} {yta : Nat → Int32} {yse : Int32} {yin : Int32} {yrw : Nat → Int32} {ywd : Int32} {ytm : Int32} {ybg : Int32} {yan : Int32} {ybs : Int32} {yva : Int32} {ynu : Int32} (hR : RR t xnc xns xnr xnl xnb xnv xnn xnh xnt xng xba xbs xbd xbe xbx xpr xpw xpt xpc xrn xca xst xps ymr ymm ypc yha yca ysp yfr yst yda yer yad ypg ytk yta yse yin yrw ywd ytm ybg yan ybs yva ynu) : ∃ o, fn_K_pc xpc = some o ∧ fn_M_pc ypc = some o := by
  obtain ⟨b, s, i, ⟨rfl, rfl, rfl, rfl, rfl, rfl, rfl, rfl, rfl, rfl, rfl, rfl, rfl, rfl, rfl, rfl, rfl⟩, ⟨rfl, rfl, rfl, rfl, rfl, rfl⟩, hs, hi, hnb, hnv, hnn, hnh, hrow, hT, hB⟩ := hR
  exact ⟨_, rfl, rfl⟩
theorem rr_steps {t : Nat} {xnc : Int32} {xns : Int32} {xnr : Int32} {xnl : Int32} {xnb : Int32} {xnv : Int32} {xnn : Int32} {xnh : Int32} {xnt : Int32} {xng : Int32} {xba : Nat → Int32} {xbs : Int32} {xbd : Int32} {xbe : Int32} {xbx : Int32} {xpr : Nat → Int32} {xpw : Nat → Int32} {xpt : Nat → Int32} {xpc : Int32} {xrn : Int32} {xca : Int32} {xst : Int32} {xps : Int32} {ymr : Nat → Int32} {ymm : Nat → Int32} {ypc : Int32} {yha : Int32} {yca : Int32} {ysp : Int32} {yfr : Int32} {yst : Int32} {yda : Int32} {yer : Int32} {yad : Int32} {ypg : Nat → Int32} {ytk : Nat → Int32} {yta : Nat → Int32} {yse : Int32} {yin : Int32} {yrw : Nat → Int32} {ywd : Int32} {ytm : Int32} {ybg : Int32} {yan : Int32} {ybs : Int32} {yva : Int32} {ynu : Int32} (hR : RR t xnc xns xnr xnl xnb xnv xnn xnh xnt xng xba xbs xbd xbe xbx xpr xpw xpt xpc xrn xca xst xps ymr ymm ypc yha yca ysp yfr yst yda yer yad ypg ytk yta yse yin yrw ywd ytm ybg yan ybs yva ynu) : ∃ o, fn_K_steps xst = some o ∧ fn_M_steps yst = some o := by
  obtain ⟨b, s, i, ⟨rfl, rfl, rfl, rfl, rfl, rfl, rfl, rfl, rfl, rfl, rfl, rfl, rfl, rfl, rfl, rfl, rfl⟩, ⟨rfl, rfl, rfl, rfl, rfl, rfl⟩, hs, hi, hnb, hnv, hnn, hnh, hrow, hT, hB⟩ := hR
  exact ⟨_, rfl, rfl⟩
theorem rr_register {t : Nat} {xnc : Int32} {xns : Int32} {xnr : Int32} {xnl : Int32} {xnb : Int32} {xnv : Int32} {xnn : Int32} {xnh : Int32} {xnt : Int32} {xng : Int32} {xba : Nat → Int32} {xbs : Int32} {xbd : Int32} {xbe : Int32} {xbx : Int32} {xpr : Nat → Int32} {xpw : Nat → Int32} {xpt : Nat → Int32} {xpc : Int32} {xrn : Int32} {xca : Int32} {xst : Int32} {xps : Int32} {ymr : Nat → Int32} {ymm : Nat → Int32} {ypc : Int32} {yha : Int32} {yca : Int32} {ysp : Int32} {yfr : Int32} {yst : Int32} {yda : Int32} {yer : Int32} {yad : Int32} {ypg : Nat → Int32} {ytk : Nat → Int32} {yta : Nat → Int32} {yse : Int32} {yin : Int32} {yrw : Nat → Int32} {ywd : Int32} {ytm : Int32} {ybg : Int32} {yan : Int32} {ybs : Int32} {yva : Int32} {ynu : Int32} (j : Int32) (hR : RR t xnc xns xnr xnl xnb xnv xnn xnh xnt xng xba xbs xbd xbe xbx xpr xpw xpt xpc xrn xca xst xps ymr ymm ypc yha yca ysp yfr yst yda yer yad ypg ytk yta yse yin yrw ywd ytm ybg yan ybs yva ynu) : ∃ o, fn_K_register xpr j = some o ∧ fn_M_register ymr j = some o := by
  obtain ⟨b, s, i, ⟨rfl, rfl, rfl, rfl, rfl, rfl, rfl, rfl, rfl, rfl, rfl, rfl, rfl, rfl, rfl, rfl, rfl⟩, ⟨rfl, rfl, rfl, rfl, rfl, rfl⟩, hs, hi, hnb, hnv, hnn, hnh, hrow, hT, hB⟩ := hR
  unfold fn_K_register fn_M_register fn_M_in
  by_cases h1 : j < (0 : Int32)
  · refine ⟨(-1 : Int32), ?_, ?_⟩
    · rw [if_pos h1]
    · rw [if_pos h1]; rfl
  by_cases h2 : (8 : Int32) ≤ j
  · have h3 : (7 : Int32) < j := Int32.lt_of_lt_of_le (by decide) h2
    refine ⟨(-1 : Int32), ?_, ?_⟩
    · rw [if_neg h1, if_pos h2]
    · rw [if_neg h1, if_pos h3]; rfl
  obtain ⟨k, hk, rfl⟩ : ∃ k : Nat, k < 8 ∧ j = nI k := by
    rcases pk_ix j (n := 8) (by decide) with h | h | ⟨k, hk, e⟩
    · exact absurd h h1
    · exact absurd h h2
    · exact ⟨k, hk, e⟩
  have h3 : ¬ (7 : Int32) < nI k := nI_nlt (a := 7) (by omega) (by omega)
  have hv : vp_in (nI k) 8 := vp_in_nI hk (by decide)
  simp only [if_neg h1, if_neg h2, ck_eq hv, if_neg h3, bs, if_neg z_10]
  exact ⟨_, rfl, rfl⟩
theorem rr_word {t : Nat} {xnc : Int32} {xns : Int32} {xnr : Int32} {xnl : Int32} {xnb : Int32} {xnv : Int32} {xnn : Int32} {xnh : Int32} {xnt : Int32} {xng : Int32} {xba : Nat → Int32} {xbs : Int32} {xbd : Int32} {xbe : Int32} {xbx : Int32} {xpr : Nat → Int32} {xpw : Nat → Int32} {xpt : Nat → Int32} {xpc : Int32} {xrn : Int32} {xca : Int32} {xst : Int32} {xps : Int32} {ymr : Nat → Int32} {ymm : Nat → Int32} {ypc : Int32} {yha : Int32} {yca : Int32} {ysp : Int32} {yfr : Int32} {yst : Int32} {yda : Int32} {yer : Int32} {yad : Int32} {ypg : Nat → Int32} {ytk : Nat → Int32} {yta : Nat → Int32} {yse : Int32} {yin : Int32} {yrw : Nat → Int32} {ywd : Int32} {ytm : Int32} {ybg : Int32} {yan : Int32} {ybs : Int32} {yva : Int32} {ynu : Int32} (j : Int32) (hR : RR t xnc xns xnr xnl xnb xnv xnn xnh xnt xng xba xbs xbd xbe xbx xpr xpw xpt xpc xrn xca xst xps ymr ymm ypc yha yca ysp yfr yst yda yer yad ypg ytk yta yse yin yrw ywd ytm ybg yan ybs yva ynu) : ∃ o, fn_K_word xpw j = some o ∧ fn_M_word ymm j = some o := by
  obtain ⟨b, s, i, ⟨rfl, rfl, rfl, rfl, rfl, rfl, rfl, rfl, rfl, rfl, rfl, rfl, rfl, rfl, rfl, rfl, rfl⟩, ⟨rfl, rfl, rfl, rfl, rfl, rfl⟩, hs, hi, hnb, hnv, hnn, hnh, hrow, hT, hB⟩ := hR
  unfold fn_K_word fn_M_word fn_M_in
  by_cases h1 : j < (0 : Int32)
  · refine ⟨(-1 : Int32), ?_, ?_⟩
    · rw [if_pos h1]
    · rw [if_pos h1]; rfl
  by_cases h2 : (64 : Int32) ≤ j
  · have h3 : (63 : Int32) < j := Int32.lt_of_lt_of_le (by decide) h2
    refine ⟨(-1 : Int32), ?_, ?_⟩
    · rw [if_neg h1, if_pos h2]
    · rw [if_neg h1, if_pos h3]; rfl
  obtain ⟨k, hk, rfl⟩ : ∃ k : Nat, k < 64 ∧ j = nI k := by
    rcases pk_ix j (n := 64) (by decide) with h | h | ⟨k, hk, e⟩
    · exact absurd h h1
    · exact absurd h h2
    · exact ⟨k, hk, e⟩
  have h3 : ¬ (63 : Int32) < nI k := nI_nlt (a := 63) (by omega) (by omega)
  have hv : vp_in (nI k) 64 := vp_in_nI hk (by decide)
  simp only [if_neg h1, if_neg h2, ck_eq hv, if_neg h3, bs, if_neg z_10]
  exact ⟨_, rfl, rfl⟩
theorem rr_start : RR 0 (0 : Int32) (1 : Int32) (0 : Int32) (1 : Int32) (0 : Int32) (0 : Int32) (0 : Int32) (0 : Int32) (0 : Int32) (0 : Int32) (fun _ => 0) (0 : Int32) (0 : Int32) (0 : Int32) (0 : Int32) (fun _ => 0) (fun _ => 0) (fun _ => 0) (0 : Int32) (1 : Int32) (0 : Int32) (0 : Int32) (0 : Int32) (fun _ => 0) (fun _ => 0) (0 : Int32) (0 : Int32) (0 : Int32) (0 : Int32) (0 : Int32) (0 : Int32) (0 : Int32) (0 : Int32) (0 : Int32) (fun _ => 0) (fun _ => 0) (fun _ => 0) (0 : Int32) (1 : Int32) (fun _ => 0) (0 : Int32) (0 : Int32) (0 : Int32) (0 : Int32) (0 : Int32) (0 : Int32) (0 : Int32) := by
  have z : ∀ n : Nat, 0 < n → lo n (0 : Int32) := fun n h => ⟨0, h, rfl⟩
  refine ⟨true, 0, 1, ⟨rfl, rfl, rfl, rfl, rfl, rfl, rfl, rfl, rfl, rfl, rfl, rfl, rfl, rfl, rfl, rfl, rfl⟩, ⟨rfl, rfl, rfl, rfl, rfl, rfl⟩, by decide, by decide, z 2 (by decide), z 65536 (by decide), z 16 (by decide), z 2 (by decide), ⟨fun h => absurd h (by decide), fun h => absurd h (by decide)⟩, ⟨by decide, fun h => absurd rfl h⟩, ?_⟩
  refine ⟨fun _ => z _ (by decide), z 2 (by decide), z 65536 (by decide), z 4 (by decide), z 64 (by decide), ⟨fun _ => z _ (by decide), fun _ => z _ (by decide), z 64 (by decide), z 5 (by decide)⟩, ?_, z 2 (by decide)⟩
  exact fun i => ⟨0, 0, by decide, by decide, rfl, rfl, rfl⟩
