/-! put and write -/
def okB (pgm : Nat → Int32) (stp dat err adr : Int32) (reg mem xpt tk ta : Nat → Int32) (pc cau fre : Int32) : Prop :=
  (∀ k, lo 65536 (pgm k)) ∧ lo 2 stp ∧ lo 65536 dat ∧ lo 4 err ∧ lo 64 adr ∧ okS reg mem pc cau ∧ trp xpt tk ta ∧ lo 2 fre
theorem nI_and (a b : Nat) : nI a &&& nI b = nI (a &&& b) := by
  apply Int32.toBitVec_inj.1
  show BitVec.ofNat 32 a &&& BitVec.ofNat 32 b = BitVec.ofNat 32 (a &&& b)
  apply BitVec.eq_of_getLsbD_eq
  intro i hi
  simp [hi]
theorem n192 : ∀ u, u < 256 → u &&& 192 = 64 * (u / 64) := by decide +kernel
theorem and192 (V : Nat) : nI V &&& (192 : Int32) = nI (64 * (V / 64 % 4)) := by
  have h1 : nI V &&& (192 : Int32) = nI (V &&& 192) := nI_and V 192
  rw [h1]
  congr 1
  have h2 : V &&& 192 = (V % 256) &&& 192 := by
    have h3 : V % 256 = V &&& 255 := (Nat.and_two_pow_sub_one_eq_mod V 8).symm
    rw [h3, Nat.and_assoc, show (255 &&& 192 : Nat) = 192 from by decide]
  rw [h2, n192 (V % 256) (by omega)]
  omega
theorem trp_put {xpt tk ta : Nat → Int32} (h : trp xpt tk ta) (i : Nat) {a k : Nat} (ha : a < 64) (hk : k < 3) {x y z : Int32} (hx : x = nI (a + 64 * k)) (hy : y = nI k) (hz : z = nI a) : trp (upd xpt i x) (upd tk i y) (upd ta i z) := by
  intro j
  by_cases hj : j = i
  · subst hj
    rw [pk_us, pk_us, pk_us]
    exact ⟨a, k, ha, hk, hz, hy, hx⟩
  · rw [pk_un hj, pk_un hj, pk_un hj]
    exact h j
theorem trp_set {xpt tk ta : Nat → Int32} (h : trp xpt tk ta) (i : Nat) {v : Int32} (hv : lo 65536 v) :
    (v &&& (192 : Int32) = (192 : Int32) ∧ (v >>> ((6 : Int32) &&& (31 : Int32))) &&& (3 : Int32) = (3 : Int32) ∧ trp (upd xpt i (v &&& (63 : Int32))) (upd tk i 0) (upd ta i (v &&& (63 : Int32)))) ∨
    (¬ v &&& (192 : Int32) = (192 : Int32) ∧ ¬ (v >>> ((6 : Int32) &&& (31 : Int32))) &&& (3 : Int32) = (3 : Int32) ∧ trp (upd xpt i (v &&& (255 : Int32))) (upd tk i ((v >>> ((6 : Int32) &&& (31 : Int32))) &&& (3 : Int32))) (upd ta i (v &&& (63 : Int32)))) := by
  obtain ⟨V, hV, rfl⟩ := hv
  have e1 : nI V >>> ((6 : Int32) &&& (31 : Int32)) = nI (V / 2 ^ 6) := pk_shrN (by omega) _ 6 (by decide)
  have e2 : nI (V / 2 ^ 6) &&& (3 : Int32) = nI (V / 2 ^ 6 % 2 ^ 2) := pk_andN (by omega) 2 (by decide)
  have e3 : nI V &&& (63 : Int32) = nI (V % 2 ^ 6) := pk_andN (by omega) 6 (by decide)
  have e4 : nI V &&& (255 : Int32) = nI (V % 2 ^ 8) := pk_andN (by omega) 8 (by decide)
  rw [e1, e2, e3, e4, and192]
  have e5 : (nI (64 * (V / 64 % 4)) = (192 : Int32)) ↔ V / 64 % 4 = 3 := by
    have : (nI (64 * (V / 64 % 4)) = nI 192) ↔ 64 * (V / 64 % 4) = 192 := nI_eq (by omega) (by omega)
    exact this.trans (by omega)
  have e6 : (nI (V / 2 ^ 6 % 2 ^ 2) = (3 : Int32)) ↔ V / 64 % 4 = 3 := by
    have : (nI (V / 2 ^ 6 % 2 ^ 2) = nI 3) ↔ V / 2 ^ 6 % 2 ^ 2 = 3 := nI_eq (by omega) (by omega)
    exact this
  rw [e5, e6]
  by_cases h3 : V / 64 % 4 = 3
  · refine Or.inl ⟨h3, h3, trp_put h i (a := V % 64) (k := 0) (by omega) (by omega) rfl rfl rfl⟩
  · refine Or.inr ⟨h3, h3, trp_put h i (a := V % 64) (k := V / 64 % 4) (by omega) (by omega) ?_ rfl rfl⟩
    congr 1
    omega
set_option maxHeartbeats 4000000 in
theorem sim_put {pgm reg mem xpt tk ta : Nat → Int32} {stp dat err adr pc cau fre : Int32} (b : Bool) (st raw : Int32) (k : Nat) (hk : k < 16) (h : okB pgm stp dat err adr reg mem xpt tk ta pc cau fre) :
    ∃ b' pgm' stp' dat' err' adr' reg' mem' xpt' tk' ta' pc' cau' st' fre',
      fn_B_put pgm stp dat err adr reg mem xpt pc (bI b) cau st fre (nI k) (raw &&& (65535 : Int32)) = some (pgm', stp', dat', err', adr', reg', mem', xpt', pc', bI b', cau', st', fre') ∧
      fn_M_write reg mem pc (bI (!b)) cau stp fre st dat err adr pgm tk ta (nI k) raw = some (1, reg', mem', pc', bI (!b'), cau', stp', fre', st', dat', err', adr', pgm', tk', ta') ∧
      okB pgm' stp' dat' err' adr' reg' mem' xpt' tk' ta' pc' cau' fre' := by
  have hv : lo 65536 (raw &&& (65535 : Int32)) := lo_65535 raw
  have hw : ∀ j, fn_M_write reg mem pc (bI (!b)) cau stp fre st dat err adr pgm tk ta j raw = fn_M_write reg mem pc (bI (!b)) cau stp fre st dat err adr pgm tk ta j raw := fun _ => rfl
  generalize hr : raw &&& (65535 : Int32) = v at hv ⊢
  obtain ⟨hg, hs, hd, he, ha, hS, ht, hF⟩ := h
  have va := lo_in ha (by decide)
  have key : ∀ (j : Int32) (b' : Bool) (pgm' : Nat → Int32) (stp' dat' err' adr' : Int32) (reg' mem' xpt' tk' ta' : Nat → Int32) (pc' cau' st' fre' : Int32),
      fn_B_put pgm stp dat err adr reg mem xpt pc (bI b) cau st fre j v = some (pgm', stp', dat', err', adr', reg', mem', xpt', pc', bI b', cau', st', fre') →
      fn_M_write reg mem pc (bI (!b)) cau stp fre st dat err adr pgm tk ta j raw = some (1, reg', mem', pc', bI (!b'), cau', stp', fre', st', dat', err', adr', pgm', tk', ta') →
      okB pgm' stp' dat' err' adr' reg' mem' xpt' tk' ta' pc' cau' fre' →
      ∃ b' pgm' stp' dat' err' adr' reg' mem' xpt' tk' ta' pc' cau' st' fre',
      fn_B_put pgm stp dat err adr reg mem xpt pc (bI b) cau st fre j v = some (pgm', stp', dat', err', adr', reg', mem', xpt', pc', bI b', cau', st', fre') ∧
      fn_M_write reg mem pc (bI (!b)) cau stp fre st dat err adr pgm tk ta j raw = some (1, reg', mem', pc', bI (!b'), cau', stp', fre', st', dat', err', adr', pgm', tk', ta') ∧
      okB pgm' stp' dat' err' adr' reg' mem' xpt' tk' ta' pc' cau' fre' := fun j b' q1 q2 q3 q4 q5 q6 q7 q8 q9 q10 q11 q12 q13 q14 h1 h2 h3 => ⟨b', q1, q2, q3, q4, q5, q6, q7, q8, q9, q10, q11, q12, q13, q14, h1, h2, h3⟩
  have hk' : k = 0 ∨ k = 1 ∨ k = 2 ∨ k = 3 ∨ k = 4 ∨ k = 5 ∨ k = 6 ∨ k = 7 ∨ k = 8 ∨ k = 9 ∨ k = 10 ∨ k = 11 ∨ k = 12 ∨ k = 13 ∨ k = 14 ∨ k = 15 := by omega
  have same : okB pgm stp dat err adr reg mem xpt tk ta pc cau fre := ⟨hg, hs, hd, he, ha, hS, ht, hF⟩
  rcases hk' with rfl | rfl | rfl | rfl | rfl | rfl | rfl | rfl | rfl | rfl | rfl | rfl | rfl | rfl | rfl | rfl
  · obtain ⟨b', sp', r', m', p', c', s', f', g1, g2, g3, g4, g5⟩ := sim_control b stp st v hS ht hF
    exact key (0 : Int32) b' pgm sp' dat err adr r' m' xpt tk ta p' c' s' f'
      (by simp (decide := true) [fn_B_put, fn_B_put_J46, g1]) (by simp (decide := true) [fn_M_write, fn_M_in, fn_M_write_J90, fn_M_write_J109, fn_M_write_J136, hr, g2]) ⟨hg, g5, hd, he, ha, g3, ht, g4⟩
  · exact key (1 : Int32) b pgm stp dat err adr reg mem xpt tk ta pc cau st fre (by simp (decide := true) [fn_B_put, fn_B_put_J46]) (by simp (decide := true) [fn_M_write, fn_M_in, fn_M_write_J90, fn_M_write_J109, fn_M_write_J136]) same
  · exact key (2 : Int32) b pgm stp v err adr reg mem xpt tk ta pc cau st fre (by simp (decide := true) [fn_B_put, fn_B_put_J46]) (by simp (decide := true) [fn_M_write, fn_M_in, fn_M_write_J90, fn_M_write_J109, fn_M_write_J136, hr]) ⟨hg, hs, hv, he, ha, hS, ht, hF⟩
  · obtain ⟨d', e', r', m', p', g1, g2, g3, g4, g5⟩ := sim_command (cau := cau) b v hg hd he hS
    exact key (3 : Int32) b pgm stp d' e' adr r' m' xpt tk ta p' cau st fre
      (by simp (decide := true) [fn_B_put, fn_B_put_J46, g1]) (by simp (decide := true) [fn_M_write, fn_M_in, fn_M_write_J90, fn_M_write_J109, fn_M_write_J136, hr, g2]) ⟨hg, hs, g3, g4, ha, g5, ht, hF⟩
  · by_cases h1 : v &&& (1 : Int32) = (1 : Int32)
    · exact key (4 : Int32) b pgm stp dat 0 adr reg mem xpt tk ta pc cau st fre (by simp (decide := true) [fn_B_put, fn_B_put_J46, h1]) (by simp (decide := true) [fn_M_write, fn_M_in, fn_M_write_J90, fn_M_write_J109, fn_M_write_J136, hr, h1]) ⟨hg, hs, hd, ⟨0, by decide, rfl⟩, ha, hS, ht, hF⟩
    · exact key (4 : Int32) b pgm stp dat err adr reg mem xpt tk ta pc cau st fre (by simp (decide := true) [fn_B_put, fn_B_put_J46, h1]) (by simp (decide := true) [fn_M_write, fn_M_in, fn_M_write_J90, fn_M_write_J109, fn_M_write_J136, hr, h1]) same
  · exact key (5 : Int32) b (upd pgm 0 v) stp dat err adr reg mem xpt tk ta pc cau st fre (by simp (decide := true) [fn_B_put, ck, tn_0]) (by simp (decide := true) [fn_M_write, fn_M_in, fn_M_write_J90, fn_M_write_J109, fn_M_write_J136, hr, ck, tn_0]) ⟨lo_upd hg _ hv, hs, hd, he, ha, hS, ht, hF⟩
  · exact key (6 : Int32) b (upd pgm 1 v) stp dat err adr reg mem xpt tk ta pc cau st fre (by simp (decide := true) [fn_B_put, ck, tn_1]) (by simp (decide := true) [fn_M_write, fn_M_in, fn_M_write_J90, fn_M_write_J109, fn_M_write_J136, hr, ck, tn_1]) ⟨lo_upd hg _ hv, hs, hd, he, ha, hS, ht, hF⟩
  · exact key (7 : Int32) b (upd pgm 2 v) stp dat err adr reg mem xpt tk ta pc cau st fre (by simp (decide := true) [fn_B_put, ck]) (by simp (decide := true) [fn_M_write, fn_M_in, fn_M_write_J90, fn_M_write_J109, fn_M_write_J136, hr, ck]) ⟨lo_upd hg _ hv, hs, hd, he, ha, hS, ht, hF⟩
  · exact key (8 : Int32) b (upd pgm 3 v) stp dat err adr reg mem xpt tk ta pc cau st fre (by simp (decide := true) [fn_B_put, ck]) (by simp (decide := true) [fn_M_write, fn_M_in, fn_M_write_J90, fn_M_write_J109, fn_M_write_J136, hr, ck]) ⟨lo_upd hg _ hv, hs, hd, he, ha, hS, ht, hF⟩
  · exact key (9 : Int32) b pgm stp dat err (v &&& (63 : Int32)) reg mem xpt tk ta pc cau st fre (by simp (decide := true) [fn_B_put, fn_B_put_J46]) (by simp (decide := true) [fn_M_write, fn_M_in, fn_M_write_J90, fn_M_write_J109, fn_M_write_J136, hr, rl64 hv (by decide)]) ⟨hg, hs, hd, he, lo_63 _, hS, ht, hF⟩
  · exact key (10 : Int32) b pgm stp dat err ((adr + (1 : Int32)) &&& (63 : Int32)) reg (upd mem (Int32.toNatClampNeg adr) v) xpt tk ta pc cau st fre (by simp (decide := true) [fn_B_put, fn_B_put_J46, fn_B_passAddress, ck_eq va]) (by simp (decide := true) [fn_M_write, fn_M_in, fn_M_write_J90, fn_M_write_J109, fn_M_write_J136, fn_M_next, hr, ck_eq va, rl64_1 ha]) ⟨hg, hs, hd, he, lo_63 _, ⟨hS.1, lo_upd hS.2.1 _ hv, hS.2.2⟩, ht, hF⟩
  · rcases trp_set ht 0 hv with ⟨h1, h2, h3⟩ | ⟨h1, h2, h3⟩
    · exact key (11 : Int32) b pgm stp dat err adr reg mem (upd xpt 0 (v &&& (63 : Int32))) (upd tk 0 0) (upd ta 0 (v &&& (63 : Int32))) pc cau st fre (by simp (decide := true) [fn_B_put, fn_P_setTrap, h1, ck, tn_0]) (by simp (decide := true) [fn_M_write, fn_M_in, fn_M_write_J48, fn_M_write_J90, fn_M_write_J109, fn_M_write_J136, hr, h2, ck, tn_0]) ⟨hg, hs, hd, he, ha, hS, h3, hF⟩
    · exact key (11 : Int32) b pgm stp dat err adr reg mem (upd xpt 0 (v &&& (255 : Int32))) (upd tk 0 ((v >>> ((6 : Int32) &&& (31 : Int32))) &&& (3 : Int32))) (upd ta 0 (v &&& (63 : Int32))) pc cau st fre (by simp (decide := true) [fn_B_put, fn_P_setTrap, h1, ck, tn_0]) (by simp (decide := true) [fn_M_write, fn_M_in, fn_M_write_J48, fn_M_write_J90, fn_M_write_J109, fn_M_write_J136, hr, h2, ck, tn_0]) ⟨hg, hs, hd, he, ha, hS, h3, hF⟩
  · rcases trp_set ht 1 hv with ⟨h1, h2, h3⟩ | ⟨h1, h2, h3⟩
    · exact key (12 : Int32) b pgm stp dat err adr reg mem (upd xpt 1 (v &&& (63 : Int32))) (upd tk 1 0) (upd ta 1 (v &&& (63 : Int32))) pc cau st fre (by simp (decide := true) [fn_B_put, fn_P_setTrap, h1, ck, tn_1]) (by simp (decide := true) [fn_M_write, fn_M_in, fn_M_write_J48, fn_M_write_J90, fn_M_write_J109, fn_M_write_J136, hr, h2, ck, tn_1]) ⟨hg, hs, hd, he, ha, hS, h3, hF⟩
    · exact key (12 : Int32) b pgm stp dat err adr reg mem (upd xpt 1 (v &&& (255 : Int32))) (upd tk 1 ((v >>> ((6 : Int32) &&& (31 : Int32))) &&& (3 : Int32))) (upd ta 1 (v &&& (63 : Int32))) pc cau st fre (by simp (decide := true) [fn_B_put, fn_P_setTrap, h1, ck, tn_1]) (by simp (decide := true) [fn_M_write, fn_M_in, fn_M_write_J48, fn_M_write_J90, fn_M_write_J109, fn_M_write_J136, hr, h2, ck, tn_1]) ⟨hg, hs, hd, he, ha, hS, h3, hF⟩
  · exact key (13 : Int32) b pgm stp dat err adr reg mem xpt tk ta pc cau st fre (by simp (decide := true) [fn_B_put, fn_B_put_J46]) (by simp (decide := true) [fn_M_write, fn_M_in, fn_M_write_J90, fn_M_write_J109, fn_M_write_J136]) same
  · exact key (14 : Int32) b pgm stp dat err adr reg mem xpt tk ta pc cau st fre (by simp (decide := true) [fn_B_put, fn_B_put_J46]) (by simp (decide := true) [fn_M_write, fn_M_in, fn_M_write_J90, fn_M_write_J109, fn_M_write_J136]) same
  · exact key (15 : Int32) b pgm stp dat err adr reg mem xpt tk ta pc cau st fre (by simp (decide := true) [fn_B_put, fn_B_put_J46]) (by simp (decide := true) [fn_M_write, fn_M_in, fn_M_write_J90, fn_M_write_J109, fn_M_write_J136]) same
