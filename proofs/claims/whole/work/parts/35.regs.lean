/-! the module's registers: fetch and read, put and write -/
theorem stat_n : ∀ c, c < 8 → ∀ p, p < 64 → ((0 : Int32) ||| (nI c <<< ((1 : Int32) &&& (31 : Int32)))) ||| (nI p <<< ((4 : Int32) &&& (31 : Int32))) = nI (2 * c + 16 * p) ∧ ((1 : Int32) ||| (nI c <<< ((1 : Int32) &&& (31 : Int32)))) ||| (nI p <<< ((4 : Int32) &&& (31 : Int32))) = nI (1 + 2 * c + 16 * p) ∧ ((0 : Int32) + ((2 : Int32) * nI c)) + ((16 : Int32) * nI p) = nI (2 * c + 16 * p) ∧ ((1 : Int32) + ((2 : Int32) * nI c)) + ((16 : Int32) * nI p) = nI (1 + 2 * c + 16 * p) := by decide +kernel
theorem trp_sum {xpt tk ta : Nat → Int32} (h : trp xpt tk ta) (i : Nat) : ta i + (64 : Int32) * tk i = xpt i ∧ lo 65536 (xpt i) := by
  obtain ⟨a, k, ha, hk, e1, e2, e3⟩ := h i
  have e4 : (64 : Int32) * nI k = nI (64 * k) := pk_mul 64 k
  rw [e1, e2, e3, e4, nI_add]
  exact ⟨rfl, ⟨a + 64 * k, by omega, rfl⟩⟩
theorem adr_1 {adr : Int32} (h : lo 64 adr) : lo 64 ((adr + (1 : Int32)) &&& (63 : Int32)) := lo_63 _
/-- a register below sixteen: the same answer, the same address behind it -/
theorem sim_fetch {pgm mem xpt tk ta : Nat → Int32} {stp dat err adr pc cau : Int32} (b : Bool) (k : Nat) (hk : k < 16) (hg : ∀ k, lo 65536 (pgm k)) (hd : lo 65536 dat) (he : lo 4 err) (ha : lo 64 adr) (hm : ∀ k, lo 65536 (mem k)) (hp : lo 64 pc) (hc : lo 5 cau) (ht : trp xpt tk ta) :
    ∃ a x, fn_B_fetch pgm stp dat err adr mem xpt pc (bI b) cau (nI k) = some (a, x) ∧ fn_M_read mem pc (bI (!b)) cau stp dat err adr pgm tk ta (nI k) = some (a, x) ∧ lo 65536 a ∧ lo 64 x := by
  have hz : lo 65536 (0 : Int32) := ⟨0, by decide, rfl⟩
  have t0 := trp_sum ht 0
  have t1 := trp_sum ht 1
  have va := lo_in ha (by decide)
  have vi2_0 : vp_in ((11 : Int32) - (11 : Int32)) 2 := by unfold vp_in; decide
  have vi2_1 : vp_in ((12 : Int32) - (11 : Int32)) 2 := by unfold vp_in; decide
  have n11 : Int32.toNatClampNeg ((11 : Int32) - (11 : Int32)) = 0 := by decide
  have n12 : Int32.toNatClampNeg ((12 : Int32) - (11 : Int32)) = 1 := by decide
  obtain ⟨c, hc5, rfl⟩ := hc
  obtain ⟨p, hp64, rfl⟩ := hp
  have sn := stat_n c (by omega) p hp64
  have key : ∀ (j : Int32) (a x : Int32), lo 65536 a → lo 64 x → fn_B_fetch pgm stp dat err adr mem xpt (nI p) (bI b) (nI c) j = some (a, x) → fn_M_read mem (nI p) (bI (!b)) (nI c) stp dat err adr pgm tk ta j = some (a, x) → ∃ a x, fn_B_fetch pgm stp dat err adr mem xpt (nI p) (bI b) (nI c) j = some (a, x) ∧ fn_M_read mem (nI p) (bI (!b)) (nI c) stp dat err adr pgm tk ta j = some (a, x) ∧ lo 65536 a ∧ lo 64 x := fun j a x h1 h2 h3 h4 => ⟨a, x, h3, h4, h1, h2⟩
  have hk' : k = 0 ∨ k = 1 ∨ k = 2 ∨ k = 3 ∨ k = 4 ∨ k = 5 ∨ k = 6 ∨ k = 7 ∨ k = 8 ∨ k = 9 ∨ k = 10 ∨ k = 11 ∨ k = 12 ∨ k = 13 ∨ k = 14 ∨ k = 15 := by omega
  rcases hk' with rfl | rfl | rfl | rfl | rfl | rfl | rfl | rfl | rfl | rfl | rfl | rfl | rfl | rfl | rfl | rfl
  · by_cases hs : stp = (0 : Int32)
    · exact key (0 : Int32) 0 adr hz ha (by simp (decide := true) [fn_B_fetch, fn_B_fetch_J45, hs]) (by simp (decide := true) [fn_M_read, fn_M_in, hs])
    · exact key (0 : Int32) 4 adr ⟨4, by decide, rfl⟩ ha (by simp (decide := true) [fn_B_fetch, fn_B_fetch_J45, hs]) (by simp (decide := true) [fn_M_read, fn_M_in, hs])
  · cases b with
    | true =>
      refine key (1 : Int32) (nI (2 * c + 16 * p)) adr ⟨_, by omega, rfl⟩ ha ?_ ?_
      · rw [← sn.1]
        simp (decide := true) [fn_B_fetch, fn_B_fetch_J45, fn_P_status, bI]
      · rw [← sn.2.2.1]
        simp (decide := true) [fn_M_read, fn_M_in, bI]
    | false =>
      refine key (1 : Int32) (nI (1 + 2 * c + 16 * p)) adr ⟨_, by omega, rfl⟩ ha ?_ ?_
      · rw [← sn.2.1]
        simp (decide := true) [fn_B_fetch, fn_B_fetch_J45, fn_P_status, bI]
      · rw [← sn.2.2.2]
        simp (decide := true) [fn_M_read, fn_M_in, bI]
  · exact key (2 : Int32) dat adr hd ha (by simp (decide := true) [fn_B_fetch, fn_B_fetch_J45]) (by simp (decide := true) [fn_M_read, fn_M_in])
  · exact key (3 : Int32) 0 adr hz ha (by simp (decide := true) [fn_B_fetch, fn_B_fetch_J45]) (by simp (decide := true) [fn_M_read, fn_M_in])
  · exact key (4 : Int32) err adr (lo_mono he (by decide)) ha (by simp (decide := true) [fn_B_fetch, fn_B_fetch_J45]) (by simp (decide := true) [fn_M_read, fn_M_in])
  · exact key (5 : Int32) (pgm 0) adr (hg _) ha (by simp (decide := true) [fn_B_fetch, ck, tn_0]) (by simp (decide := true) [fn_M_read, fn_M_in, ck, tn_0])
  · exact key (6 : Int32) (pgm 1) adr (hg _) ha (by simp (decide := true) [fn_B_fetch, ck, tn_1]) (by simp (decide := true) [fn_M_read, fn_M_in, ck, tn_1])
  · exact key (7 : Int32) (pgm 2) adr (hg _) ha (by simp (decide := true) [fn_B_fetch, ck]) (by simp (decide := true) [fn_M_read, fn_M_in, ck])
  · exact key (8 : Int32) (pgm 3) adr (hg _) ha (by simp (decide := true) [fn_B_fetch, ck]) (by simp (decide := true) [fn_M_read, fn_M_in, ck])
  · exact key (9 : Int32) adr adr (lo_mono ha (by decide)) ha (by simp (decide := true) [fn_B_fetch, fn_B_fetch_J45]) (by simp (decide := true) [fn_M_read, fn_M_in])
  · exact key (10 : Int32) (mem (Int32.toNatClampNeg adr)) ((adr + (1 : Int32)) &&& (63 : Int32)) (hm _) (lo_63 _) (by simp (decide := true) [fn_B_fetch, fn_B_fetch_J45, fn_B_passAddress, ck_eq va]) (by simp (decide := true) [fn_M_read, fn_M_in, fn_M_next, ck_eq va, rl64_1 ha])
  · exact key (11 : Int32) (xpt 0) adr t0.2 ha (by simp (decide := true) [fn_B_fetch, ck, tn_0]) (by rw [← t0.1]; simp (decide := true) [fn_M_read, fn_M_in, ck, tn_0])
  · exact key (12 : Int32) (xpt 1) adr t1.2 ha (by simp (decide := true) [fn_B_fetch, ck, tn_1]) (by rw [← t1.1]; simp (decide := true) [fn_M_read, fn_M_in, ck, tn_1])
  · exact key (13 : Int32) 23130 adr ⟨23130, by decide, rfl⟩ ha (by simp (decide := true) [fn_B_fetch, fn_B_fetch_J45]) (by simp (decide := true) [fn_M_read, fn_M_in])
  · exact key (14 : Int32) 0 adr hz ha (by simp (decide := true) [fn_B_fetch, fn_B_fetch_J45]) (by simp (decide := true) [fn_M_read, fn_M_in])
  · exact key (15 : Int32) 0 adr hz ha (by simp (decide := true) [fn_B_fetch, fn_B_fetch_J45]) (by simp (decide := true) [fn_M_read, fn_M_in])
