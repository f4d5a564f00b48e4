/-! one tick of both sides -/
def nxt (m s : Nat) : Nat := if m = 0 then ([1, 1, 3, 4, 4, 6, 6, 4, 1, 10, 11, 11, 13, 13, 11, 1] : List Nat).getD s 0 else ([0, 2, 9, 5, 5, 8, 7, 8, 2, 0, 12, 12, 15, 14, 15, 2] : List Nat).getD s 0
theorem nxt_t : ∀ s, s < 16 → tb_0 s = nI (nxt 0 s) ∧ tb_1 s = nI (nxt 1 s) ∧ nxt 0 s < 16 ∧ nxt 1 s < 16 := by decide +kernel
theorem nxt_l : ∀ s, s < 16 → ∀ m, m < 2 → fn_M_leads (nI s) (nI m) = some (nI (nxt m s)) := by decide +kernel
theorem nxt_16 {m s : Nat} (hs : s < 16) (hm : m < 2) : nxt m s < 16 := by
  have h := nxt_t s hs
  rcases (show m = 0 ∨ m = 1 by omega) with rfl | rfl
  · exact h.2.2.1
  · exact h.2.2.2
def rowI (s i : Nat) (nr nl : Int32) (g : Nat → Int32) (wd : Int32) : Prop :=
  (4 ≤ s → s ≤ 8 → ∃ r, nr = nI r ∧ nl = nI (wid i) ∧ wd = nI (wid i) ∧ rwd (wid i) r g) ∧ (11 ≤ s → s ≤ 15 → ∃ r, nr = nI r ∧ nl = nI 4 ∧ wd = nI 4 ∧ rwd 4 r g)
theorem j155 {s m t : Nat} (hs : s < 16) (hm : m < 2) (ns : Int32) (nr : Int32) (nl : Int32) (nb : Int32) (nv : Int32) (nn : Int32) (nh : Int32) (ng : Int32) (ba : Nat → Int32) (bs : Int32) (bd : Int32) (be : Int32) (bx : Int32) (pr : Nat → Int32) (pw : Nat → Int32) (pt : Nat → Int32) (pc : Int32) (rn : Int32) (ca : Int32) (st : Int32) (ps : Int32) (o : Int32) : fn_N_clock_J155 (nI s) ns nr nl nb nv nn nh (nI t) ng ba bs bd be bx pr pw pt pc rn ca st ps (nI m) o = some (o, nI (nxt m s), ns, nr, nl, nb, nv, nn, nh, nI (t + 1), ng, ba, bs, bd, be, bx, pr, pw, pt, pc, rn, ca, st, ps) := by
  unfold fn_N_clock_J155
  have hv : vp_in (nI s) 16 := vp_in_nI hs (by decide)
  have h := nxt_t s hs
  rcases (show m = 0 ∨ m = 1 by omega) with rfl | rfl
  · rw [if_pos (show nI 0 = (0 : Int32) from rfl), ck_eq hv, nI_clamp (by omega), h.1, nI_1]
  · rw [if_neg (by decide : ¬ nI 1 = (0 : Int32)), ck_eq hv, nI_clamp (by omega), h.2.1, nI_1]
theorem j99 {s m : Nat} (hs : s < 16) (hm : m < 2) (h8 : s ≠ 8) (pr : Nat → Int32) (pw : Nat → Int32) (pc : Int32) (ha : Int32) (ca : Int32) (bs : Int32) (ps : Int32) (st : Int32) (bd : Int32) (be : Int32) (bx : Int32) (ba : Nat → Int32) (tk : Nat → Int32) (ta : Nat → Int32) (ns : Int32) (g : Nat → Int32) (wd tm bg nh nb nv nn o : Int32) : fn_M_one_J99 pr pw pc ha ca bs ps st bd be bx ba tk ta (nI s) ns g wd tm bg nh nb nv nn (nI m) o = some (o, pr, pw, pc, ha, ca, bs, ps, st, bd, be, bx, ba, tk, ta, nI (nxt m s), ns, g, wd, tm, bg, nh, nb, nv, nn) := by
  unfold fn_M_one_J99
  have h : ¬ nI s = nI 8 := by rw [nI_eq (by omega) (by omega)]; exact h8
  have h : ¬ nI s = (8 : Int32) := h
  rw [if_neg h, nxt_l s hs m hm]; rfl
theorem timI_1 {t : Nat} {nh ng bg : Int32} (ht : t + 1 < 2 ^ 30) (h : timI t nh ng bg) : timI (t + 1) nh ng bg := ⟨ht, fun q => by
  obtain ⟨u, h1, h2, h3⟩ := h.2 q
  exact ⟨u, by omega, h2, h3⟩⟩
theorem nI_t1 (t : Nat) : nI t + (1 : Int32) = nI (t + 1) := nI_1 t
set_option maxHeartbeats 8000000 in
theorem sim_clock {ba pr pw pt tk ta g : Nat → Int32} {nr nl nb nv nn nh ng bg wd bs bd be bx pc ca ps : Int32} {s i t m w : Nat} (b : Bool) (st : Int32) (hs : s < 16) (hi : i < 16) (ht : t + 1 < 2 ^ 30) (hm : m < 2) (hw : w < 2) (hnb : lo 2 nb) (hnv : lo 65536 nv) (hnn : lo 16 nn) (hnh : lo 2 nh) (hR : rowI s i nr nl g wd) (hT : timI t nh ng bg) (h : okB ba bs bd be bx pr pw pt tk ta pc ca ps) :
    ∃ o s' i' nr' nl' nb' nv' nn' nh' ng' bg' g' wd' b' ba' bs' bd' be' bx' pr' pw' pt' tk' ta' pc' ca' st' ps', fn_N_clock (nI s) (nI i) nr nl nb nv nn nh (nI t) ng ba bs bd be bx pr pw pt pc (bI b) ca st ps (nI m) (nI w) = some (o, nI s', nI i', nr', nl', nb', nv', nn', nh', nI (t + 1), ng', ba', bs', bd', be', bx', pr', pw', pt', pc', bI b', ca', st', ps') ∧
      fn_M_one pr pw pc (bI (!b)) ca bs ps st bd be bx ba tk ta (nI s) (nI i) g wd (nI t) bg nh nb nv nn (nI m) (nI w) = some (o, pr', pw', pc', bI (!b'), ca', bs', ps', st', bd', be', bx', ba', tk', ta', nI s', nI i', g', wd', nI (t + 1), bg', nh', nb', nv', nn') ∧
      s' < 16 ∧ i' < 16 ∧ lo 2 nb' ∧ lo 65536 nv' ∧ lo 16 nn' ∧ lo 2 nh' ∧ rowI s' i' nr' nl' g' wd' ∧ timI (t + 1) nh' ng' bg' ∧ okB ba' bs' bd' be' bx' pr' pw' pt' tk' ta' pc' ca' ps' := by
  have hT1 := timI_1 ht hT
  have hs' : s = 0 ∨ s = 1 ∨ s = 2 ∨ s = 3 ∨ s = 4 ∨ s = 5 ∨ s = 6 ∨ s = 7 ∨ s = 8 ∨ s = 9 ∨ s = 10 ∨ s = 11 ∨ s = 12 ∨ s = 13 ∨ s = 14 ∨ s = 15 := by omega
  rcases hs' with rfl | rfl | rfl | rfl | rfl | rfl | rfl | rfl | rfl | rfl | rfl | rfl | rfl | rfl | rfl | rfl
  · have e1 : fn_N_clock (0 : Int32) (nI i) nr nl nb nv nn nh (nI t) ng ba bs bd be bx pr pw pt pc (bI b) ca st ps (nI m) (nI w) = fn_N_clock_J155 (0 : Int32) (1 : Int32) nr nl nb nv nn nh (nI t) ng ba bs bd be bx pr pw pt pc (bI b) ca st ps (nI m) (0 : Int32) := by simp [fn_N_clock]
    have e2 : fn_M_one pr pw pc (bI (!b)) ca bs ps st bd be bx ba tk ta (0 : Int32) (nI i) g wd (nI t) bg nh nb nv nn (nI m) (nI w) = fn_M_one_J99 pr pw pc (bI (!b)) ca bs ps st bd be bx ba tk ta (0 : Int32) (1 : Int32) g wd (nI t + (1 : Int32)) bg nh nb nv nn (nI m) (0 : Int32) := by simp [fn_M_one, fn_M_one_J45, fn_M_one_J68]
    rw [nI_t1] at e2
    refine ⟨0, nxt m 0, 1, nr, nl, nb, nv, nn, nh, ng, bg, g, wd, b, ba, bs, bd, be, bx, pr, pw, pt, tk, ta, pc, ca, st, ps, e1.trans (j155 (by decide) hm _ _ _ _ _ _ _ _ _ _ _ _ _ _ _ _ _ _ _ _ _ _), e2.trans (j99 (s := 0) (by decide) hm (by decide) _ _ _ _ _ _ _ _ _ _ _ _ _ _ _ _ _ _ _ _ _ _ _ _), nxt_16 (by decide) hm, by decide, hnb, hnv, hnn, hnh, ?_, hT1, h⟩
    rcases (show m = 0 ∨ m = 1 by omega) with rfl | rfl
    · exact ⟨fun h1 h2 => absurd (show 4 ≤ 1 ∧ 1 ≤ 8 from ⟨h1, h2⟩) (by decide), fun h1 h2 => absurd (show 11 ≤ 1 ∧ 1 ≤ 15 from ⟨h1, h2⟩) (by decide)⟩
    · exact ⟨fun h1 h2 => absurd (show 4 ≤ 0 ∧ 0 ≤ 8 from ⟨h1, h2⟩) (by decide), fun h1 h2 => absurd (show 11 ≤ 0 ∧ 0 ≤ 15 from ⟨h1, h2⟩) (by decide)⟩
  · have e1 : fn_N_clock (1 : Int32) (nI i) nr nl nb nv nn nh (nI t) ng ba bs bd be bx pr pw pt pc (bI b) ca st ps (nI m) (nI w) = fn_N_clock_J155 (1 : Int32) (nI i) nr nl nb nv nn nh (nI t) ng ba bs bd be bx pr pw pt pc (bI b) ca st ps (nI m) (0 : Int32) := by simp [fn_N_clock]
    have e2 : fn_M_one pr pw pc (bI (!b)) ca bs ps st bd be bx ba tk ta (1 : Int32) (nI i) g wd (nI t) bg nh nb nv nn (nI m) (nI w) = fn_M_one_J99 pr pw pc (bI (!b)) ca bs ps st bd be bx ba tk ta (1 : Int32) (nI i) g wd (nI t + (1 : Int32)) bg nh nb nv nn (nI m) (0 : Int32) := by simp [fn_M_one, fn_M_one_J45, fn_M_one_J68]
    rw [nI_t1] at e2
    refine ⟨0, nxt m 1, i, nr, nl, nb, nv, nn, nh, ng, bg, g, wd, b, ba, bs, bd, be, bx, pr, pw, pt, tk, ta, pc, ca, st, ps, e1.trans (j155 (by decide) hm _ _ _ _ _ _ _ _ _ _ _ _ _ _ _ _ _ _ _ _ _ _), e2.trans (j99 (s := 1) (by decide) hm (by decide) _ _ _ _ _ _ _ _ _ _ _ _ _ _ _ _ _ _ _ _ _ _ _ _), nxt_16 (by decide) hm, hi, hnb, hnv, hnn, hnh, ?_, hT1, h⟩
    rcases (show m = 0 ∨ m = 1 by omega) with rfl | rfl
    · exact ⟨fun h1 h2 => absurd (show 4 ≤ 1 ∧ 1 ≤ 8 from ⟨h1, h2⟩) (by decide), fun h1 h2 => absurd (show 11 ≤ 1 ∧ 1 ≤ 15 from ⟨h1, h2⟩) (by decide)⟩
    · exact ⟨fun h1 h2 => absurd (show 4 ≤ 2 ∧ 2 ≤ 8 from ⟨h1, h2⟩) (by decide), fun h1 h2 => absurd (show 11 ≤ 2 ∧ 2 ≤ 15 from ⟨h1, h2⟩) (by decide)⟩
  · have e1 : fn_N_clock (2 : Int32) (nI i) nr nl nb nv nn nh (nI t) ng ba bs bd be bx pr pw pt pc (bI b) ca st ps (nI m) (nI w) = fn_N_clock_J155 (2 : Int32) (nI i) nr nl nb nv nn nh (nI t) ng ba bs bd be bx pr pw pt pc (bI b) ca st ps (nI m) (0 : Int32) := by simp [fn_N_clock]
    have e2 : fn_M_one pr pw pc (bI (!b)) ca bs ps st bd be bx ba tk ta (2 : Int32) (nI i) g wd (nI t) bg nh nb nv nn (nI m) (nI w) = fn_M_one_J99 pr pw pc (bI (!b)) ca bs ps st bd be bx ba tk ta (2 : Int32) (nI i) g wd (nI t + (1 : Int32)) bg nh nb nv nn (nI m) (0 : Int32) := by simp [fn_M_one, fn_M_one_J45, fn_M_one_J68]
    rw [nI_t1] at e2
    refine ⟨0, nxt m 2, i, nr, nl, nb, nv, nn, nh, ng, bg, g, wd, b, ba, bs, bd, be, bx, pr, pw, pt, tk, ta, pc, ca, st, ps, e1.trans (j155 (by decide) hm _ _ _ _ _ _ _ _ _ _ _ _ _ _ _ _ _ _ _ _ _ _), e2.trans (j99 (s := 2) (by decide) hm (by decide) _ _ _ _ _ _ _ _ _ _ _ _ _ _ _ _ _ _ _ _ _ _ _ _), nxt_16 (by decide) hm, hi, hnb, hnv, hnn, hnh, ?_, hT1, h⟩
    rcases (show m = 0 ∨ m = 1 by omega) with rfl | rfl
    · exact ⟨fun h1 h2 => absurd (show 4 ≤ 3 ∧ 3 ≤ 8 from ⟨h1, h2⟩) (by decide), fun h1 h2 => absurd (show 11 ≤ 3 ∧ 3 ≤ 15 from ⟨h1, h2⟩) (by decide)⟩
    · exact ⟨fun h1 h2 => absurd (show 4 ≤ 9 ∧ 9 ≤ 8 from ⟨h1, h2⟩) (by decide), fun h1 h2 => absurd (show 11 ≤ 9 ∧ 9 ≤ 15 from ⟨h1, h2⟩) (by decide)⟩
  · obtain ⟨v, hv, rfl⟩ := hnv
    obtain ⟨n, hn, rfl⟩ := hnn
    obtain ⟨bz, rfl⟩ : ∃ bz, nb = bI bz := by obtain ⟨k, hk, rfl⟩ := hnb; rcases (show k = 0 ∨ k = 1 by omega) with rfl | rfl; exact ⟨false, rfl⟩; exact ⟨true, rfl⟩
    obtain ⟨r, g', h1, h2, h3⟩ := sim_capture bz hi hv hn nr nl g wd
    have e1 : fn_N_clock (3 : Int32) (nI i) nr nl (bI bz) (nI v) (nI n) nh (nI t) ng ba bs bd be bx pr pw pt pc (bI b) ca st ps (nI m) (nI w) = fn_N_clock_J155 (3 : Int32) (nI i) (nI r) (nI (wid i)) (bI bz) (nI v) (nI n) nh (nI t) ng ba bs bd be bx pr pw pt pc (bI b) ca st ps (nI m) (0 : Int32) := by simp [fn_N_clock, h1]
    have e2 : fn_M_one pr pw pc (bI (!b)) ca bs ps st bd be bx ba tk ta (3 : Int32) (nI i) g wd (nI t) bg nh (bI bz) (nI v) (nI n) (nI m) (nI w) = fn_M_one_J99 pr pw pc (bI (!b)) ca bs ps st bd be bx ba tk ta (3 : Int32) (nI i) g' (nI (wid i)) (nI t + (1 : Int32)) bg nh (bI bz) (nI v) (nI n) (nI m) (0 : Int32) := by simp [fn_M_one, fn_M_one_J45, fn_M_one_J68, h2]
    rw [nI_t1] at e2
    refine ⟨0, nxt m 3, i, nI r, nI (wid i), bI bz, nI v, nI n, nh, ng, bg, g', nI (wid i), b, ba, bs, bd, be, bx, pr, pw, pt, tk, ta, pc, ca, st, ps, e1.trans (j155 (by decide) hm _ _ _ _ _ _ _ _ _ _ _ _ _ _ _ _ _ _ _ _ _ _), e2.trans (j99 (s := 3) (by decide) hm (by decide) _ _ _ _ _ _ _ _ _ _ _ _ _ _ _ _ _ _ _ _ _ _ _ _), nxt_16 (by decide) hm, hi, hnb, lo_nI hv, lo_nI hn, hnh, ?_, hT1, h⟩
    rcases (show m = 0 ∨ m = 1 by omega) with rfl | rfl
    · exact ⟨fun _ _ => ⟨r, rfl, rfl, rfl, h3⟩, fun h1 h2 => absurd (show 11 ≤ 4 ∧ 4 ≤ 15 from ⟨h1, h2⟩) (by decide)⟩
    · exact ⟨fun _ _ => ⟨r, rfl, rfl, rfl, h3⟩, fun h1 h2 => absurd (show 11 ≤ 5 ∧ 5 ≤ 15 from ⟨h1, h2⟩) (by decide)⟩
  · obtain ⟨r, rfl, rfl, rfl, hrow⟩ := hR.1 (by decide) (by decide)
    have hw2 := wid_in i
    obtain ⟨g', h1, h2, h3⟩ := shift_row hw2.1 hw2.2 hw hrow
    have e1 : fn_N_clock (4 : Int32) (nI i) (nI r) (nI (wid i)) nb nv nn nh (nI t) ng ba bs bd be bx pr pw pt pc (bI b) ca st ps (nI m) (nI w) = fn_N_clock_J155 (4 : Int32) (nI i) ((nI r >>> ((1 : Int32) &&& (31 : Int32))) ||| (nI w <<< ((nI (wid i) - (1 : Int32)) &&& (31 : Int32)))) (nI (wid i)) nb nv nn nh (nI t) ng ba bs bd be bx pr pw pt pc (bI b) ca st ps (nI m) (nI r &&& (1 : Int32)) := by simp [fn_N_clock, fn_N_clock_J101]
    rw [h2] at e1
    have e2 : fn_M_one pr pw pc (bI (!b)) ca bs ps st bd be bx ba tk ta (4 : Int32) (nI i) g (nI (wid i)) (nI t) bg nh nb nv nn (nI m) (nI w) = fn_M_one_J99 pr pw pc (bI (!b)) ca bs ps st bd be bx ba tk ta (4 : Int32) (nI i) g' (nI (wid i)) (nI t + (1 : Int32)) bg nh nb nv nn (nI m) (nI r &&& (1 : Int32)) := by simp [fn_M_one, fn_M_one_J45, fn_M_one_J68, h1]
    rw [nI_t1] at e2
    refine ⟨nI r &&& (1 : Int32), nxt m 4, i, nI (r / 2 + 2 ^ ((wid i) - 1) * w), nI (wid i), nb, nv, nn, nh, ng, bg, g', nI (wid i), b, ba, bs, bd, be, bx, pr, pw, pt, tk, ta, pc, ca, st, ps, e1.trans (j155 (by decide) hm _ _ _ _ _ _ _ _ _ _ _ _ _ _ _ _ _ _ _ _ _ _), e2.trans (j99 (s := 4) (by decide) hm (by decide) _ _ _ _ _ _ _ _ _ _ _ _ _ _ _ _ _ _ _ _ _ _ _ _), nxt_16 (by decide) hm, hi, hnb, hnv, hnn, hnh, ?_, hT1, h⟩
    rcases (show m = 0 ∨ m = 1 by omega) with rfl | rfl
    · exact ⟨fun _ _ => ⟨_, rfl, rfl, rfl, h3⟩, fun h1 h2 => absurd (show 11 ≤ 4 ∧ 4 ≤ 15 from ⟨h1, h2⟩) (by decide)⟩
    · exact ⟨fun _ _ => ⟨_, rfl, rfl, rfl, h3⟩, fun h1 h2 => absurd (show 11 ≤ 5 ∧ 5 ≤ 15 from ⟨h1, h2⟩) (by decide)⟩
  · have e1 : fn_N_clock (5 : Int32) (nI i) nr nl nb nv nn nh (nI t) ng ba bs bd be bx pr pw pt pc (bI b) ca st ps (nI m) (nI w) = fn_N_clock_J155 (5 : Int32) (nI i) nr nl nb nv nn nh (nI t) ng ba bs bd be bx pr pw pt pc (bI b) ca st ps (nI m) (0 : Int32) := by simp [fn_N_clock]
    have e2 : fn_M_one pr pw pc (bI (!b)) ca bs ps st bd be bx ba tk ta (5 : Int32) (nI i) g wd (nI t) bg nh nb nv nn (nI m) (nI w) = fn_M_one_J99 pr pw pc (bI (!b)) ca bs ps st bd be bx ba tk ta (5 : Int32) (nI i) g wd (nI t + (1 : Int32)) bg nh nb nv nn (nI m) (0 : Int32) := by simp [fn_M_one, fn_M_one_J45, fn_M_one_J68]
    rw [nI_t1] at e2
    refine ⟨0, nxt m 5, i, nr, nl, nb, nv, nn, nh, ng, bg, g, wd, b, ba, bs, bd, be, bx, pr, pw, pt, tk, ta, pc, ca, st, ps, e1.trans (j155 (by decide) hm _ _ _ _ _ _ _ _ _ _ _ _ _ _ _ _ _ _ _ _ _ _), e2.trans (j99 (s := 5) (by decide) hm (by decide) _ _ _ _ _ _ _ _ _ _ _ _ _ _ _ _ _ _ _ _ _ _ _ _), nxt_16 (by decide) hm, hi, hnb, hnv, hnn, hnh, ?_, hT1, h⟩
    rcases (show m = 0 ∨ m = 1 by omega) with rfl | rfl
    · exact ⟨fun _ _ => hR.1 (by decide) (by decide), fun h1 h2 => absurd (show 11 ≤ 6 ∧ 6 ≤ 15 from ⟨h1, h2⟩) (by decide)⟩
    · exact ⟨fun _ _ => hR.1 (by decide) (by decide), fun h1 h2 => absurd (show 11 ≤ 8 ∧ 8 ≤ 15 from ⟨h1, h2⟩) (by decide)⟩
  · have e1 : fn_N_clock (6 : Int32) (nI i) nr nl nb nv nn nh (nI t) ng ba bs bd be bx pr pw pt pc (bI b) ca st ps (nI m) (nI w) = fn_N_clock_J155 (6 : Int32) (nI i) nr nl nb nv nn nh (nI t) ng ba bs bd be bx pr pw pt pc (bI b) ca st ps (nI m) (0 : Int32) := by simp [fn_N_clock]
    have e2 : fn_M_one pr pw pc (bI (!b)) ca bs ps st bd be bx ba tk ta (6 : Int32) (nI i) g wd (nI t) bg nh nb nv nn (nI m) (nI w) = fn_M_one_J99 pr pw pc (bI (!b)) ca bs ps st bd be bx ba tk ta (6 : Int32) (nI i) g wd (nI t + (1 : Int32)) bg nh nb nv nn (nI m) (0 : Int32) := by simp [fn_M_one, fn_M_one_J45, fn_M_one_J68]
    rw [nI_t1] at e2
    refine ⟨0, nxt m 6, i, nr, nl, nb, nv, nn, nh, ng, bg, g, wd, b, ba, bs, bd, be, bx, pr, pw, pt, tk, ta, pc, ca, st, ps, e1.trans (j155 (by decide) hm _ _ _ _ _ _ _ _ _ _ _ _ _ _ _ _ _ _ _ _ _ _), e2.trans (j99 (s := 6) (by decide) hm (by decide) _ _ _ _ _ _ _ _ _ _ _ _ _ _ _ _ _ _ _ _ _ _ _ _), nxt_16 (by decide) hm, hi, hnb, hnv, hnn, hnh, ?_, hT1, h⟩
    rcases (show m = 0 ∨ m = 1 by omega) with rfl | rfl
    · exact ⟨fun _ _ => hR.1 (by decide) (by decide), fun h1 h2 => absurd (show 11 ≤ 6 ∧ 6 ≤ 15 from ⟨h1, h2⟩) (by decide)⟩
    · exact ⟨fun _ _ => hR.1 (by decide) (by decide), fun h1 h2 => absurd (show 11 ≤ 7 ∧ 7 ≤ 15 from ⟨h1, h2⟩) (by decide)⟩
  · have e1 : fn_N_clock (7 : Int32) (nI i) nr nl nb nv nn nh (nI t) ng ba bs bd be bx pr pw pt pc (bI b) ca st ps (nI m) (nI w) = fn_N_clock_J155 (7 : Int32) (nI i) nr nl nb nv nn nh (nI t) ng ba bs bd be bx pr pw pt pc (bI b) ca st ps (nI m) (0 : Int32) := by simp [fn_N_clock]
    have e2 : fn_M_one pr pw pc (bI (!b)) ca bs ps st bd be bx ba tk ta (7 : Int32) (nI i) g wd (nI t) bg nh nb nv nn (nI m) (nI w) = fn_M_one_J99 pr pw pc (bI (!b)) ca bs ps st bd be bx ba tk ta (7 : Int32) (nI i) g wd (nI t + (1 : Int32)) bg nh nb nv nn (nI m) (0 : Int32) := by simp [fn_M_one, fn_M_one_J45, fn_M_one_J68]
    rw [nI_t1] at e2
    refine ⟨0, nxt m 7, i, nr, nl, nb, nv, nn, nh, ng, bg, g, wd, b, ba, bs, bd, be, bx, pr, pw, pt, tk, ta, pc, ca, st, ps, e1.trans (j155 (by decide) hm _ _ _ _ _ _ _ _ _ _ _ _ _ _ _ _ _ _ _ _ _ _), e2.trans (j99 (s := 7) (by decide) hm (by decide) _ _ _ _ _ _ _ _ _ _ _ _ _ _ _ _ _ _ _ _ _ _ _ _), nxt_16 (by decide) hm, hi, hnb, hnv, hnn, hnh, ?_, hT1, h⟩
    rcases (show m = 0 ∨ m = 1 by omega) with rfl | rfl
    · exact ⟨fun _ _ => hR.1 (by decide) (by decide), fun h1 h2 => absurd (show 11 ≤ 4 ∧ 4 ≤ 15 from ⟨h1, h2⟩) (by decide)⟩
    · exact ⟨fun _ _ => hR.1 (by decide) (by decide), fun h1 h2 => absurd (show 11 ≤ 8 ∧ 8 ≤ 15 from ⟨h1, h2⟩) (by decide)⟩
  · obtain ⟨r, rfl, rfl, rfl, hrow⟩ := hR.1 (by decide) (by decide)
    obtain ⟨nb', nv', nn', nh', ng', bg', b', ba', bs', bd', be', bx', pr', pw', pt', tk', ta', pc', ca', st', ps', g1, g2, k1, k2, k3, k4, k5, k6⟩ := sim_update b st hi hrow hnb hnv hnn hnh hT h
    have e1 : fn_N_clock (8 : Int32) (nI i) (nI r) (nI (wid i)) nb nv nn nh (nI t) ng ba bs bd be bx pr pw pt pc (bI b) ca st ps (nI m) (nI w) = fn_N_clock_J155 (8 : Int32) (nI i) (nI r) (nI (wid i)) nb' nv' nn' nh' (nI t) ng' ba' bs' bd' be' bx' pr' pw' pt' pc' (bI b') ca' st' ps' (nI m) (0 : Int32) := by simp [fn_N_clock, g1]
    have e0 : fn_M_one pr pw pc (bI (!b)) ca bs ps st bd be bx ba tk ta (8 : Int32) (nI i) g (nI (wid i)) (nI t) bg nh nb nv nn (nI m) (nI w) = fn_M_one_J99 pr pw pc (bI (!b)) ca bs ps st bd be bx ba tk ta (8 : Int32) (nI i) g (nI (wid i)) (nI t + (1 : Int32)) bg nh nb nv nn (nI m) (0 : Int32) := by simp [fn_M_one, fn_M_one_J45, fn_M_one_J68]
    rw [nI_t1] at e0
    have e2 : fn_M_one_J99 pr pw pc (bI (!b)) ca bs ps st bd be bx ba tk ta (8 : Int32) (nI i) g (nI (wid i)) (nI (t + 1)) bg nh nb nv nn (nI m) (0 : Int32) = some (0, pr', pw', pc', bI (!b'), ca', bs', ps', st', bd', be', bx', ba', tk', ta', nI (nxt m 8), nI i, g, nI (wid i), nI (t + 1), bg', nh', nb', nv', nn') := by
      unfold fn_M_one_J99
      rw [if_pos rfl, g2]
      show (fn_M_leads (nI 8) (nI m)).bind _ = _
      rw [nxt_l 8 (by decide) m hm]; rfl
    refine ⟨0, nxt m 8, i, nI r, nI (wid i), nb', nv', nn', nh', ng', bg', g, nI (wid i), b', ba', bs', bd', be', bx', pr', pw', pt', tk', ta', pc', ca', st', ps', e1.trans (j155 (by decide) hm _ _ _ _ _ _ _ _ _ _ _ _ _ _ _ _ _ _ _ _ _ _), e0.trans e2, nxt_16 (by decide) hm, hi, k1, k2, k3, k4, ?_, timI_1 ht k5, k6⟩
    rcases (show m = 0 ∨ m = 1 by omega) with rfl | rfl
    · exact ⟨fun h1 h2 => absurd (show 4 ≤ 1 ∧ 1 ≤ 8 from ⟨h1, h2⟩) (by decide), fun h1 h2 => absurd (show 11 ≤ 1 ∧ 1 ≤ 15 from ⟨h1, h2⟩) (by decide)⟩
    · exact ⟨fun h1 h2 => absurd (show 4 ≤ 2 ∧ 2 ≤ 8 from ⟨h1, h2⟩) (by decide), fun h1 h2 => absurd (show 11 ≤ 2 ∧ 2 ≤ 15 from ⟨h1, h2⟩) (by decide)⟩
  · have e1 : fn_N_clock (9 : Int32) (nI i) nr nl nb nv nn nh (nI t) ng ba bs bd be bx pr pw pt pc (bI b) ca st ps (nI m) (nI w) = fn_N_clock_J155 (9 : Int32) (nI i) nr nl nb nv nn nh (nI t) ng ba bs bd be bx pr pw pt pc (bI b) ca st ps (nI m) (0 : Int32) := by simp [fn_N_clock]
    have e2 : fn_M_one pr pw pc (bI (!b)) ca bs ps st bd be bx ba tk ta (9 : Int32) (nI i) g wd (nI t) bg nh nb nv nn (nI m) (nI w) = fn_M_one_J99 pr pw pc (bI (!b)) ca bs ps st bd be bx ba tk ta (9 : Int32) (nI i) g wd (nI t + (1 : Int32)) bg nh nb nv nn (nI m) (0 : Int32) := by simp [fn_M_one, fn_M_one_J45, fn_M_one_J68]
    rw [nI_t1] at e2
    refine ⟨0, nxt m 9, i, nr, nl, nb, nv, nn, nh, ng, bg, g, wd, b, ba, bs, bd, be, bx, pr, pw, pt, tk, ta, pc, ca, st, ps, e1.trans (j155 (by decide) hm _ _ _ _ _ _ _ _ _ _ _ _ _ _ _ _ _ _ _ _ _ _), e2.trans (j99 (s := 9) (by decide) hm (by decide) _ _ _ _ _ _ _ _ _ _ _ _ _ _ _ _ _ _ _ _ _ _ _ _), nxt_16 (by decide) hm, hi, hnb, hnv, hnn, hnh, ?_, hT1, h⟩
    rcases (show m = 0 ∨ m = 1 by omega) with rfl | rfl
    · exact ⟨fun h1 h2 => absurd (show 4 ≤ 10 ∧ 10 ≤ 8 from ⟨h1, h2⟩) (by decide), fun h1 h2 => absurd (show 11 ≤ 10 ∧ 10 ≤ 15 from ⟨h1, h2⟩) (by decide)⟩
    · exact ⟨fun h1 h2 => absurd (show 4 ≤ 0 ∧ 0 ≤ 8 from ⟨h1, h2⟩) (by decide), fun h1 h2 => absurd (show 11 ≤ 0 ∧ 0 ≤ 15 from ⟨h1, h2⟩) (by decide)⟩
  · obtain ⟨g', h1, h2, h3, h4⟩ := fill_ok (a := 0) (n := 4) (V := 5) (by decide) (by decide) g
    have h1 : fn_M_fill g (0 : Int32) (4 : Int32) (5 : Int32) = some g' := h1
    have hrow : rwd 4 5 g' := ⟨by decide, fun k hk => by have h5 := h3 k hk; rw [Nat.zero_add] at h5; exact h5⟩
    have e1 : fn_N_clock (10 : Int32) (nI i) nr nl nb nv nn nh (nI t) ng ba bs bd be bx pr pw pt pc (bI b) ca st ps (nI m) (nI w) = fn_N_clock_J155 (10 : Int32) (nI i) (5 : Int32) (4 : Int32) nb nv nn nh (nI t) ng ba bs bd be bx pr pw pt pc (bI b) ca st ps (nI m) (0 : Int32) := by simp [fn_N_clock, fn_N_setRow]
    have e2 : fn_M_one pr pw pc (bI (!b)) ca bs ps st bd be bx ba tk ta (10 : Int32) (nI i) g wd (nI t) bg nh nb nv nn (nI m) (nI w) = fn_M_one_J99 pr pw pc (bI (!b)) ca bs ps st bd be bx ba tk ta (10 : Int32) (nI i) g' (4 : Int32) (nI t + (1 : Int32)) bg nh nb nv nn (nI m) (0 : Int32) := by simp [fn_M_one, fn_M_one_J45, fn_M_one_J68, h1]
    rw [nI_t1] at e2
    refine ⟨0, nxt m 10, i, 5, 4, nb, nv, nn, nh, ng, bg, g', 4, b, ba, bs, bd, be, bx, pr, pw, pt, tk, ta, pc, ca, st, ps, e1.trans (j155 (by decide) hm _ _ _ _ _ _ _ _ _ _ _ _ _ _ _ _ _ _ _ _ _ _), e2.trans (j99 (s := 10) (by decide) hm (by decide) _ _ _ _ _ _ _ _ _ _ _ _ _ _ _ _ _ _ _ _ _ _ _ _), nxt_16 (by decide) hm, hi, hnb, hnv, hnn, hnh, ?_, hT1, h⟩
    rcases (show m = 0 ∨ m = 1 by omega) with rfl | rfl
    · exact ⟨fun h1 h2 => absurd (show 4 ≤ 11 ∧ 11 ≤ 8 from ⟨h1, h2⟩) (by decide), fun _ _ => ⟨5, rfl, rfl, rfl, hrow⟩⟩
    · exact ⟨fun h1 h2 => absurd (show 4 ≤ 12 ∧ 12 ≤ 8 from ⟨h1, h2⟩) (by decide), fun _ _ => ⟨5, rfl, rfl, rfl, hrow⟩⟩
  · obtain ⟨r, rfl, rfl, rfl, hrow⟩ := hR.2 (by decide) (by decide)
    have hw2 : 0 < 4 ∧ 4 ≤ 22 := by decide
    obtain ⟨g', h1, h2, h3⟩ := shift_row hw2.1 hw2.2 hw hrow
    have e1 : fn_N_clock (11 : Int32) (nI i) (nI r) (nI 4) nb nv nn nh (nI t) ng ba bs bd be bx pr pw pt pc (bI b) ca st ps (nI m) (nI w) = fn_N_clock_J155 (11 : Int32) (nI i) ((nI r >>> ((1 : Int32) &&& (31 : Int32))) ||| (nI w <<< ((nI 4 - (1 : Int32)) &&& (31 : Int32)))) (nI 4) nb nv nn nh (nI t) ng ba bs bd be bx pr pw pt pc (bI b) ca st ps (nI m) (nI r &&& (1 : Int32)) := by simp [fn_N_clock, fn_N_clock_J101]
    rw [h2] at e1
    have e2 : fn_M_one pr pw pc (bI (!b)) ca bs ps st bd be bx ba tk ta (11 : Int32) (nI i) g (nI 4) (nI t) bg nh nb nv nn (nI m) (nI w) = fn_M_one_J99 pr pw pc (bI (!b)) ca bs ps st bd be bx ba tk ta (11 : Int32) (nI i) g' (nI 4) (nI t + (1 : Int32)) bg nh nb nv nn (nI m) (nI r &&& (1 : Int32)) := by simp [fn_M_one, fn_M_one_J45, fn_M_one_J68, h1]
    rw [nI_t1] at e2
    refine ⟨nI r &&& (1 : Int32), nxt m 11, i, nI (r / 2 + 2 ^ (4 - 1) * w), nI 4, nb, nv, nn, nh, ng, bg, g', nI 4, b, ba, bs, bd, be, bx, pr, pw, pt, tk, ta, pc, ca, st, ps, e1.trans (j155 (by decide) hm _ _ _ _ _ _ _ _ _ _ _ _ _ _ _ _ _ _ _ _ _ _), e2.trans (j99 (s := 11) (by decide) hm (by decide) _ _ _ _ _ _ _ _ _ _ _ _ _ _ _ _ _ _ _ _ _ _ _ _), nxt_16 (by decide) hm, hi, hnb, hnv, hnn, hnh, ?_, hT1, h⟩
    rcases (show m = 0 ∨ m = 1 by omega) with rfl | rfl
    · exact ⟨fun h1 h2 => absurd (show 4 ≤ 11 ∧ 11 ≤ 8 from ⟨h1, h2⟩) (by decide), fun _ _ => ⟨_, rfl, rfl, rfl, h3⟩⟩
    · exact ⟨fun h1 h2 => absurd (show 4 ≤ 12 ∧ 12 ≤ 8 from ⟨h1, h2⟩) (by decide), fun _ _ => ⟨_, rfl, rfl, rfl, h3⟩⟩
  · have e1 : fn_N_clock (12 : Int32) (nI i) nr nl nb nv nn nh (nI t) ng ba bs bd be bx pr pw pt pc (bI b) ca st ps (nI m) (nI w) = fn_N_clock_J155 (12 : Int32) (nI i) nr nl nb nv nn nh (nI t) ng ba bs bd be bx pr pw pt pc (bI b) ca st ps (nI m) (0 : Int32) := by simp [fn_N_clock]
    have e2 : fn_M_one pr pw pc (bI (!b)) ca bs ps st bd be bx ba tk ta (12 : Int32) (nI i) g wd (nI t) bg nh nb nv nn (nI m) (nI w) = fn_M_one_J99 pr pw pc (bI (!b)) ca bs ps st bd be bx ba tk ta (12 : Int32) (nI i) g wd (nI t + (1 : Int32)) bg nh nb nv nn (nI m) (0 : Int32) := by simp [fn_M_one, fn_M_one_J45, fn_M_one_J68]
    rw [nI_t1] at e2
    refine ⟨0, nxt m 12, i, nr, nl, nb, nv, nn, nh, ng, bg, g, wd, b, ba, bs, bd, be, bx, pr, pw, pt, tk, ta, pc, ca, st, ps, e1.trans (j155 (by decide) hm _ _ _ _ _ _ _ _ _ _ _ _ _ _ _ _ _ _ _ _ _ _), e2.trans (j99 (s := 12) (by decide) hm (by decide) _ _ _ _ _ _ _ _ _ _ _ _ _ _ _ _ _ _ _ _ _ _ _ _), nxt_16 (by decide) hm, hi, hnb, hnv, hnn, hnh, ?_, hT1, h⟩
    rcases (show m = 0 ∨ m = 1 by omega) with rfl | rfl
    · exact ⟨fun h1 h2 => absurd (show 4 ≤ 13 ∧ 13 ≤ 8 from ⟨h1, h2⟩) (by decide), fun _ _ => hR.2 (by decide) (by decide)⟩
    · exact ⟨fun h1 h2 => absurd (show 4 ≤ 15 ∧ 15 ≤ 8 from ⟨h1, h2⟩) (by decide), fun _ _ => hR.2 (by decide) (by decide)⟩
  · have e1 : fn_N_clock (13 : Int32) (nI i) nr nl nb nv nn nh (nI t) ng ba bs bd be bx pr pw pt pc (bI b) ca st ps (nI m) (nI w) = fn_N_clock_J155 (13 : Int32) (nI i) nr nl nb nv nn nh (nI t) ng ba bs bd be bx pr pw pt pc (bI b) ca st ps (nI m) (0 : Int32) := by simp [fn_N_clock]
    have e2 : fn_M_one pr pw pc (bI (!b)) ca bs ps st bd be bx ba tk ta (13 : Int32) (nI i) g wd (nI t) bg nh nb nv nn (nI m) (nI w) = fn_M_one_J99 pr pw pc (bI (!b)) ca bs ps st bd be bx ba tk ta (13 : Int32) (nI i) g wd (nI t + (1 : Int32)) bg nh nb nv nn (nI m) (0 : Int32) := by simp [fn_M_one, fn_M_one_J45, fn_M_one_J68]
    rw [nI_t1] at e2
    refine ⟨0, nxt m 13, i, nr, nl, nb, nv, nn, nh, ng, bg, g, wd, b, ba, bs, bd, be, bx, pr, pw, pt, tk, ta, pc, ca, st, ps, e1.trans (j155 (by decide) hm _ _ _ _ _ _ _ _ _ _ _ _ _ _ _ _ _ _ _ _ _ _), e2.trans (j99 (s := 13) (by decide) hm (by decide) _ _ _ _ _ _ _ _ _ _ _ _ _ _ _ _ _ _ _ _ _ _ _ _), nxt_16 (by decide) hm, hi, hnb, hnv, hnn, hnh, ?_, hT1, h⟩
    rcases (show m = 0 ∨ m = 1 by omega) with rfl | rfl
    · exact ⟨fun h1 h2 => absurd (show 4 ≤ 13 ∧ 13 ≤ 8 from ⟨h1, h2⟩) (by decide), fun _ _ => hR.2 (by decide) (by decide)⟩
    · exact ⟨fun h1 h2 => absurd (show 4 ≤ 14 ∧ 14 ≤ 8 from ⟨h1, h2⟩) (by decide), fun _ _ => hR.2 (by decide) (by decide)⟩
  · have e1 : fn_N_clock (14 : Int32) (nI i) nr nl nb nv nn nh (nI t) ng ba bs bd be bx pr pw pt pc (bI b) ca st ps (nI m) (nI w) = fn_N_clock_J155 (14 : Int32) (nI i) nr nl nb nv nn nh (nI t) ng ba bs bd be bx pr pw pt pc (bI b) ca st ps (nI m) (0 : Int32) := by simp [fn_N_clock]
    have e2 : fn_M_one pr pw pc (bI (!b)) ca bs ps st bd be bx ba tk ta (14 : Int32) (nI i) g wd (nI t) bg nh nb nv nn (nI m) (nI w) = fn_M_one_J99 pr pw pc (bI (!b)) ca bs ps st bd be bx ba tk ta (14 : Int32) (nI i) g wd (nI t + (1 : Int32)) bg nh nb nv nn (nI m) (0 : Int32) := by simp [fn_M_one, fn_M_one_J45, fn_M_one_J68]
    rw [nI_t1] at e2
    refine ⟨0, nxt m 14, i, nr, nl, nb, nv, nn, nh, ng, bg, g, wd, b, ba, bs, bd, be, bx, pr, pw, pt, tk, ta, pc, ca, st, ps, e1.trans (j155 (by decide) hm _ _ _ _ _ _ _ _ _ _ _ _ _ _ _ _ _ _ _ _ _ _), e2.trans (j99 (s := 14) (by decide) hm (by decide) _ _ _ _ _ _ _ _ _ _ _ _ _ _ _ _ _ _ _ _ _ _ _ _), nxt_16 (by decide) hm, hi, hnb, hnv, hnn, hnh, ?_, hT1, h⟩
    rcases (show m = 0 ∨ m = 1 by omega) with rfl | rfl
    · exact ⟨fun h1 h2 => absurd (show 4 ≤ 11 ∧ 11 ≤ 8 from ⟨h1, h2⟩) (by decide), fun _ _ => hR.2 (by decide) (by decide)⟩
    · exact ⟨fun h1 h2 => absurd (show 4 ≤ 15 ∧ 15 ≤ 8 from ⟨h1, h2⟩) (by decide), fun _ _ => hR.2 (by decide) (by decide)⟩
  · obtain ⟨r, rfl, rfl, rfl, hrow⟩ := hR.2 (by decide) (by decide)
    have hr16 : r < 16 := hrow.1
    have h1 : fn_M_bits g (0 : Int32) (4 : Int32) = some (nI (r % 2 ^ 4)) := bits_ok (a := 0) (n := 4) (by decide) (by decide) (fun j hj => by rw [Nat.zero_add]; exact hrow.2 j hj)
    rw [show r % 2 ^ 4 = r from Nat.mod_eq_of_lt hr16] at h1
    have e1 : fn_N_clock (15 : Int32) (nI i) (nI r) (nI 4) nb nv nn nh (nI t) ng ba bs bd be bx pr pw pt pc (bI b) ca st ps (nI m) (nI w) = fn_N_clock_J155 (15 : Int32) (nI r) (nI r) (nI 4) nb nv nn nh (nI t) ng ba bs bd be bx pr pw pt pc (bI b) ca st ps (nI m) (0 : Int32) := by simp [fn_N_clock]
    have e2 : fn_M_one pr pw pc (bI (!b)) ca bs ps st bd be bx ba tk ta (15 : Int32) (nI i) g (nI 4) (nI t) bg nh nb nv nn (nI m) (nI w) = fn_M_one_J99 pr pw pc (bI (!b)) ca bs ps st bd be bx ba tk ta (15 : Int32) (nI r) g (nI 4) (nI t + (1 : Int32)) bg nh nb nv nn (nI m) (0 : Int32) := by simp [fn_M_one, fn_M_one_J45, fn_M_one_J68, h1]
    rw [nI_t1] at e2
    refine ⟨0, nxt m 15, r, nI r, nI 4, nb, nv, nn, nh, ng, bg, g, nI 4, b, ba, bs, bd, be, bx, pr, pw, pt, tk, ta, pc, ca, st, ps, e1.trans (j155 (by decide) hm _ _ _ _ _ _ _ _ _ _ _ _ _ _ _ _ _ _ _ _ _ _), e2.trans (j99 (s := 15) (by decide) hm (by decide) _ _ _ _ _ _ _ _ _ _ _ _ _ _ _ _ _ _ _ _ _ _ _ _), nxt_16 (by decide) hm, hr16, hnb, hnv, hnn, hnh, ?_, hT1, h⟩
    rcases (show m = 0 ∨ m = 1 by omega) with rfl | rfl
    · exact ⟨fun h1 h2 => absurd (show 4 ≤ 1 ∧ 1 ≤ 8 from ⟨h1, h2⟩) (by decide), fun h1 h2 => absurd (show 11 ≤ 1 ∧ 1 ≤ 15 from ⟨h1, h2⟩) (by decide)⟩
    · exact ⟨fun h1 h2 => absurd (show 4 ≤ 2 ∧ 2 ≤ 8 from ⟨h1, h2⟩) (by decide), fun h1 h2 => absurd (show 11 ≤ 2 ∧ 2 ≤ 15 from ⟨h1, h2⟩) (by decide)⟩
