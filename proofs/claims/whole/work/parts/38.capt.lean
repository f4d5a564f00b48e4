/-! capture: what a data row is taken from -/
def wid (i : Nat) : Nat := if i = 1 then 16 else if i = 2 then 4 else if i = 3 then 22 else 1
theorem wid_n {i : Nat} (h1 : i ≠ 1) (h2 : i ≠ 2) (h3 : i ≠ 3) : wid i = 1 := by
  unfold wid
  rw [if_neg h1, if_neg h2, if_neg h3]
theorem wid_in (i : Nat) : 0 < wid i ∧ wid i ≤ 22 := by
  unfold wid
  split
  · omega
  · split
    · omega
    · split <;> omega
theorem div_pow (r a j : Nat) : r / 2 ^ a / 2 ^ j = r / 2 ^ (a + j) := by
  rw [Nat.div_div_eq_div_mul, Nat.pow_add]
theorem zero_bit (j : Nat) : 0 / 2 ^ j % 2 = 0 := by rw [Nat.zero_div]
def bzN (bz : Bool) : Nat := match bz with | true => 3 | false => 0
theorem bzN_lt (bz : Bool) : bzN bz < 4 := by cases bz <;> decide
/-- the filling of the two lowest bits, by BUSY -/
theorem cap_2 (bz : Bool) (g : Nat → Int32) : ∃ g', (if bI bz = (0 : Int32) then fn_M_fill g (0 : Int32) (2 : Int32) (0 : Int32) else fn_M_fill g (0 : Int32) (2 : Int32) (3 : Int32)) = some g' ∧ (∀ j, j < 2 → g' j = nI (bzN bz / 2 ^ j % 2)) ∧ (∀ j, 2 ≤ j → g' j = g j) := by
  cases bz with
  | true =>
    obtain ⟨g', h1, h2, h3, h4⟩ := fill_ok (a := 0) (n := 2) (V := 3) (by decide) (by decide) g
    refine ⟨g', ?_, ?_, ?_⟩
    · rw [if_neg ne_1]
      exact h1
    · intro j hj
      have h5 := h3 j hj
      rw [Nat.zero_add] at h5
      exact h5
    · intro j hj
      exact h4 j (by omega)
  | false =>
    obtain ⟨g', h1, h2, h3, h4⟩ := fill_ok (a := 0) (n := 2) (V := 0) (by decide) (by decide) g
    refine ⟨g', ?_, ?_, ?_⟩
    · rw [if_pos eq_f]
      exact h1
    · intro j hj
      have h5 := h3 j hj
      rw [Nat.zero_add] at h5
      exact h5
    · intro j hj
      exact h4 j (by omega)
theorem if_bind {α β : Type} {c : Prop} [Decidable c] {x y : Option α} {k : α → Option β} {v : α} (h : (if c then x else y) = some v) : (if c then x.bind k else y.bind k) = k v := by
  by_cases hc : c
  · rw [if_pos hc] at h ⊢
    rw [h]; rfl
  · rw [if_neg hc] at h ⊢
    rw [h]; rfl
theorem sim_capture {i v n : Nat} (bz : Bool) (hi : i < 16) (hv : v < 65536) (hn : n < 16) (nr nl : Int32) (g : Nat → Int32) (wd : Int32) :
    ∃ r g', fn_N_captureData (nI i) nr nl (bI bz) (nI v) (nI n) = some (nI r, nI (wid i)) ∧ fn_M_capture (nI i) g wd (bI bz) (nI v) (nI n) = some (g', nI (wid i)) ∧ rwd (wid i) r g' := by
  have ne : ∀ c : Nat, c < 16 → i ≠ c → ¬ nI i = nI c := fun c hc h => by
    rw [nI_eq (by omega) (by omega)]; exact h
  have hd : fn_N_captureData (nI i) nr nl (bI bz) (nI v) (nI n) = fn_N_captureData_J12 (nI i) nr nl (bI bz) (nI v) (nI n) (nI (bzN bz)) := by
    unfold fn_N_captureData
    cases bz <;> rfl
  rw [hd]
  unfold fn_N_captureData_J12 fn_N_setRow fn_M_capture fn_M_capture_J40 fn_M_capture_J71 fn_M_capture_J105
  by_cases h1 : i = 1
  · subst h1
    obtain ⟨g1, a1, a2, a3, a4⟩ := fill_ok (a := 0) (n := 16) (V := 0) (by decide) (by decide) g
    obtain ⟨g2, b1, b2, b3, b4⟩ := fill_ok (a := 0) (n := 16) (V := 23130) (by decide) (by decide) g1
    have a1 : fn_M_fill g (0 : Int32) (16 : Int32) (0 : Int32) = some g1 := a1
    have b1 : fn_M_fill g1 (0 : Int32) (16 : Int32) (23130 : Int32) = some g2 := b1
    have y1 : nI 1 = (1 : Int32) := rfl
    have y2 : ¬ nI 1 = (2 : Int32) := ne 2 (by decide) (by decide)
    have y3 : ¬ nI 1 = (3 : Int32) := ne 3 (by decide) (by decide)
    refine ⟨23130, g2, ?_, ?_, by decide, ?_⟩
    · rw [if_pos y1]; rfl
    · simp only [if_pos y1, a1, bs, b1, if_neg y2, if_neg y3]
      rfl
    · intro k hk
      have h5 := b3 k hk
      rw [Nat.zero_add] at h5
      exact h5
  have y1 : ¬ nI i = (1 : Int32) := ne 1 (by decide) h1
  rw [if_neg y1, if_neg y1]
  by_cases h2 : i = 2
  · subst h2
    obtain ⟨g1, a1, a2, a3, a4⟩ := fill_ok (a := 0) (n := 4) (V := 0) (by decide) (by decide) g
    have a1 : fn_M_fill g (0 : Int32) (4 : Int32) (0 : Int32) = some g1 := a1
    obtain ⟨g2, b1, b2, b3⟩ := cap_2 bz g1
    have y2 : nI 2 = (2 : Int32) := rfl
    have y3 : ¬ nI 2 = (3 : Int32) := ne 3 (by decide) (by decide)
    refine ⟨bzN bz, g2, ?_, ?_, ?_, ?_⟩
    · rw [if_pos y2]; rfl
    · simp only [if_neg y1, if_pos y2, a1, bs, if_bind b1, if_neg y3]
      rfl
    · have := bzN_lt bz
      show bzN bz < 2 ^ 4
      omega
    · intro k hk
      have hk : k < 4 := hk
      by_cases hk2 : k < 2
      · exact b2 k hk2
      · have h5 := a3 k hk
        rw [Nat.zero_add, zero_bit] at h5
        rw [b3 k (by omega), h5]
        congr 1
        have h6 : bzN bz / 2 ^ k = 0 := by
          have := bzN_lt bz
          have h7 : 2 ^ 2 ≤ 2 ^ k := Nat.pow_le_pow_right (by decide) (by omega)
          exact Nat.div_eq_of_lt (by omega)
        rw [h6]
  have y2 : ¬ nI i = (2 : Int32) := ne 2 (by decide) h2
  rw [if_neg y2, if_neg y2]
  by_cases h3 : i = 3
  · subst h3
    obtain ⟨g1, a1, a2, a3, a4⟩ := fill_ok (a := 0) (n := 22) (V := 0) (by decide) (by decide) g
    have a1 : fn_M_fill g (0 : Int32) (22 : Int32) (0 : Int32) = some g1 := a1
    obtain ⟨g2, b1, b2, b3⟩ := cap_2 bz g1
    obtain ⟨g3, c1, c2, c3, c4⟩ := fill_ok (a := 2) (n := 16) (V := v) (by omega) (by decide) g2
    have c1 : fn_M_fill g2 (2 : Int32) (16 : Int32) (nI v) = some g3 := c1
    obtain ⟨g4, d1, d2, d3, d4⟩ := fill_ok (a := 18) (n := 4) (V := n) (by omega) (by decide) g3
    have d1 : fn_M_fill g3 (18 : Int32) (4 : Int32) (nI n) = some g4 := d1
    have y3 : nI 3 = (3 : Int32) := rfl
    have hz := bzN_lt bz
    have e1 : nI v <<< ((2 : Int32) &&& (31 : Int32)) = nI (v * 2 ^ 2) := pk_shlN _ 2 (by decide) (by omega)
    have e2 : nI n <<< ((18 : Int32) &&& (31 : Int32)) = nI (n * 2 ^ 18) := pk_shlN _ 18 (by decide) (by omega)
    have e3 : (nI (bzN bz) ||| nI (v * 2 ^ 2)) ||| nI (n * 2 ^ 18) = nI (bzN bz + 2 ^ 2 * (v + 2 ^ 16 * n)) := by
      rw [Nat.mul_comm v, Nat.mul_comm n, nI_orS 2 rfl (by omega), nI_orS 18 rfl (by omega)]
      congr 1
      omega
    refine ⟨bzN bz + 2 ^ 2 * (v + 2 ^ 16 * n), g4, ?_, ?_, ?_, ?_⟩
    · rw [if_pos y3, e1, e2, e3]; rfl
    · simp only [if_neg y1, if_neg y2, if_pos y3, a1, bs, if_bind b1, c1, d1]
      rfl
    · show bzN bz + 2 ^ 2 * (v + 2 ^ 16 * n) < 2 ^ 22
      omega
    · intro k hk
      have hk : k < 22 := hk
      by_cases hk2 : k < 2
      · rw [d2 k (by omega), c2 k hk2, b2 k hk2, add_bit hk2]
      · obtain ⟨j, rfl⟩ : ∃ j, k = 2 + j := ⟨k - 2, by omega⟩
        have q1 : (bzN bz + 2 ^ 2 * (v + 2 ^ 16 * n)) / 2 ^ (2 + j) = (v + 2 ^ 16 * n) / 2 ^ j := by
          rw [← div_pow, Nat.add_mul_div_left _ _ (Nat.two_pow_pos 2), Nat.div_eq_of_lt hz, Nat.zero_add]
        rw [q1]
        by_cases hk3 : j < 16
        · rw [d2 (2 + j) (by omega), c3 j hk3, add_bit hk3]
        · obtain ⟨m, rfl⟩ : ∃ m, j = 16 + m := ⟨j - 16, by omega⟩
          have q2 : (v + 2 ^ 16 * n) / 2 ^ (16 + m) = n / 2 ^ m := by
            rw [← div_pow, Nat.add_mul_div_left _ _ (Nat.two_pow_pos 16), Nat.div_eq_of_lt hv, Nat.zero_add]
          have h5 := d3 m (by omega)
          rw [q2, show 2 + (16 + m) = 18 + m from by omega]
          exact h5
  have y3 : ¬ nI i = (3 : Int32) := ne 3 (by decide) h3
  rw [if_neg y3, if_neg y3]
  obtain ⟨g1, a1, a2, a3, a4⟩ := fill_ok (a := 0) (n := 1) (V := 0) (by decide) (by decide) g
  have a1 : fn_M_fill g (0 : Int32) (1 : Int32) (0 : Int32) = some g1 := a1
  rw [wid_n h1 h2 h3]
  refine ⟨0, g1, rfl, ?_, by decide, ?_⟩
  · simp only [a1, bs, if_neg y1, if_neg y2, if_neg y3]
    rfl
  · intro k hk
    have h5 := a3 k hk
    rw [Nat.zero_add] at h5
    exact h5
