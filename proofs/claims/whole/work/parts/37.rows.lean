/-! the shift row: an array of bits on the one side, a number on the other -/
def rwd (w r : Nat) (g : Nat → Int32) : Prop := r < 2 ^ w ∧ ∀ k, k < w → g k = nI (r / 2 ^ k % 2)
/-- fill: the bits of v into the places from a on -/
theorem fill_loop (a n V : Nat) (hV : V < 2 ^ 31) (ha : a + n ≤ 22) : ∀ (r k f : Nat) (g : Nat → Int32), k + r = n → r < f → ∃ g', fn_M_fill_L3 f g (nI a) (nI n) (nI V) (nI k) = some g' ∧ (∀ j, j < a + k → g' j = g j) ∧ (∀ j, k ≤ j → j < n → g' (a + j) = nI (V / 2 ^ j % 2)) ∧ (∀ j, a + n ≤ j → g' j = g j) := by
  intro r
  induction r with
  | zero =>
    intro k f g hk hf
    obtain ⟨f, rfl⟩ : ∃ q, f = q + 1 := ⟨f - 1, by omega⟩
    refine ⟨g, ?_, fun _ _ => rfl, fun j h1 h2 => by omega, fun _ _ => rfl⟩
    rw [fn_M_fill_S3]
    unfold fn_M_fill_B3
    rw [if_pos (nI_le (by omega) (by omega))]
  | succ r ih =>
    intro k f g hk hf
    obtain ⟨f, rfl⟩ : ∃ q, f = q + 1 := ⟨f - 1, by omega⟩
    have e1 : nI V >>> (nI k &&& (31 : Int32)) = nI (V / 2 ^ k) := pk_shrN hV _ k (by
      have h31 : ∀ q, q < 22 → ((nI q &&& (31 : Int32)).toBitVec.smod 32).toNat = q := by decide +kernel
      exact h31 k (by omega))
    have e2 : nI (V / 2 ^ k) &&& (1 : Int32) = nI (V / 2 ^ k % 2) := pk_andN (Nat.lt_of_le_of_lt (Nat.div_le_self _ _) (by omega)) 1 (by decide)
    obtain ⟨g', h1, h2, h3, h4⟩ := ih (k + 1) f (upd g (a + k) (nI (V / 2 ^ k % 2))) (by omega) (by omega)
    refine ⟨g', ?_, ?_, ?_, ?_⟩
    · rw [fn_M_fill_S3]
      unfold fn_M_fill_B3
      rw [if_neg (nI_ge (by omega) (by omega)), nI_add, ck_eq (vp_in_nI (by omega) (by decide)), nI_clamp (by omega), e1, e2, nI_1]
      exact h1
    · intro j hj
      rw [h2 j (by omega), pk_un (by omega)]
    · intro j hj1 hj2
      by_cases hj : j = k
      · subst hj
        rw [h2 (a + j) (by omega), pk_us]
      · exact h3 j (by omega) hj2
    · intro j hj
      rw [h4 j hj, pk_un (by omega)]
theorem fill_ok {a n V : Nat} (hV : V < 2 ^ 31) (ha : a + n ≤ 22) (g : Nat → Int32) : ∃ g', fn_M_fill g (nI a) (nI n) (nI V) = some g' ∧ (∀ j, j < a → g' j = g j) ∧ (∀ j, j < n → g' (a + j) = nI (V / 2 ^ j % 2)) ∧ (∀ j, a + n ≤ j → g' j = g j) := by
  obtain ⟨g', h1, h2, h3, h4⟩ := fill_loop a n V hV ha n 0 64 g (by omega) (by omega)
  exact ⟨g', h1, fun j hj => h2 j (by omega), fun j hj => h3 j (by omega) hj, h4⟩
theorem add_bit {v n m j : Nat} (h : j < m) : (v + 2 ^ m * n) / 2 ^ j % 2 = v / 2 ^ j % 2 := by
  obtain ⟨d, rfl⟩ : ∃ d, m = j + 1 + d := ⟨m - (j + 1), by omega⟩
  have h1 : 2 ^ (j + 1 + d) * n = 2 ^ j * (2 * (2 ^ d * n)) := by
    rw [Nat.pow_add, Nat.pow_succ, Nat.mul_assoc, Nat.mul_assoc]
  rw [h1, Nat.add_mul_div_left _ _ (Nat.two_pow_pos j)]
  omega
theorem div_half (S k : Nat) : 2 * (S / 2 ^ (k + 1)) + S / 2 ^ k % 2 = S / 2 ^ k := by
  rw [Nat.pow_succ, ← Nat.div_div_eq_div_mul]
  omega
theorem mod_bit {R n k : Nat} (h : k < n) : R % 2 ^ n / 2 ^ k % 2 = R / 2 ^ k % 2 := by
  have h1 := Nat.testBit_mod_two_pow R n k
  rw [Nat.testBit_eq_decide_div_mod_eq, Nat.testBit_eq_decide_div_mod_eq] at h1
  simp only [h, decide_true, Bool.true_and, decide_eq_decide] at h1
  omega
/-- bits: the number that the places from a on hold -/
theorem bits_loop (g : Nat → Int32) (a n R : Nat) (ha : a + n ≤ 22) (hg : ∀ j, j < n → g (a + j) = nI (R / 2 ^ j % 2)) : ∀ (k f : Nat), k < n → k + 1 < f → fn_M_bits_L7 f g (nI a) (nI (R % 2 ^ n / 2 ^ (k + 1))) (nI k) = some (nI (R % 2 ^ n)) := by
  have hp : 2 ^ n ≤ 2 ^ 22 := Nat.pow_le_pow_right (by decide) (by omega)
  have hR : R % 2 ^ n < 2 ^ 22 := Nat.lt_of_lt_of_le (Nat.mod_lt _ (Nat.two_pow_pos n)) hp
  have step : ∀ (k f : Nat), k < n → fn_M_bits_L7 (f + 1) g (nI a) (nI (R % 2 ^ n / 2 ^ (k + 1))) (nI k) = fn_M_bits_L7 f g (nI a) (nI (R % 2 ^ n / 2 ^ k)) (nI k + (-1 : Int32)) := by
    intro k f hk
    rw [fn_M_bits_S7]
    unfold fn_M_bits_B7
    have e1 : (2 : Int32) * nI (R % 2 ^ n / 2 ^ (k + 1)) = nI (2 * (R % 2 ^ n / 2 ^ (k + 1))) := pk_mul 2 _
    rw [if_neg (nI_pos (by omega)), nI_add, ck_eq (vp_in_nI (by omega) (by decide)), nI_clamp (by omega), hg k hk, e1, nI_add, ← mod_bit hk, div_half]
  intro k
  induction k with
  | zero =>
    intro f hk hf
    obtain ⟨f, rfl⟩ : ∃ q, f = q + 2 := ⟨f - 2, by omega⟩
    rw [step 0 (f + 1) hk, Nat.pow_zero, Nat.div_one, fn_M_bits_S7]
    unfold fn_M_bits_B7
    rw [if_pos (by decide)]
  | succ k ih =>
    intro f hk hf
    obtain ⟨f, rfl⟩ : ∃ q, f = q + 1 := ⟨f - 1, by omega⟩
    rw [step (k + 1) f hk, pk_m1]
    exact ih f (by omega) (by omega)
theorem bits_ok {g : Nat → Int32} {a n R : Nat} (hn : 0 < n) (ha : a + n ≤ 22) (hg : ∀ j, j < n → g (a + j) = nI (R / 2 ^ j % 2)) : fn_M_bits g (nI a) (nI n) = some (nI (R % 2 ^ n)) := by
  obtain ⟨k, rfl⟩ : ∃ k, n = k + 1 := ⟨n - 1, by omega⟩
  unfold fn_M_bits
  have e1 : nI (k + 1) - (1 : Int32) = nI k := nI_pred k
  have e2 : R % 2 ^ (k + 1) / 2 ^ (k + 1) = 0 := Nat.div_eq_of_lt (Nat.mod_lt _ (Nat.two_pow_pos _))
  rw [e1]
  have h := bits_loop g a (k + 1) R ha hg k 64 (by omega) (by omega)
  rw [e2] at h
  exact h
/-- the shift: every bit a place down, the new one at the top -/
theorem shift_loop (w : Nat) (bit out : Int32) (hw : 0 < w) (hw22 : w ≤ 22) : ∀ (r k f : Nat) (g : Nat → Int32), k + r + 1 = w → r < f → ∃ g', fn_M_shift_L9 f g (nI w) bit out (nI k) = some (out, g') ∧ (∀ j, j < k → g' j = g j) ∧ (∀ j, k ≤ j → j + 1 < w → g' j = g (j + 1)) ∧ g' (w - 1) = bit := by
  have e0 : nI w - (1 : Int32) = nI (w - 1) := pk_sub (b := 1) (by omega)
  intro r
  induction r with
  | zero =>
    intro k f g hk hf
    obtain ⟨f, rfl⟩ : ∃ q, f = q + 1 := ⟨f - 1, by omega⟩
    refine ⟨upd g (w - 1) bit, ?_, ?_, ?_, pk_us⟩
    · rw [fn_M_shift_S9]
      unfold fn_M_shift_B9
      rw [e0, if_pos (nI_le (by omega) (by omega)), ck_eq (vp_in_nI (by omega) (by decide)), nI_clamp (by omega)]
    · intro j hj
      exact pk_un (by omega)
    · intro j h1 h2
      omega
  | succ r ih =>
    intro k f g hk hf
    obtain ⟨f, rfl⟩ : ∃ q, f = q + 1 := ⟨f - 1, by omega⟩
    obtain ⟨g', h1, h2, h3, h4⟩ := ih (k + 1) f (upd g k (g (k + 1))) (by omega) (by omega)
    refine ⟨g', ?_, ?_, ?_, h4⟩
    · rw [fn_M_shift_S9]
      unfold fn_M_shift_B9
      rw [e0, if_neg (nI_ge (by omega) (by omega)), nI_1, ck_eq (vp_in_nI (by omega) (by decide)), ck_eq (vp_in_nI (by omega) (by decide)), nI_clamp (by omega), nI_clamp (by omega)]
      exact h1
    · intro j hj
      rw [h2 j (by omega), pk_un (by omega)]
    · intro j hj1 hj2
      by_cases hj : j = k
      · subst hj
        rw [h2 j (by omega), pk_us]
      · rw [h3 j (by omega) hj2, pk_un (by omega)]
theorem shift_row {w r b : Nat} {g : Nat → Int32} (hw : 0 < w) (hw22 : w ≤ 22) (hb : b < 2) (h : rwd w r g) : ∃ g', fn_M_shift g (nI w) (nI b) = some (nI r &&& (1 : Int32), g') ∧ ((nI r >>> ((1 : Int32) &&& (31 : Int32))) ||| (nI b <<< ((nI w - (1 : Int32)) &&& (31 : Int32)))) = nI (r / 2 + 2 ^ (w - 1) * b) ∧ rwd w (r / 2 + 2 ^ (w - 1) * b) g' := by
  obtain ⟨hr, hg⟩ := h
  have hp : 2 ^ w ≤ 2 ^ 22 := Nat.pow_le_pow_right (by decide) hw22
  have hw2 : 2 ^ w = 2 * 2 ^ (w - 1) := by
    obtain ⟨v, rfl⟩ : ∃ v, w = v + 1 := ⟨w - 1, by omega⟩
    rw [Nat.pow_succ, Nat.mul_comm]; rfl
  obtain ⟨g', h1, h2, h3, h4⟩ := shift_loop w (nI b) (g 0) hw hw22 (w - 1) 0 64 g (by omega) (by omega)
  have e0 : g 0 = nI r &&& (1 : Int32) := by
    rw [hg 0 hw, pk_andN (by omega) 1 (by decide), Nat.pow_zero, Nat.div_one]
  have e1 : nI r >>> ((1 : Int32) &&& (31 : Int32)) = nI (r / 2) := pk_shrN (by omega) _ 1 (by decide)
  have h31 : ∀ q, q < 22 → ((nI q &&& (31 : Int32)).toBitVec.smod 32).toNat = q := by decide +kernel
  have e2 : nI w - (1 : Int32) = nI (w - 1) := pk_sub (b := 1) (by omega)
  have hbp : b * 2 ^ (w - 1) < 2 ^ 32 := by
    have h5 : b * 2 ^ (w - 1) ≤ 1 * 2 ^ (w - 1) := Nat.mul_le_mul_right _ (by omega)
    omega
  have e3 : nI b <<< (nI (w - 1) &&& (31 : Int32)) = nI (b * 2 ^ (w - 1)) := pk_shlN _ (w - 1) (h31 (w - 1) (by omega)) hbp
  refine ⟨g', ?_, ?_, ?_, ?_⟩
  · unfold fn_M_shift
    rw [ck_eq (by unfold vp_in; decide), ← e0]
    exact h1
  · rw [e1, e2, e3, Nat.mul_comm b]
    exact nI_orS (w - 1) rfl (by omega)
  · have h5 : 2 ^ (w - 1) * b ≤ 2 ^ (w - 1) * 1 := Nat.mul_le_mul_left _ (by omega)
    omega
  · intro k hk
    by_cases hkw : k + 1 < w
    · rw [h3 k (by omega) hkw, hg (k + 1) hkw]
      congr 1
      rw [add_bit (by omega : k < w - 1), Nat.div_div_eq_div_mul, Nat.pow_succ, Nat.mul_comm 2]
    · obtain rfl : k = w - 1 := by omega
      rw [h4]
      congr 1
      rw [Nat.add_mul_div_left _ _ (Nat.two_pow_pos _), Nat.div_eq_of_lt (by omega)]
      omega
