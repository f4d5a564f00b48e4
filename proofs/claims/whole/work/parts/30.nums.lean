/-! numbers below a bound, as Int32 -/
def lo (n : Nat) (x : Int32) : Prop := ∃ k : Nat, k < n ∧ x = nI k
theorem lo_mono {n m : Nat} {x : Int32} (h : lo n x) (hm : n ≤ m) : lo m x := by
  obtain ⟨k, h1, h2⟩ := h
  exact ⟨k, by omega, h2⟩
theorem lo_in {n : Nat} {x : Int32} (h : lo n x) (hn : n < 2 ^ 31) : vp_in x n := by
  obtain ⟨k, h1, rfl⟩ := h
  exact vp_in_nI h1 hn
theorem lo_nI {k n : Nat} (h : k < n) : lo n (nI k) := ⟨k, h, rfl⟩
theorem lo_and (x : Int32) {m : Int32} (k : Nat) (hm : m.toBitVec.toNat = 2 ^ k - 1) : lo (2 ^ k) (x &&& m) := by
  obtain ⟨j, h1, h2⟩ := pk_andE x k hm
  exact ⟨j, h1, h2⟩
theorem lo_1 (x : Int32) : lo 2 (x &&& (1 : Int32)) := lo_and x 1 (by decide)
theorem lo_3 (x : Int32) : lo 4 (x &&& (3 : Int32)) := lo_and x 2 (by decide)
theorem lo_7 (x : Int32) : lo 8 (x &&& (7 : Int32)) := lo_and x 3 (by decide)
theorem lo_15 (x : Int32) : lo 16 (x &&& (15 : Int32)) := lo_and x 4 (by decide)
theorem lo_63 (x : Int32) : lo 64 (x &&& (63 : Int32)) := lo_and x 6 (by decide)
theorem lo_255 (x : Int32) : lo 256 (x &&& (255 : Int32)) := lo_and x 8 (by decide)
theorem lo_65535 (x : Int32) : lo 65536 (x &&& (65535 : Int32)) := lo_and x 16 (by decide)
theorem r64 {k : Nat} (h : k < 2 ^ 31) : nI k - nI k / (64 : Int32) * (64 : Int32) = nI k &&& (63 : Int32) := by
  have h1 : nI k - nI k / nI 64 * nI 64 = nI (k % 64) := pk_rem h (by decide) (by decide)
  have h2 : nI k &&& (63 : Int32) = nI (k % 2 ^ 6) := pk_andN (by omega) 6 (by decide)
  rw [h2]
  exact h1
theorem r65536 {k : Nat} (h : k < 2 ^ 31) : nI k - nI k / (65536 : Int32) * (65536 : Int32) = nI k &&& (65535 : Int32) := by
  have h1 : nI k - nI k / nI 65536 * nI 65536 = nI (k % 65536) := pk_rem h (by decide) (by decide)
  have h2 : nI k &&& (65535 : Int32) = nI (k % 2 ^ 16) := pk_andN (by omega) 16 (by decide)
  rw [h2]
  exact h1
theorem rl64 {n : Nat} {x : Int32} (h : lo n x) (hn : n ≤ 2 ^ 31) : x - x / (64 : Int32) * (64 : Int32) = x &&& (63 : Int32) := by
  obtain ⟨k, h1, rfl⟩ := h
  exact r64 (by omega)
theorem rl64_1 {x : Int32} (h : lo 64 x) : (x + (1 : Int32)) - (x + (1 : Int32)) / (64 : Int32) * (64 : Int32) = (x + (1 : Int32)) &&& (63 : Int32) := by
  obtain ⟨k, h1, rfl⟩ := h
  rw [nI_1]
  exact r64 (by omega)
theorem pf_place {r : Int32} (hr : lo 65536 r) (w : Int32) : (r + (w &&& (63 : Int32))) - (r + (w &&& (63 : Int32))) / (64 : Int32) * (64 : Int32) = (r + (w &&& (63 : Int32))) &&& (63 : Int32) := by
  obtain ⟨a, ha, rfl⟩ := hr
  obtain ⟨n, hn, e⟩ := lo_63 w
  rw [e, nI_add]
  exact r64 (by omega)
theorem pf_add {a b : Int32} (ha : lo 65536 a) (hb : lo 65536 b) : (a + b) - (a + b) / (65536 : Int32) * (65536 : Int32) = (a + b) &&& (65535 : Int32) := by
  obtain ⟨x, hx, rfl⟩ := ha
  obtain ⟨y, hy, rfl⟩ := hb
  rw [nI_add]
  exact r65536 (by omega)
theorem pf_sub {a b : Int32} (ha : lo 65536 a) (hb : lo 65536 b) : ((a + (65536 : Int32)) - b) - ((a + (65536 : Int32)) - b) / (65536 : Int32) * (65536 : Int32) = (a - b) &&& (65535 : Int32) := by
  obtain ⟨x, hx, rfl⟩ := ha
  obtain ⟨y, hy, rfl⟩ := hb
  have h1 : nI x + (65536 : Int32) = nI (x + 65536) := nI_add x 65536
  have h2 : nI (x + 65536) - nI y = nI (x + 65536 - y) := pk_sub (by omega)
  rw [h1, h2, r65536 (by omega)]
  rw [pk_and (nI x - nI y) 16 (by decide), pk_andN (by omega) 16 (by decide)]
  congr 1
  rw [Int32.toBitVec_sub, BitVec.toNat_sub, pk_tn (by omega), pk_tn (by omega)]
  omega
/-- the place that isTrapped takes: w instead of its lowest six bits -/
theorem pf_place2 {r : Int32} (hr : lo 65536 r) {w : Int32} (hw : lo 65536 w) : (r + w) &&& (63 : Int32) = (r + (w &&& (63 : Int32))) &&& (63 : Int32) := by
  obtain ⟨a, ha, rfl⟩ := hr
  obtain ⟨n, hn, rfl⟩ := hw
  rw [pk_andN (m := 63) (n := n) (by omega) 6 (by decide), nI_add, nI_add, pk_andN (by omega) 6 (by decide), pk_andN (by omega) 6 (by decide)]
  congr 1
  omega
theorem lo_upd {n : Nat} {f : Nat → Int32} (h : ∀ k, lo n (f k)) (i : Nat) {x : Int32} (hx : lo n x) : ∀ k, lo n (upd f i x k) := by
  intro k
  by_cases hk : k = i
  · subst hk
    rw [pk_us]
    exact hx
  · rw [pk_un hk]
    exact h k
theorem nI_or (a b : Nat) : nI a ||| nI b = nI (a ||| b) := by
  apply Int32.toBitVec_inj.1
  show BitVec.ofNat 32 a ||| BitVec.ofNat 32 b = BitVec.ofNat 32 (a ||| b)
  apply BitVec.eq_of_getLsbD_eq
  intro i hi
  simp [hi]
/-- or of what lies apart is a sum -/
theorem nI_orS {a b p : Nat} (k : Nat) (hp : 2 ^ k = p) (ha : a < p) : nI a ||| nI (p * b) = nI (a + p * b) := by
  subst hp
  rw [nI_or, Nat.or_comm, ← Nat.two_pow_add_eq_or_of_lt ha b, Nat.add_comm]
