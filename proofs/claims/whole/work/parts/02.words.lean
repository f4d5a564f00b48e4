/-! the words of the pure functions: checks, and how they are read behind a walk -/
def ck {α : Type} (i : Int32) (n : Nat) (a : Option α) : Option α := if ¬ (i < 0 ∨ n ≤ i.toNatClampNeg) then a else none
def ckb {α : Type} (v : Int32) (a : Option α) : Option α := if v = 0 ∨ v = 1 then a else none
theorem ck_in {α : Type} {i : Int32} {n : Nat} {a : Option α} {o : α} (h : ck i n a = some o) : vp_in i n ∧ a = some o := by
  unfold ck at h
  split at h
  · exact ⟨by assumption, h⟩
  · cases h
theorem ckb_in {α : Type} {v : Int32} {a : Option α} {o : α} (h : ckb v a = some o) : (v = 0 ∨ v = 1) ∧ a = some o := by
  unfold ckb at h
  split at h
  · exact ⟨by assumption, h⟩
  · cases h
theorem ck_eq {α : Type} {i : Int32} {n : Nat} {a : Option α} (h : vp_in i n) : ck i n a = a := if_pos h
theorem ckb_eq {α : Type} {v : Int32} {a : Option α} (h : v = 0 ∨ v = 1) : ckb v a = a := if_pos h
theorem if_y {α : Type} {c : Prop} [Decidable c] {a b o : α} (h : (if c then a else b) = o) (hc : c) : a = o := (if_pos hc).symm.trans h
theorem if_n {α : Type} {c : Prop} [Decidable c] {a b o : α} (h : (if c then a else b) = o) (hc : ¬ c) : b = o := (if_neg hc).symm.trans h
theorem bn_ex {α β : Type} {x : Option α} {k : α → Option β} {o : β} (h : x.bind k = some o) : ∃ v, x = some v ∧ k v = some o := by
  cases x with
  | none => cases h
  | some v => exact ⟨v, rfl, h⟩
theorem pr_0 {α : Type} {u v : α} (h : some u = some v) : v = u := (Option.some.inj h).symm
theorem pr_2 {α β : Type} {r : α} {u : β} {v : α × β} (h : some (r, u) = some v) : v.1 = r ∧ v.2 = u := by
  cases h
  exact ⟨rfl, rfl⟩
theorem no_ne {α : Type} {o : α} (h : (none : Option α) = some o) : False := by cases h
theorem kb_n {v : Int32} (h : v = 0 ∨ v = 1) : narrow .boolean (.int v) = .int v := by
  rcases h with rfl | rfl <;> rfl
theorem kb_f {v : Int32} (h : v = 0 ∨ v = 1) : fits .boolean (.int v) = true := by
  rcases h with rfl | rfl <;> rfl
theorem ik_p1 (x : Int32) : x + Int32.ofInt 1 = x + (1 : Int32) := rfl
theorem ik_m1 (x : Int32) : x + Int32.ofInt (-1) = x + (-1 : Int32) := rfl
theorem ik_p4 (x : Int32) : x + Int32.ofInt 4 = x + (4 : Int32) := rfl
def tb_0 : Nat → Int32 := fun k => ([1, 1, 3, 4, 4, 6, 6, 4, 1, 10, 11, 11, 13, 13, 11, 1] : List Int32).getD k 0
def tb_1 : Nat → Int32 := fun k => ([0, 2, 9, 5, 5, 8, 7, 8, 2, 0, 12, 12, 15, 14, 15, 2] : List Int32).getD k 0
