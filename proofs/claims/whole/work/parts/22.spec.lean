/-! what the reference answers, and its state behind: functions of the state and the arguments -/
def nA (σ : MS) (j i : Nat) : Nat := (σ.1 j i).toNatClampNeg
def nF (σ : MS) (k : Nat) : Nat := (σ.2 k).toNatClampNeg
theorem nF_of {σ : MS} {k n : Nat} (h : σ.2 k = nI n) (hn : n < 2 ^ 31) : nF σ k = n := by rw [nF, h, nI_clamp hn]
theorem nA_of {σ : MS} {j i n : Nat} (h : σ.1 j i = nI n) (hn : n < 2 ^ 31) : nA σ j i = n := by rw [nA, h, nI_clamp hn]
def isB (x : Int32) : Prop := x = 0 ∨ x = 1
theorem isB_nar {x : Int32} (h : isB x) : vp_nar .boolean x = x := by rcases h with rfl | rfl <;> rfl
def S_program (σ : MS) (z sf : Int32) : Int32 × MS :=
  if z < 1 then (-4, sF σ 0 0)
  else if z ≤ 100 then
    if nF σ 1 = 12 then (-1, sF σ 0 0)
    else (nI (nF σ 1 + 1), sA (sA (sF (sF σ 0 0) 1 (nI (nF σ 1 + 1))) 0 (nF σ 1 + 1) z) 5 (nF σ 1 + 1) sf)
  else (-4, sF σ 0 0)
def okRow (z o a b : Int32) : Prop :=
  if o = 0 ∨ o = 13 then (0 ≤ a ∧ a ≤ z - 1) ∧ (-128 ≤ b ∧ b ≤ 127)
  else if o = 8 then (0 ≤ a ∧ a ≤ z - 1) ∧ (1 ≤ b ∧ b ≤ 61)
  else if o = 9 then 1 ≤ b ∧ b ≤ 61
  else if o = 10 then 1 ≤ a ∧ a ≤ 12
  else if o = 11 ∨ o = 12 then 0 ≤ a ∧ a ≤ 127
  else (0 < o ∧ o < 8) ∧ (0 ≤ a ∧ a ≤ z - 1) ∧ (0 ≤ b ∧ b ≤ z - 1)
def okB (z o a b : Int32) : Int32 :=
  if o = 0 then bI ((0 ≤ a ∧ a ≤ z - 1) ∧ (-128 ≤ b ∧ b ≤ 127))
  else if o = 13 then bI ((0 ≤ a ∧ a ≤ z - 1) ∧ (-128 ≤ b ∧ b ≤ 127))
  else if o = 8 then bI ((0 ≤ a ∧ a ≤ z - 1) ∧ (1 ≤ b ∧ b ≤ 61))
  else if o = 9 then bI (1 ≤ b ∧ b ≤ 61)
  else if o = 10 then bI (1 ≤ a ∧ a ≤ 12)
  else if o = 11 then bI (0 ≤ a ∧ a ≤ 127)
  else if o = 12 then bI (0 ≤ a ∧ a ≤ 127)
  else if 0 < o ∧ o < 8 then bI ((0 ≤ a ∧ a ≤ z - 1) ∧ (0 ≤ b ∧ b ≤ z - 1)) else 0
theorem okB_isB (z o a b : Int32) : isB (okB z o a b) := by
  have h : ∀ (c : Prop) [Decidable c], isB (bI c) := fun c _ => by unfold bI; split <;> simp [isB]
  unfold okB
  repeat' split
  all_goals first | exact h _ | exact Or.inl rfl
def S_code (σ : MS) (p o a b : Int32) : Int32 × MS :=
  if 1 ≤ p ∧ p ≤ σ.2 1 then
    if okB (σ.1 0 p.toNatClampNeg) o a b = 0 then (-4, sF σ 0 0)
    else if nA σ 1 p.toNatClampNeg = 60 then (-1, sF σ 0 0)
    else (nI (nA σ 1 p.toNatClampNeg + 1), sA (sA (sA (sA (sF σ 0 0) 1 p.toNatClampNeg (nI (nA σ 1 p.toNatClampNeg + 1))) 2 (60 * p.toNatClampNeg + (nA σ 1 p.toNatClampNeg + 1)) o) 3 (60 * p.toNatClampNeg + (nA σ 1 p.toNatClampNeg + 1)) a) 4 (60 * p.toNatClampNeg + (nA σ 1 p.toNatClampNeg + 1)) b)
  else (-2, sF σ 0 0)
def S_unit (σ : MS) : Int32 × MS := if nF σ 2 = 8 then (-1, sF σ 0 0) else (nI (nF σ 2 + 1), sF (sF σ 0 0) 2 (nI (nF σ 2 + 1)))
def S_made (σ : MS) (u p : Nat) : Int32 × MS :=
  if 0 < nA σ 14 (13 * u + p) ∧ σ.1 8 (nA σ 14 (13 * u + p)) = σ.1 1 p then (nI (nA σ 14 (13 * u + p)), σ)
  else if nF σ 3 = 40 then (-1, σ)
  else if 0 < nA σ 14 (13 * u + p) then
    (nI (nF σ 3 + 1), sA (sA (sA (sA (sA (sA (sF σ 3 (nI (nF σ 3 + 1))) 6 (nF σ 3 + 1) (nI u)) 7 (nF σ 3 + 1) (nI p)) 8 (nF σ 3 + 1) (σ.1 1 p)) 9 (nA σ 14 (13 * u + p)) 1) 10 (nA σ 14 (13 * u + p)) 0) 14 (13 * u + p) (nI (nF σ 3 + 1)))
  else (nI (nF σ 3 + 1), sA (sA (sA (sA (sF σ 3 (nI (nF σ 3 + 1))) 6 (nF σ 3 + 1) (nI u)) 7 (nF σ 3 + 1) (nI p)) 8 (nF σ 3 + 1) (σ.1 1 p)) 14 (13 * u + p) (nI (nF σ 3 + 1)))
def S_make (σ : MS) (u p : Int32) : Int32 × MS :=
  if 1 ≤ u ∧ u ≤ σ.2 2 then
    if 1 ≤ p ∧ p ≤ σ.2 1 then
      if σ.1 12 u.toNatClampNeg = 0 then S_made (sF σ 0 0) u.toNatClampNeg p.toNatClampNeg else (-5, sF σ 0 0)
    else (-2, sF σ 0 0)
  else (-2, sF σ 0 0)
def S_cancel (σ : MS) (u p : Int32) : Int32 × MS :=
  if 1 ≤ u ∧ u ≤ σ.2 2 then
    if 1 ≤ p ∧ p ≤ σ.2 1 then
      if σ.1 12 u.toNatClampNeg = 0 then
        if nA σ 14 (13 * u.toNatClampNeg + p.toNatClampNeg) = 0 then (0, sF σ 0 0)
        else if σ.1 10 (nA σ 14 (13 * u.toNatClampNeg + p.toNatClampNeg)) = 0 then (0, sF σ 0 0)
        else (1, sA (sF σ 0 0) 10 (nA σ 14 (13 * u.toNatClampNeg + p.toNatClampNeg)) 0)
      else (-5, sF σ 0 0)
    else (-2, sF σ 0 0)
  else (-2, sF σ 0 0)
/-- what the reference's walks need of its state: numbers in their ranges -/
def isN (x : Int32) (m : Nat) : Prop := ∃ n : Nat, x = nI n ∧ n ≤ m
def rg (σ : MS) : Prop := isN (σ.2 1) 12 ∧ isN (σ.2 2) 8 ∧ isN (σ.2 3) 40 ∧ (∀ p, p ≤ 12 → isN (σ.1 0 p) 100) ∧ (∀ p, p ≤ 12 → isN (σ.1 1 p) 60) ∧ (∀ c, c ≤ 40 → isN (σ.1 6 c) 8 ∧ isN (σ.1 7 c) 12 ∧ isN (σ.1 8 c) 60) ∧ (∀ i, i < 130 → isN (σ.1 14 i) 40) ∧ (∀ u, u ≤ 8 → isN (σ.1 19 u) 100)
theorem in1 {x y : Int32} {m : Nat} (hy : isN y m) (hm : m < 2 ^ 31) (h : 1 ≤ x ∧ x ≤ y) : ∃ n : Nat, x = nI n ∧ 1 ≤ n ∧ n ≤ m ∧ y.toNatClampNeg ≤ m ∧ n ≤ y.toNatClampNeg := by
  obtain ⟨k, rfl, hk⟩ := hy
  obtain ⟨n, h1, h2, rfl⟩ := in_nI (f := 1) (by omega) h (by decide)
  exact ⟨n, rfl, h1, by omega, by rw [nI_clamp (by omega)]; exact hk, by rw [nI_clamp (by omega)]; exact h2⟩
theorem nI_eqN {n k : Nat} (hn : n < 2 ^ 31) (hk : k < 2 ^ 31) {P : Nat → Prop} (h : nI n = nI k) : n = k := (nI_eq hn hk).mp h
