/-! what the reference's asking methods answer -/
def anyU (σ : MS) (u : Int32) : Nat → Bool
  | 0 => false
  | c + 1 => anyU σ u c || decide (σ.1 6 (c + 1) = u)
def S_shares (σ : MS) (u o : Int32) : Int32 × MS := (if anyU σ u (nF σ 3) = true then bI (u = o) else 0, sF σ 0 0)
def S_state (σ : MS) (c : Int32) : Int32 × MS :=
  if 1 ≤ c ∧ c ≤ σ.2 3 then
    if σ.1 11 c.toNatClampNeg = 0 then
      if σ.1 12 (nA σ 6 c.toNatClampNeg) = 0 then
        if σ.1 9 c.toNatClampNeg = 0 then if σ.1 10 c.toNatClampNeg = 0 then (0, sF σ 0 0) else (1, sF σ 0 0)
        else (3, sF σ 0 0)
      else (4, sF σ 0 0)
    else (2, sF σ 0 0)
  else (-2, sF σ 0 0)
def S_raised (σ : MS) (u : Int32) : Int32 × MS := if 1 ≤ u ∧ u ≤ σ.2 2 then (σ.1 15 u.toNatClampNeg, sF σ 0 0) else (-2, sF σ 0 0)
def S_told (σ : MS) (u w : Int32) : Int32 × MS :=
  if 1 ≤ u ∧ u ≤ σ.2 2 then
    if σ.1 13 u.toNatClampNeg = 0 then (-1, sF σ 0 0)
    else if w = 0 then (σ.1 16 u.toNatClampNeg, sF σ 0 0)
    else if w = 1 then (σ.1 17 u.toNatClampNeg, sF σ 0 0)
    else if w = 2 then (σ.1 18 u.toNatClampNeg, sF σ 0 0)
    else if w = 3 then (σ.1 19 u.toNatClampNeg, sF σ 0 0)
    else (-1, sF σ 0 0)
  else (-2, sF σ 0 0)
def S_mark (σ : MS) (u i : Int32) : Int32 × MS :=
  if 1 ≤ u ∧ u ≤ σ.2 2 then
    if i < 0 then (-1, sF σ 0 0)
    else if σ.1 19 u.toNatClampNeg ≤ i then (-1, sF σ 0 0)
    else (σ.1 21 (100 * u.toNatClampNeg - 100 + i.toNatClampNeg), sF σ 0 0)
  else (-1, sF σ 0 0)
def wk (u p i : Nat) : Nat := 1200 * u - 1200 + 100 * p - 100 + i
def S_at (σ : MS) (u p i : Int32) : Int32 × MS :=
  if 1 ≤ u ∧ u ≤ σ.2 2 then
    if 1 ≤ p ∧ p ≤ σ.2 1 then
      if nA σ 14 (13 * u.toNatClampNeg + p.toNatClampNeg) = 0 then (0, sF σ 0 1)
      else if σ.1 10 (nA σ 14 (13 * u.toNatClampNeg + p.toNatClampNeg)) = 0 then (0, sF σ 0 1)
      else if i < 0 then (0, sF σ 0 1)
      else if σ.1 0 p.toNatClampNeg ≤ i then (0, sF σ 0 1)
      else (σ.1 20 (wk u.toNatClampNeg p.toNatClampNeg i.toNatClampNeg), sF σ 0 0)
    else (0, sF σ 0 1)
  else (0, sF σ 0 1)
/-- the bytes of class c -/
def fB (σ : MS) (c : Nat) : List Int32 := bFile (nA σ 7 c) (σ.1 5 (nA σ 7 c)) (σ.1 0 (nA σ 7 c)) (prO σ (nA σ 7 c)) (nA σ 8 c)
def S_octet (σ : MS) (c i : Int32) : Int32 × MS :=
  if 1 ≤ c ∧ c ≤ σ.2 3 then
    if i < 0 then (0, sF (ap (sF (sF σ 0 1) 29 0) (fB σ c.toNatClampNeg)) 0 1)
    else if nI (fB σ c.toNatClampNeg).length ≤ i then (0, sF (ap (sF (sF σ 0 1) 29 0) (fB σ c.toNatClampNeg)) 0 1)
    else (((fB σ c.toNatClampNeg).getD i.toNatClampNeg 0 &&& 255).toInt8.toInt32, sF (ap (sF (sF σ 0 1) 29 0) (fB σ c.toNatClampNeg)) 0 0)
  else (0, sF σ 0 1)
def S_count (σ : MS) (w : Int32) : Int32 × MS :=
  if w = 0 then (σ.2 1, sF σ 0 0)
  else if w = 1 then (σ.2 2, sF σ 0 0)
  else if w = 2 then (σ.2 3, sF σ 0 0)
  else if w = 3 then
    if nF σ 3 = 0 then (0, sF σ 0 0)
    else (nI (fB σ (nF σ 3)).length, ap (sF (sF σ 0 0) 29 0) (fB σ (nF σ 3)))
  else (-1, sF σ 0 0)
def plT (o : Int32) (a b : Int64) : Int32 := if (o = 3 ∨ o = 4) ∧ b = 0 then 1 else if o = 5 ∧ a < 0 then 2 else 0
def plV (o : Int32) (a b : Int64) : Int64 :=
  if o = 0 then a + b else if o = 1 then a - b else if o = 2 then a * b
  else if o = 3 then (if b = -1 then 0 - a else a / b)
  else if o = 4 then (if b = -1 then 0 else a - a / b * b)
  else if o = 5 then (if 1000 < a then 1000 else a)
  else 0
def S_plain (σ : MS) (o : Int32) (a b : Int64) : Int64 × MS := if plT o a b = 0 then (plV o a b, sF σ 0 0) else (0, sF σ 0 (plT o a b))
def wkB (σ : MS) : Prop := ∀ i, i < 12000 → (σ.1 20 i).toInt8.toInt32 = σ.1 20 i
def opsOk (σ : MS) : Prop := ∀ c, c ≤ 40 → ∀ r, 1 ≤ r → r ≤ nA σ 8 c → opOk (σ.1 2 (60 * nA σ 7 c + r))
theorem bFile_len (p : Nat) (fails z : Int32) (pr : PR) (n : Nat) (hn : n ≤ 60) : (bFile p fails z pr n).length ≤ 2300 := by
  have h1 := bConst_len p ((n + 9) / 10) (by omega)
  have h2 : ∀ k, k < (n + 9) / 10 → (bMember pr k (if n < 10 * k + 10 then n else 10 * k + 10)).length ≤ 286 := fun k hk => bMember_len pr k _ (by split <;> omega)
  have h3 : ∀ j, j ≤ (n + 9) / 10 → (catR (fun k => bMember pr k (if n < 10 * k + 10 then n else 10 * k + 10)) 0 j).length ≤ 286 * j := by
    intro j
    induction j with
    | zero => intro _; exact Nat.le_refl 0
    | succ j ih =>
      intro hj
      have a1 := ih (by omega)
      have a2 := h2 (0 + j) (by omega)
      simp only [catR, List.length_append]
      omega
  have h4 := h3 _ (Nat.le_refl _)
  have h5 : (bStart fails z).length ≤ 40 := by
    unfold bStart
    split <;> simp [bMethod, b4, b2, bPush]
  have h6 : (bFace ((n + 9) / 10)).length = 20 := rfl
  simp only [bFile, bMems, List.length_append, b2_len, h6, show ∀ a, (b4 a).length = 4 from fun _ => rfl]
  omega
