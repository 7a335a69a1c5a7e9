/-! the reference's running, as functions -/
def zW (σ : MS) (b : Nat) : Nat → MS
  | 0 => σ
  | k + 1 => sA (zW σ b k) 20 (b + k) 0
theorem zW_fld (σ : MS) (b k : Nat) : (zW σ b k).2 = σ.2 := by
  induction k with
  | zero => rfl
  | succ k ih => exact ih
theorem zW_arr (σ : MS) (b : Nat) {j : Nat} (hj : j ≠ 20) : ∀ k : Nat, (zW σ b k).1 j = σ.1 j
  | 0 => rfl
  | k + 1 => (va_up_ne _ _ hj).trans (zW_arr σ b hj k)
def pushF (σ : MS) (c : Nat) : MS := sF (sA (sA σ 22 (nF σ 26) (nI c)) 23 (nF σ 26) 1) 26 (nI (nF σ 26 + 1))
def S_enter (σ : MS) (c : Nat) : Int32 × MS :=
  if σ.1 10 c = 0 then
    if σ.1 5 (nA σ 7 c) = 0 then (0, sA (zW (pushF σ c) (wk (nA σ 6 c) (nA σ 7 c) 0) 100) 10 c 1)
    else (5, sA (sA (pushF σ c) 11 c 1) 12 (nA σ 6 c) 1)
  else (0, pushF σ c)
def S_called (σ : MS) (u : Nat) (a : Int32) : Int32 × MS :=
  if nF σ 26 = 11 then (3, σ)
  else if 1 ≤ a ∧ a ≤ σ.2 1 then
    if nA σ 14 (13 * u + a.toNatClampNeg) = 0 then
      if (S_made σ u a.toNatClampNeg).1 = -1 then (6, (S_made σ u a.toNatClampNeg).2)
      else S_enter (S_made σ u a.toNatClampNeg).2 (S_made σ u a.toNatClampNeg).1.toNatClampNeg
    else S_enter σ (nA σ 14 (13 * u + a.toNatClampNeg))
  else (6, σ)
def S_stepO (σ : MS) (u p : Nat) (o a b : Int32) : Int32 × MS :=
  if o = 0 then (0, sA σ 20 (wk u p a.toNatClampNeg) b.toInt8.toInt32)
  else if o = 1 then (0, sA σ 20 (wk u p a.toNatClampNeg) (σ.1 20 (wk u p b.toNatClampNeg)).toInt8.toInt32)
  else if o = 2 then (0, sA σ 20 (wk u p a.toNatClampNeg) (σ.1 20 (wk u p a.toNatClampNeg) + σ.1 20 (wk u p b.toNatClampNeg)).toInt8.toInt32)
  else if o = 3 then (0, sA σ 20 (wk u p a.toNatClampNeg) (σ.1 20 (wk u p a.toNatClampNeg) - σ.1 20 (wk u p b.toNatClampNeg)).toInt8.toInt32)
  else if o = 4 then (0, sA σ 20 (wk u p a.toNatClampNeg) (σ.1 20 (wk u p a.toNatClampNeg) * σ.1 20 (wk u p b.toNatClampNeg)).toInt8.toInt32)
  else if o = 5 then
    if σ.1 20 (wk u p b.toNatClampNeg) = 0 then (1, σ)
    else (0, sA σ 20 (wk u p a.toNatClampNeg) (σ.1 20 (wk u p a.toNatClampNeg) / σ.1 20 (wk u p b.toNatClampNeg)).toInt8.toInt32)
  else if o = 6 then
    if σ.1 20 (wk u p b.toNatClampNeg) = 0 then (1, σ)
    else (0, sA σ 20 (wk u p a.toNatClampNeg) (σ.1 20 (wk u p a.toNatClampNeg) - σ.1 20 (wk u p a.toNatClampNeg) / σ.1 20 (wk u p b.toNatClampNeg) * σ.1 20 (wk u p b.toNatClampNeg)).toInt8.toInt32)
  else if o = 7 then
    if σ.1 20 (wk u p a.toNatClampNeg) < 0 then (2, σ)
    else if σ.1 20 (wk u p a.toNatClampNeg) < σ.1 0 p then (0, sA σ 20 (wk u p (σ.1 20 (wk u p a.toNatClampNeg)).toNatClampNeg) (σ.1 20 (wk u p b.toNatClampNeg)).toInt8.toInt32)
    else (2, σ)
  else if o = 8 then if σ.1 20 (wk u p a.toNatClampNeg) = 0 then (0, sA σ 23 (nF σ 26 - 1) b) else (0, σ)
  else if o = 9 then (0, sA σ 23 (nF σ 26 - 1) b)
  else if o = 10 then S_called σ u a
  else if o = 11 then if 100 ≤ σ.1 19 u then (0, σ) else (0, sA (sA σ 21 (100 * u - 100 + nA σ 19 u) a) 19 u (nI (nA σ 19 u + 1)))
  else if o = 12 then (99, sA (sA σ 17 u a) 12 u 1)
  else if σ.1 20 (wk u p a.toNatClampNeg) ≤ b then (0, σ) else (4, σ)
def S_step (σ : MS) (c r : Nat) : Int32 × MS := S_stepO σ (nA σ 6 c) (nA σ 7 c) (prO σ (nA σ 7 c) r).1 (prO σ (nA σ 7 c) r).2.1 (prO σ (nA σ 7 c) r).2.2
/-- one turn of the loop: nothing failed yet, a frame stands -/
def S_it (u : Nat) (σ : MS) : Int32 × MS :=
  if nA σ 8 (nA σ 22 (nF σ 26 - 1)) < nA σ 23 (nF σ 26 - 1) then (0, sF σ 26 (nI (nF σ 26 - 1)))
  else if nA σ 18 u = 1000 then (7, sA (sA σ 16 u (σ.1 7 (nA σ 22 (nF σ 26 - 1)))) 23 (nF σ 26 - 1) (nI (nA σ 23 (nF σ 26 - 1) + 1)))
  else S_step (sA (sA (sA σ 16 u (σ.1 7 (nA σ 22 (nF σ 26 - 1)))) 23 (nF σ 26 - 1) (nI (nA σ 23 (nF σ 26 - 1) + 1))) 18 u (nI (nA σ 18 u + 1))) (nA σ 22 (nF σ 26 - 1)) (nA σ 23 (nF σ 26 - 1))
/-- the loop down to the height d, at most n turns -/
def itD (u d : Nat) : Nat → Int32 × MS → Int32 × MS
  | 0, x => x
  | n + 1, x => if x.1 = 0 ∧ d < nF x.2 26 then itD u d n (S_it u x.2) else x
def doneD (d : Nat) (x : Int32 × MS) : Prop := ¬ (x.1 = 0 ∧ d < nF x.2 26)
def runBeg (σ : MS) (u : Nat) : MS := sF (sA (sA (sA (sA (sA (sA (sF σ 0 0) 13 u 1) 15 u 0) 16 u (-1)) 17 u (-1)) 18 u 0) 19 u 0) 26 0
def runEnd (u : Nat) (x : Int32 × MS) : Int32 × MS :=
  (if x.1 = 0 then 1 else if x.1 = 99 then 1 else 2,
   sA (if x.1 = 5 then sA x.2 16 u (x.2.1 7 (nA x.2 22 (nF x.2 26 - 1))) else if x.1 = 0 then sA x.2 16 u (-1) else x.2) 15 u (if x.1 = 99 then 0 else x.1))
/-- the whole of run, where it comes to its end within n turns -/
def S_run (n : Nat) (σ : MS) (u p : Int32) : Int32 × MS :=
  if 1 ≤ u ∧ u ≤ σ.2 2 then
    if 1 ≤ p ∧ p ≤ σ.2 1 then
      if σ.1 12 u.toNatClampNeg = 0 then
        if nA σ 14 (13 * u.toNatClampNeg + p.toNatClampNeg) = 0 then (-5, sF σ 0 0)
        else runEnd u.toNatClampNeg (itD u.toNatClampNeg 0 n (S_enter (runBeg σ u.toNatClampNeg) (nA σ 14 (13 * u.toNatClampNeg + p.toNatClampNeg))))
      else (-5, sF σ 0 0)
    else (-2, sF σ 0 0)
  else (-2, sF σ 0 0)
theorem ok_a {z : Nat} {x : Int32} (hz : z ≤ 100) (h : 0 ≤ x ∧ x ≤ nI z - 1) : ∃ a : Nat, x = nI a ∧ a < z := by
  have h0 : ¬ x < 0 := Int32.not_lt.mpr h.1
  obtain ⟨a, ha, rfl⟩ := nI_of h0
  refine ⟨a, rfl, ?_⟩
  have h2 := Int32.le_iff_toInt_le.mp h.2
  rw [nI_toInt ha, show (1 : Int32) = nI 1 from rfl, pk_sub_toInt (by omega) (by decide)] at h2
  omega
theorem ok_hi {x : Int32} {lo hi : Nat} (hh : hi < 2 ^ 31) (hl : lo < 2 ^ 31) (h : nI lo ≤ x ∧ x ≤ nI hi) : ∃ a : Nat, x = nI a ∧ lo ≤ a ∧ a ≤ hi := by
  obtain ⟨j, h1, h2, rfl⟩ := in_nI hh h hl
  exact ⟨j, rfl, h1, h2⟩
theorem bI_nz {c : Prop} [Decidable c] (h : ¬ bI c = 0) : c := Decidable.of_not_not (fun h9 => h (bI_z.mpr h9))
/-- what a row that was taken says of a and b -/
def rowV (z : Nat) (o a b : Int32) : Prop := opOk o ∧
  ((o = 0 ∨ o = 13 ∨ o = 8 ∨ (0 < o ∧ o < 8)) → ∃ n : Nat, a = nI n ∧ n < z) ∧ ((0 < o ∧ o < 8) → ∃ n : Nat, b = nI n ∧ n < z) ∧ ((o = 8 ∨ o = 9) → ∃ n : Nat, b = nI n ∧ 1 ≤ n ∧ n ≤ 61) ∧ (o = 10 → ∃ n : Nat, a = nI n ∧ 1 ≤ n ∧ n ≤ 12) ∧ ((o = 11 ∨ o = 12) → ∃ n : Nat, a = nI n ∧ n ≤ 127) ∧ ((o = 0 ∨ o = 13) → -128 ≤ b ∧ b ≤ 127)
theorem rowV_of {z : Nat} (hz : z ≤ 100) {o a b : Int32} (h : ¬ okB (nI z) o a b = 0) : rowV z o a b := by
  have lit : ∀ k : Int32, opOk k → o = k → opOk o := fun k hk e => e ▸ hk
  unfold okB at h
  split at h
  · next e =>
    subst e
    have := bI_nz h
    exact ⟨⟨by decide, by decide⟩, fun _ => ok_a hz this.1, fun h9 => absurd h9.1 (by decide), fun h9 => by rcases h9 with h9 | h9 <;> exact absurd h9 (by decide), fun h9 => absurd h9 (by decide), fun h9 => by rcases h9 with h9 | h9 <;> exact absurd h9 (by decide), fun _ => this.2⟩
  · split at h
    · next e =>
      subst e
      have := bI_nz h
      exact ⟨⟨by decide, by decide⟩, fun _ => ok_a hz this.1, fun h9 => absurd h9.2 (by decide), fun h9 => by rcases h9 with h9 | h9 <;> exact absurd h9 (by decide), fun h9 => absurd h9 (by decide), fun h9 => by rcases h9 with h9 | h9 <;> exact absurd h9 (by decide), fun _ => this.2⟩
    · split at h
      · next e =>
        subst e
        have := bI_nz h
        exact ⟨⟨by decide, by decide⟩, fun _ => ok_a hz this.1, fun h9 => absurd h9.2 (by decide), fun _ => ok_hi (lo := 1) (hi := 61) (by decide) (by decide) this.2, fun h9 => absurd h9 (by decide), fun h9 => by rcases h9 with h9 | h9 <;> exact absurd h9 (by decide), fun h9 => by rcases h9 with h9 | h9 <;> exact absurd h9 (by decide)⟩
      · split at h
        · next e =>
          subst e
          have := bI_nz h
          exact ⟨⟨by decide, by decide⟩, fun h9 => by rcases h9 with h9 | h9 | h9 | h9 <;> exact absurd h9 (by decide), fun h9 => absurd h9.2 (by decide), fun _ => ok_hi (lo := 1) (hi := 61) (by decide) (by decide) this, fun h9 => absurd h9 (by decide), fun h9 => by rcases h9 with h9 | h9 <;> exact absurd h9 (by decide), fun h9 => by rcases h9 with h9 | h9 <;> exact absurd h9 (by decide)⟩
        · split at h
          · next e =>
            subst e
            have := bI_nz h
            exact ⟨⟨by decide, by decide⟩, fun h9 => by rcases h9 with h9 | h9 | h9 | h9 <;> exact absurd h9 (by decide), fun h9 => absurd h9.2 (by decide), fun h9 => by rcases h9 with h9 | h9 <;> exact absurd h9 (by decide), fun _ => ok_hi (lo := 1) (hi := 12) (by decide) (by decide) this, fun h9 => by rcases h9 with h9 | h9 <;> exact absurd h9 (by decide), fun h9 => by rcases h9 with h9 | h9 <;> exact absurd h9 (by decide)⟩
          · split at h
            · next e =>
              subst e
              have := bI_nz h
              obtain ⟨n, h1, -, h2⟩ := ok_hi (lo := 0) (hi := 127) (by decide) (by decide) this
              exact ⟨⟨by decide, by decide⟩, fun h9 => by rcases h9 with h9 | h9 | h9 | h9 <;> exact absurd h9 (by decide), fun h9 => absurd h9.2 (by decide), fun h9 => by rcases h9 with h9 | h9 <;> exact absurd h9 (by decide), fun h9 => absurd h9 (by decide), fun _ => ⟨n, h1, h2⟩, fun h9 => by rcases h9 with h9 | h9 <;> exact absurd h9 (by decide)⟩
            · split at h
              · next e =>
                subst e
                have := bI_nz h
                obtain ⟨n, h1, -, h2⟩ := ok_hi (lo := 0) (hi := 127) (by decide) (by decide) this
                exact ⟨⟨by decide, by decide⟩, fun h9 => by rcases h9 with h9 | h9 | h9 | h9 <;> exact absurd h9 (by decide), fun h9 => absurd h9.2 (by decide), fun h9 => by rcases h9 with h9 | h9 <;> exact absurd h9 (by decide), fun h9 => absurd h9 (by decide), fun _ => ⟨n, h1, h2⟩, fun h9 => by rcases h9 with h9 | h9 <;> exact absurd h9 (by decide)⟩
              · next n0 n1 n2 n3 n4 n5 n6 =>
                split at h
                · next e =>
                  have := bI_nz h
                  have h1 := Int32.lt_iff_toInt_lt.mp e.1
                  have h2 := Int32.lt_iff_toInt_lt.mp e.2
                  have e0 : (0 : Int32).toInt = 0 := rfl
                  have e8 : (8 : Int32).toInt = 8 := rfl
                  exact ⟨⟨by omega, by omega⟩, fun _ => ok_a hz this.1, fun _ => ok_a hz this.2, fun h9 => by rcases h9 with h9 | h9; exact absurd h9 n2; exact absurd h9 n3, fun h9 => absurd h9 n4, fun h9 => by rcases h9 with h9 | h9; exact absurd h9 n5; exact absurd h9 n6, fun h9 => by rcases h9 with h9 | h9; exact absurd h9 n0; exact absurd h9 n1⟩
                · exact absurd rfl h
