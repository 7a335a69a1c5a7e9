/-! a class's bytes speak of its own rows alone -/
theorem sumR_c {g g' : Nat → Nat} {f : Nat} : ∀ k : Nat, (∀ r, f ≤ r → r < f + k → g r = g' r) → sumR g f k = sumR g' f k
  | 0, _ => rfl
  | k + 1, h => by
    rw [sumR, sumR, sumR_c k (fun r h1 h2 => h r h1 (by omega)), h (f + k) (by omega) (by omega)]
theorem catR_c {g g' : Nat → List Int32} {f : Nat} : ∀ k : Nat, (∀ r, f ≤ r → r < f + k → g r = g' r) → catR g f k = catR g' f k
  | 0, _ => rfl
  | k + 1, h => by
    rw [catR, catR, catR_c k (fun r h1 h2 => h r h1 (by omega)), h (f + k) (by omega) (by omega)]
section ST
variable {pr pr' : PR} {f l : Nat}
theorem bg_c (h : ∀ r, f ≤ r → r ≤ l → pr r = pr' r) {row : Nat} (hr : row ≤ l + 1) : bg pr f l row = bg pr' f l row := by
  unfold bg
  rw [sumR_c (g := lnR pr f l) (g' := lnR pr' f l) (row - f) (fun r h1 h2 => by unfold lnR; rw [h r h1 (by omega)])]
theorem bGo_c (h : ∀ r, f ≤ r → r ≤ l → pr r = pr' r) (hl : l ≤ 60) (b : Int32) (fr : Nat) : bGo pr f l b fr = bGo pr' f l b fr := by
  unfold bGo
  by_cases hin : nI f ≤ b ∧ b ≤ nI l
  · rw [if_pos hin, if_pos hin]
    by_cases hfl : f ≤ 61
    · obtain ⟨b1, hb1, hb2, rfl⟩ := in_nI (f := f) (by omega) hin (by omega)
      rw [nI_clamp (by omega), bg_c h (by omega)]
    · by_cases hb : b.toNatClampNeg ≤ l + 1
      · rw [bg_c h hb]
      · have h0 : ∀ x : Int32, x.toNatClampNeg = x.toInt.toNat := fun _ => rfl
        have h2 := Int32.le_iff_toInt_le.mp hin.2
        rw [nI_toInt (by omega)] at h2
        rw [h0] at hb
        omega
  · rw [if_neg hin, if_neg hin]
theorem bRow_c (h : ∀ r, f ≤ r → r ≤ l → pr r = pr' r) (hl : l ≤ 60) {r : Nat} (h1 : f ≤ r) (h2 : r ≤ l) : bRow pr f l r = bRow pr' f l r := by
  unfold bRow
  rw [h r h1 h2, bGo_c h hl, bGo_c h hl, bg_c h (show r ≤ l + 1 by omega)]
end ST
theorem bMember_c {pr pr' : PR} {k l : Nat} (hl : l ≤ 60) (hk : 10 * k + 1 ≤ l) (h : ∀ r, 10 * k + 1 ≤ r → r ≤ l → pr r = pr' r) : bMember pr k l = bMember pr' k l := by
  unfold bMember bEnd
  rw [bg_c h (Nat.le_refl _), catR_c (g := bRow pr (10 * k + 1) l) (g' := bRow pr' (10 * k + 1) l) _ (fun r h1 h2 => bRow_c h hl h1 (by omega)),
    catR_c (g := fun r => b4 (nI (bg pr (10 * k + 1) l r - 1))) (g' := fun r => b4 (nI (bg pr' (10 * k + 1) l r - 1))) _ (fun r h1 h2 => by show b4 (nI (bg pr (10 * k + 1) l r - 1)) = _; rw [bg_c h (by omega)])]
theorem bFile_c {pr pr' : PR} {n : Nat} (hn : n ≤ 60) (h : ∀ r, 1 ≤ r → r ≤ n → pr r = pr' r) (p : Nat) (sf z : Int32) : bFile p sf z pr n = bFile p sf z pr' n := by
  unfold bFile bMems
  rw [catR_c (g := fun k => bMember pr k (if n < 10 * k + 10 then n else 10 * k + 10)) (g' := fun k => bMember pr' k (if n < 10 * k + 10 then n else 10 * k + 10)) _ (fun k h1 h2 => ?_)]
  have hin := lastOf_in (n := n) (k := k) (by omega)
  exact bMember_c (l := lastOf n k) (by omega) hin.1 (fun r h3 h4 => h r (by omega) (by omega))
/-- of one class -/
theorem fB_c {σ σ' : MS} (hI : Inv σ) {c : Nat} (hc1 : 1 ≤ c) (hc2 : c ≤ nF σ 3) (h7 : nA σ' 7 c = nA σ 7 c) (h8 : nA σ' 8 c = nA σ 8 c) (h5 : σ'.1 5 (nA σ 7 c) = σ.1 5 (nA σ 7 c)) (h0 : σ'.1 0 (nA σ 7 c) = σ.1 0 (nA σ 7 c)) (hr : ∀ r, 1 ≤ r → r ≤ nA σ 8 c → prO σ' (nA σ 7 c) r = prO σ (nA σ 7 c) r) : fB σ' c = fB σ c := by
  unfold fB
  have hnc := hI.nc.2
  rw [h7, h8, h5, h0]
  exact bFile_c (hI.cr (c := c) (by omega)).2 hr _ _ _
