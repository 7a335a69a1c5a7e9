/-! the reference's writing: bytes put at the end of its file -/
def wr (σ : MS) (b : Int32) : MS := sF (sA σ 24 (σ.2 29).toNatClampNeg (b &&& 255)) 29 (σ.2 29 + 1)
def ap (σ : MS) (bs : List Int32) : MS := bs.foldl wr σ
theorem ap_ap (σ : MS) (a b : List Int32) : ap (ap σ a) b = ap σ (a ++ b) := (List.foldl_append).symm
def Lo (σ : MS) (k : Nat) : Prop := ∃ n : Nat, σ.2 29 = nI n ∧ n + k ≤ 3000
theorem Lo.le {σ : MS} {k k2 : Nat} (h : Lo σ k) (hk : k2 ≤ k) : Lo σ k2 := by
  obtain ⟨n, h1, h2⟩ := h
  exact ⟨n, h1, by omega⟩
theorem Lo.one {σ : MS} {k : Nat} {b : Int32} (h : Lo σ (k + 1)) : Lo (wr σ b) k := by
  obtain ⟨n, h1, h2⟩ := h
  refine ⟨n + 1, ?_, by omega⟩
  show va_up σ.2 29 (σ.2 29 + 1) 29 = _
  rw [va_up_self, h1, nI_1]
theorem Lo.app {σ : MS} {k k2 : Nat} {bs : List Int32} (h : Lo σ k) (hk : bs.length + k2 ≤ k) : Lo (ap σ bs) k2 := by
  induction bs generalizing σ k with
  | nil => exact h.le (by simpa using hk)
  | cons b bs ih =>
    have hk2 : bs.length + 1 + k2 ≤ k := hk
    exact ih (σ := wr σ b) (k := k - 1) (Lo.one (h.le (by omega : k - 1 + 1 ≤ k))) (by omega)
theorem Lo.in {σ : MS} {k : Nat} (h : Lo σ k) (hk : 1 ≤ k) : vp_in (σ.2 29) (mN 24) := by
  obtain ⟨n, h1, h2⟩ := h
  rw [h1]
  exact vp_in_nI (show n < 3000 by omega) (by decide)
/-- reading what was written -/
theorem ap_len {σ : MS} {n : Nat} (h : σ.2 29 = nI n) (bs : List Int32) : (ap σ bs).2 29 = nI (n + bs.length) := by
  induction bs generalizing σ n with
  | nil => exact h
  | cons b bs ih =>
    have := ih (σ := wr σ b) (n := n + 1) (by show va_up σ.2 29 (σ.2 29 + 1) 29 = _; rw [va_up_self, h, nI_1])
    rw [List.length_cons, show n + (bs.length + 1) = n + 1 + bs.length by omega]; exact this
theorem wr_fld (σ : MS) (b : Int32) {k : Nat} (hk : k ≠ 29) : (wr σ b).2 k = σ.2 k := va_up_ne _ _ hk
theorem ap_fld (σ : MS) (bs : List Int32) {k : Nat} (hk : k ≠ 29) : (ap σ bs).2 k = σ.2 k := by
  induction bs generalizing σ with
  | nil => rfl
  | cons b bs ih => exact (ih (wr σ b)).trans (wr_fld σ b hk)
theorem wr_arr (σ : MS) (b : Int32) {j : Nat} (hj : j ≠ 24) : (wr σ b).1 j = σ.1 j := va_up_ne _ _ hj
theorem ap_arr (σ : MS) (bs : List Int32) {j : Nat} (hj : j ≠ 24) : (ap σ bs).1 j = σ.1 j := by
  induction bs generalizing σ with
  | nil => rfl
  | cons b bs ih => exact (ih (wr σ b)).trans (wr_arr σ b hj)
theorem ap_old {σ : MS} {n : Nat} (h : σ.2 29 = nI n) (bs : List Int32) (hb : n + bs.length < 2 ^ 31) {i : Nat} (hi : i < n) : (ap σ bs).1 24 i = σ.1 24 i := by
  induction bs generalizing σ n with
  | nil => rfl
  | cons b bs ih =>
    have hb2 : n + (bs.length + 1) < 2 ^ 31 := hb
    have := ih (σ := wr σ b) (n := n + 1) (by show va_up σ.2 29 (σ.2 29 + 1) 29 = _; rw [va_up_self, h, nI_1]) (by omega) (by omega)
    refine this.trans ?_
    show va_up σ.1 24 (upd (σ.1 24) (σ.2 29).toNatClampNeg (b &&& 255)) 24 i = _
    rw [va_up_self, h, nI_clamp (by omega)]
    exact pk_un (by omega)
theorem ap_new {σ : MS} {n : Nat} (h : σ.2 29 = nI n) (bs : List Int32) (hb : n + bs.length < 2 ^ 31) {i : Nat} (hi : i < bs.length) : (ap σ bs).1 24 (n + i) = bs.getD i 0 &&& 255 := by
  induction bs generalizing σ n i with
  | nil => exact absurd hi (Nat.not_lt_zero _)
  | cons b bs ih =>
    have hb2 : n + (bs.length + 1) < 2 ^ 31 := hb
    have h1 : (wr σ b).2 29 = nI (n + 1) := by show va_up σ.2 29 (σ.2 29 + 1) 29 = _; rw [va_up_self, h, nI_1]
    cases i with
    | zero =>
      refine (ap_old (σ := wr σ b) (n := n + 1) h1 bs (by omega) (by omega)).trans ?_
      show va_up σ.1 24 (upd (σ.1 24) (σ.2 29).toNatClampNeg (b &&& 255)) 24 n = _
      rw [va_up_self, h, nI_clamp (by omega)]
      exact pk_us
    | succ i =>
      have := ih (σ := wr σ b) (n := n + 1) (i := i) h1 (by omega) (by simpa using hi)
      rw [show n + (i + 1) = n + 1 + i by omega]
      exact this
theorem sw_split (x : Int32) (lo hi : Int) : (x.toInt < lo ∨ hi < x.toInt) ∨ ∃ k : Int, x.toInt = k ∧ lo ≤ k ∧ k ≤ hi := by
  by_cases h1 : x.toInt < lo
  · exact Or.inl (Or.inl h1)
  · by_cases h2 : hi < x.toInt
    · exact Or.inl (Or.inr h2)
    · exact Or.inr ⟨_, rfl, by omega, by omega⟩
theorem sw_val {x y : Int32} {k : Int} (h : x.toInt = k) (hy : y.toInt = k) : x = y := Int32.toInt_inj.mp (h.trans hy.symm)
