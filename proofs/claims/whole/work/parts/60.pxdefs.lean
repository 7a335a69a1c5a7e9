/-! the class's pool against the reference's state -/
/-- what the pool holds beyond σ: failure, ended by, marks, started, working bytes, whether the file was made, its bytes, the file maker -/
abbrev GX : Type := (Nat → Int32) × (Nat → Int32) × (Nat → Nat → Int32) × (Nat → Int32) × (Nat → Nat → Int32) × (Nat → Bool) × (Nat → Nat → Int32) × FS
def gfl (g : GX) : Nat → Int32 := g.1
def geb (g : GX) : Nat → Int32 := g.2.1
def gmk (g : GX) : Nat → Nat → Int32 := g.2.2.1
def gsd (g : GX) : Nat → Int32 := g.2.2.2.1
def gW (g : GX) : Nat → Nat → Int32 := g.2.2.2.2.1
def gfa (g : GX) : Nat → Bool := g.2.2.2.2.2.1
def gfb (g : GX) : Nat → Nat → Int32 := g.2.2.2.2.2.2.1
def gs (g : GX) : FS := g.2.2.2.2.2.2.2
abbrev AD : Type := Nat → Nat → Nat → Nat
abbrev TG : Type := Nat → Nat × Nat × Nat
def At (L : List Nat) (f : Nat → va_E) (ad : AD) (κ : TG) (k i j : Nat) (e : va_E) : Prop := ad k i j ∈ L ∧ κ (ad k i j) = (k, i, j) ∧ f (ad k i j) = e
def gpr (ad : AD) (σ : MS) : Nat → Option Nat := fun i => if i < nF σ 1 then some (ad 9 (i + 1) 0) else none
def gcl (ad : AD) (σ : MS) : Nat → Option Nat := fun i => if i < nF σ 3 then some (ad 15 (i + 1) 0) else none
def gun (ad : AD) (σ : MS) : Nat → Option Nat := fun i => if i < nF σ 2 then some (ad 12 (i + 1) 0) else none
def grw (ad : AD) (σ : MS) (p : Nat) : Nat → Option Nat := fun i => if i < nA σ 1 p then some (ad 11 p (i + 1)) else none
def gla (ad : AD) (σ : MS) (u : Nat) : Nat → Option Nat := fun i => if i < 12 then (if nA σ 14 (13 * u + (i + 1)) = 0 then none else some (ad 15 (nA σ 14 (13 * u + (i + 1))) 0)) else none
def c0 (K : Nat → ClassId) (ad : AD) (g : GX) (σ : MS) : va_E := .inr (9, [.ref (ad 1 0 0), .ref (ad 2 0 0), .ref (ad 3 0 0), .ref (ad 8 0 0), .int (nI (nF σ 2))])
def c1 (K : Nat → ClassId) (ad : AD) (g : GX) (σ : MS) : va_E := .inr (8, [.ref (ad 6 0 0), .ref (ad 7 0 0), .int (nI (nF σ 1)), .int (nI (nF σ 3))])
def c2 (K : Nat → ClassId) (ad : AD) (g : GX) (σ : MS) : va_E := .inr (3, [.ref (ad 1 0 0)])
def c3 (K : Nat → ClassId) (ad : AD) (g : GX) (σ : MS) : va_E := .inr (2, fF (ad 4 0 0) (ad 5 0 0) (gs g))
def c4 (K : Nat → ClassId) (ad : AD) (g : GX) (σ : MS) : va_E := .inl (K 0, 2048, .inl (gs g).2.1)
def c5 (K : Nat → ClassId) (ad : AD) (g : GX) (σ : MS) : va_E := .inl (K 1, 11, .inl (gs g).2.2.2.2)
def c6 (K : Nat → ClassId) (ad : AD) (g : GX) (σ : MS) : va_E := .inl (K 4, 12, rE (gpr ad σ))
def c7 (K : Nat → ClassId) (ad : AD) (g : GX) (σ : MS) : va_E := .inl (K 3, 40, rE (gcl ad σ))
def c8 (K : Nat → ClassId) (ad : AD) (g : GX) (σ : MS) : va_E := .inl (K 6, 8, rE (gun ad σ))
def c9 (K : Nat → ClassId) (ad : AD) (g : GX) (σ : MS) (p : Nat) : va_E := .inr (5, [.int (nI p), .int (nI (nA σ 0 p)), .int (σ.1 5 p), .ref (ad 10 p 0), .int (nI (nA σ 1 p))])
def c10 (K : Nat → ClassId) (ad : AD) (g : GX) (σ : MS) (p : Nat) : va_E := .inl (K 5, 60, rE (grw ad σ p))
def c11 (K : Nat → ClassId) (ad : AD) (g : GX) (σ : MS) (p r : Nat) : va_E := .inr (6, [.int (σ.1 2 (60 * p + r)), .int (σ.1 3 (60 * p + r)), .int (σ.1 4 (60 * p + r))])
def c12 (K : Nat → ClassId) (ad : AD) (g : GX) (σ : MS) (u : Nat) : va_E := .inr (7, [.ref (ad 13 u 0), .ref (ad 14 u 0), .int (σ.1 12 u), .int (σ.1 13 u), .int (gfl g u), .int (geb g u), .int (σ.1 17 u), .int (σ.1 18 u), .int (nI (nA σ 19 u))])
def c13 (K : Nat → ClassId) (ad : AD) (g : GX) (σ : MS) (u : Nat) : va_E := .inl (K 3, 12, rE (gla ad σ u))
def c14 (K : Nat → ClassId) (ad : AD) (g : GX) (σ : MS) (u : Nat) : va_E := .inl (K 0, 100, .inl (gmk g u))
def c15 (K : Nat → ClassId) (ad : AD) (g : GX) (σ : MS) (c : Nat) : va_E := .inr (4, [.int (nI c), .ref (ad 12 (nA σ 6 c) 0), .ref (ad 9 (nA σ 7 c) 0), .int (nI (nA σ 8 c)), .ref (ad 16 c 0), va_rf (if gfa g c = true then some (ad 17 c 0) else none), .int (gsd g c), .int (σ.1 11 c), .int (σ.1 9 c)])
def c16 (K : Nat → ClassId) (ad : AD) (g : GX) (σ : MS) (c : Nat) : va_E := .inl (K 0, nA σ 0 (nA σ 7 c), .inl (gW g c))
def c17 (K : Nat → ClassId) (ad : AD) (g : GX) (σ : MS) (c : Nat) : va_E := .inl (K 0, (fB σ c).length, .inl (gfb g c))
def PX (K : Nat → ClassId) (L : List Nat) (f : Nat → va_E) (ad : AD) (κ : TG) (g : GX) (σ : MS) : Prop :=
  (At L f ad κ 0 0 0 (c0 K ad g σ)) ∧
  (At L f ad κ 1 0 0 (c1 K ad g σ)) ∧
  (At L f ad κ 2 0 0 (c2 K ad g σ)) ∧
  (At L f ad κ 3 0 0 (c3 K ad g σ)) ∧
  (At L f ad κ 4 0 0 (c4 K ad g σ)) ∧
  (At L f ad κ 5 0 0 (c5 K ad g σ)) ∧
  (At L f ad κ 6 0 0 (c6 K ad g σ)) ∧
  (At L f ad κ 7 0 0 (c7 K ad g σ)) ∧
  (At L f ad κ 8 0 0 (c8 K ad g σ)) ∧
  (∀ p, 1 ≤ p → p ≤ nF σ 1 → At L f ad κ 9 p 0 (c9 K ad g σ p)) ∧
  (∀ p, 1 ≤ p → p ≤ nF σ 1 → At L f ad κ 10 p 0 (c10 K ad g σ p)) ∧
  (∀ p, 1 ≤ p → p ≤ nF σ 1 → ∀ r, 1 ≤ r → r ≤ nA σ 1 p → At L f ad κ 11 p r (c11 K ad g σ p r)) ∧
  (∀ u, 1 ≤ u → u ≤ nF σ 2 → At L f ad κ 12 u 0 (c12 K ad g σ u)) ∧
  (∀ u, 1 ≤ u → u ≤ nF σ 2 → At L f ad κ 13 u 0 (c13 K ad g σ u)) ∧
  (∀ u, 1 ≤ u → u ≤ nF σ 2 → At L f ad κ 14 u 0 (c14 K ad g σ u)) ∧
  (∀ c, 1 ≤ c → c ≤ nF σ 3 → At L f ad κ 15 c 0 (c15 K ad g σ c)) ∧
  (∀ c, 1 ≤ c → c ≤ nF σ 3 → At L f ad κ 16 c 0 (c16 K ad g σ c)) ∧
  (∀ c, 1 ≤ c → c ≤ nF σ 3 → gfa g c = true → At L f ad κ 17 c 0 (c17 K ad g σ c))
section PXS
variable {K : Nat → ClassId} {L : List Nat} {f : Nat → va_E} {ad : AD} {κ : TG} {g : GX} {σ : MS}
theorem px0 (h : PX K L f ad κ g σ) : At L f ad κ 0 0 0 (c0 K ad g σ) := h.1
theorem px1 (h : PX K L f ad κ g σ) : At L f ad κ 1 0 0 (c1 K ad g σ) := h.2.1
theorem px2 (h : PX K L f ad κ g σ) : At L f ad κ 2 0 0 (c2 K ad g σ) := h.2.2.1
theorem px3 (h : PX K L f ad κ g σ) : At L f ad κ 3 0 0 (c3 K ad g σ) := h.2.2.2.1
theorem px4 (h : PX K L f ad κ g σ) : At L f ad κ 4 0 0 (c4 K ad g σ) := h.2.2.2.2.1
theorem px5 (h : PX K L f ad κ g σ) : At L f ad κ 5 0 0 (c5 K ad g σ) := h.2.2.2.2.2.1
theorem px6 (h : PX K L f ad κ g σ) : At L f ad κ 6 0 0 (c6 K ad g σ) := h.2.2.2.2.2.2.1
theorem px7 (h : PX K L f ad κ g σ) : At L f ad κ 7 0 0 (c7 K ad g σ) := h.2.2.2.2.2.2.2.1
theorem px8 (h : PX K L f ad κ g σ) : At L f ad κ 8 0 0 (c8 K ad g σ) := h.2.2.2.2.2.2.2.2.1
theorem px9 (h : PX K L f ad κ g σ) : ∀ p, 1 ≤ p → p ≤ nF σ 1 → At L f ad κ 9 p 0 (c9 K ad g σ p) := h.2.2.2.2.2.2.2.2.2.1
theorem px10 (h : PX K L f ad κ g σ) : ∀ p, 1 ≤ p → p ≤ nF σ 1 → At L f ad κ 10 p 0 (c10 K ad g σ p) := h.2.2.2.2.2.2.2.2.2.2.1
theorem px11 (h : PX K L f ad κ g σ) : ∀ p, 1 ≤ p → p ≤ nF σ 1 → ∀ r, 1 ≤ r → r ≤ nA σ 1 p → At L f ad κ 11 p r (c11 K ad g σ p r) := h.2.2.2.2.2.2.2.2.2.2.2.1
theorem px12 (h : PX K L f ad κ g σ) : ∀ u, 1 ≤ u → u ≤ nF σ 2 → At L f ad κ 12 u 0 (c12 K ad g σ u) := h.2.2.2.2.2.2.2.2.2.2.2.2.1
theorem px13 (h : PX K L f ad κ g σ) : ∀ u, 1 ≤ u → u ≤ nF σ 2 → At L f ad κ 13 u 0 (c13 K ad g σ u) := h.2.2.2.2.2.2.2.2.2.2.2.2.2.1
theorem px14 (h : PX K L f ad κ g σ) : ∀ u, 1 ≤ u → u ≤ nF σ 2 → At L f ad κ 14 u 0 (c14 K ad g σ u) := h.2.2.2.2.2.2.2.2.2.2.2.2.2.2.1
theorem px15 (h : PX K L f ad κ g σ) : ∀ c, 1 ≤ c → c ≤ nF σ 3 → At L f ad κ 15 c 0 (c15 K ad g σ c) := h.2.2.2.2.2.2.2.2.2.2.2.2.2.2.2.1
theorem px16 (h : PX K L f ad κ g σ) : ∀ c, 1 ≤ c → c ≤ nF σ 3 → At L f ad κ 16 c 0 (c16 K ad g σ c) := h.2.2.2.2.2.2.2.2.2.2.2.2.2.2.2.2.1
theorem px17 (h : PX K L f ad κ g σ) : ∀ c, 1 ≤ c → c ≤ nF σ 3 → gfa g c = true → At L f ad κ 17 c 0 (c17 K ad g σ c) := h.2.2.2.2.2.2.2.2.2.2.2.2.2.2.2.2.2
theorem tne {k1 k2 i1 i2 j1 j2 : Nat} (h : k1 ≠ k2) : ((k1, i1, j1) : Nat × Nat × Nat) ≠ (k2, i2, j2) := fun e => h (congrArg (fun z => z.1) e)
theorem tni {k1 k2 i1 i2 j1 j2 : Nat} (h : i1 ≠ i2) : ((k1, i1, j1) : Nat × Nat × Nat) ≠ (k2, i2, j2) := fun e => h (congrArg (fun z => z.2.1) e)
theorem tnj {k1 k2 i1 i2 j1 j2 : Nat} (h : j1 ≠ j2) : ((k1, i1, j1) : Nat × Nat × Nat) ≠ (k2, i2, j2) := fun e => h (congrArg (fun z => z.2.2) e)
theorem At.ne {k i j k2 i2 j2 : Nat} {e e2 : va_E} (h : At L f ad κ k i j e) (h2 : At L f ad κ k2 i2 j2 e2) (hn : ((k, i, j) : Nat × Nat × Nat) ≠ (k2, i2, j2)) : ad k i j ≠ ad k2 i2 j2 := fun e9 => hn (by rw [← h.2.1, e9]; exact h2.2.1)
/-- a cell is set that is another -/
theorem At.up {k i j k2 i2 j2 : Nat} {e e2 : va_E} (h : At L f ad κ k i j e) (ht : κ (ad k2 i2 j2) = (k2, i2, j2)) (hn : ((k, i, j) : Nat × Nat × Nat) ≠ (k2, i2, j2)) : At L (va_up f (ad k2 i2 j2) e2) ad κ k i j e :=
  ⟨h.1, h.2.1, (va_up_ne _ _ (fun e9 => hn (by rw [← h.2.1, e9]; exact ht))).trans h.2.2⟩
theorem At.set {k i j : Nat} {e e2 : va_E} (h : At L f ad κ k i j e) : At L (va_up f (ad k i j) e2) ad κ k i j e2 := ⟨h.1, h.2.1, va_up_self _ _ _⟩
def adS (ad : AD) (k i j q : Nat) : AD := fun k' i' j' => if k' = k ∧ i' = i ∧ j' = j then q else ad k' i' j'
theorem adS_s (ad : AD) (k i j q : Nat) : adS ad k i j q k i j = q := if_pos ⟨rfl, rfl, rfl⟩
theorem adS_i {ad : AD} {k i j q k' i' j' : Nat} (h : i' ≠ i) : adS ad k i j q k' i' j' = ad k' i' j' := if_neg (fun h9 => h h9.2.1)
theorem adS_j {ad : AD} {k i j q k' i' j' : Nat} (h : j' ≠ j) : adS ad k i j q k' i' j' = ad k' i' j' := if_neg (fun h9 => h h9.2.2)
theorem adS_t {ad : AD} {k i j q k' i' j' : Nat} (h : ((k', i', j') : Nat × Nat × Nat) ≠ (k, i, j)) : adS ad k i j q k' i' j' = ad k' i' j' := if_neg (fun h9 => h (by rw [h9.1, h9.2.1, h9.2.2]))
/-- a new cell: of the others -/
theorem At.old {k i j k2 i2 j2 q : Nat} {e e2 : va_E} (h : At L f ad κ k i j e) (hq : q ∉ L) (hn : ((k, i, j) : Nat × Nat × Nat) ≠ (k2, i2, j2)) : At (L ++ [q]) (va_up f q e2) (adS ad k2 i2 j2 q) (va_up κ q (k2, i2, j2)) k i j e := by
  have e1 : adS ad k2 i2 j2 q k i j = ad k i j := adS_t hn
  have e3 : ad k i j ≠ q := ne_new h.1 hq
  unfold At
  rw [e1]
  exact ⟨in_app h.1, (va_up_ne _ _ e3).trans h.2.1, (va_up_ne _ _ e3).trans h.2.2⟩
theorem At.new {k i j q : Nat} {e : va_E} : At (L ++ [q]) (va_up f q e) (adS ad k i j q) (va_up κ q (k, i, j)) k i j e := by
  unfold At
  rw [adS_s]
  exact ⟨in_new, va_up_self _ _ _, va_up_self _ _ _⟩
theorem At.eq {k i j : Nat} {e e2 : va_E} (h : At L f ad κ k i j e) (he : e = e2) : At L f ad κ k i j e2 := he ▸ h
end PXS
