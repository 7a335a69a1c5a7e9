/-! what holds of the reference's state between calls -/
def Inv (σ : MS) : Prop := rg σ ∧ wkB σ ∧
  (∀ p, 1 ≤ p → p ≤ nF σ 1 → 1 ≤ nA σ 0 p ∧ isB (σ.1 5 p) ∧ ∀ r, 1 ≤ r → r ≤ nA σ 1 p → rowV (nA σ 0 p) (prO σ p r).1 (prO σ p r).2.1 (prO σ p r).2.2) ∧
  (∀ p, nF σ 1 < p → p ≤ 12 → σ.1 1 p = 0) ∧
  (∀ c, 1 ≤ c → c ≤ nF σ 3 → (1 ≤ nA σ 6 c ∧ nA σ 6 c ≤ nF σ 2) ∧ (1 ≤ nA σ 7 c ∧ nA σ 7 c ≤ nF σ 1) ∧ nA σ 8 c ≤ nA σ 1 (nA σ 7 c) ∧ (nA σ 14 (13 * nA σ 6 c + nA σ 7 c) = c ∨ σ.1 9 c = 1)) ∧
  (∀ c, c ≤ 40 → (c = 0 ∨ nF σ 3 < c) → σ.1 8 c = 0 ∧ σ.1 9 c = 0 ∧ σ.1 10 c = 0 ∧ σ.1 11 c = 0) ∧
  (∀ u p, 1 ≤ u → u ≤ 8 → 1 ≤ p → p ≤ 12 → nA σ 14 (13 * u + p) = 0 ∨ (nA σ 14 (13 * u + p) ≤ nF σ 3 ∧ nA σ 6 (nA σ 14 (13 * u + p)) = u ∧ nA σ 7 (nA σ 14 (13 * u + p)) = p)) ∧
  (∀ u, u ≤ 8 → nF σ 2 < u → σ.1 12 u = 0 ∧ σ.1 13 u = 0 ∧ σ.1 15 u = 0 ∧ σ.1 16 u = 0 ∧ σ.1 17 u = 0 ∧ σ.1 18 u = 0 ∧ σ.1 19 u = 0) ∧
  (∀ u, u ≤ 8 → isN (σ.1 18 u) 1000)
def Lk (g : GX) (σ : MS) (run : Nat) : Prop :=
  (∀ u, 1 ≤ u → u ≤ nF σ 2 → u ≠ run → gfl g u = σ.1 15 u ∧ geb g u = σ.1 16 u) ∧
  (∀ u, 1 ≤ u → u ≤ nF σ 2 → ∀ i, i < nA σ 19 u → gmk g u i = σ.1 21 (100 * u - 100 + i)) ∧
  (∀ c, 1 ≤ c → c ≤ nF σ 3 → nA σ 14 (13 * nA σ 6 c + nA σ 7 c) = c → gsd g c = σ.1 10 c ∧ (σ.1 10 c ≠ 0 → ∀ i, i < nA σ 0 (nA σ 7 c) → gW g c i = σ.1 20 (wk (nA σ 6 c) (nA σ 7 c) i))) ∧
  (∀ c, 1 ≤ c → c ≤ nF σ 3 → gfa g c = true → ∀ i, i < (fB σ c).length → gfb g c i = ((fB σ c).getD i 0).toInt8.toInt32)
def RX (K : Nat → ClassId) (L : List Nat) (f : Nat → va_E) (ad : AD) (κ : TG) (g : GX) (σ : MS) (run : Nat) : Prop := PX K L f ad κ g σ ∧ Lk g σ run ∧ Inv σ
def RW (K : Nat → ClassId) (ax : Nat) (σ : MS) (w : va_W) : Prop := ∃ (L : List Nat) (f : Nat → va_E) (ad : AD) (κ : TG) (g : GX), w = va_pl L f ∧ ad 0 0 0 = ax ∧ RX K L f ad κ g σ 0
theorem nF_isN {σ : MS} {k m : Nat} (h : isN (σ.2 k) m) (hm : m < 2 ^ 31) : σ.2 k = nI (nF σ k) ∧ nF σ k ≤ m := by
  obtain ⟨n, h1, h2⟩ := h
  have : nF σ k = n := nF_of h1 (by omega)
  rw [this]; exact ⟨h1, h2⟩
theorem nA_isN {σ : MS} {j i m : Nat} (h : isN (σ.1 j i) m) (hm : m < 2 ^ 31) : σ.1 j i = nI (nA σ j i) ∧ nA σ j i ≤ m := by
  obtain ⟨n, h1, h2⟩ := h
  have : nA σ j i = n := nA_of h1 (by omega)
  rw [this]; exact ⟨h1, h2⟩
section IN
variable {σ : MS}
theorem Inv.np (h : Inv σ) : σ.2 1 = nI (nF σ 1) ∧ nF σ 1 ≤ 12 := nF_isN h.1.1 (by decide)
theorem Inv.nu (h : Inv σ) : σ.2 2 = nI (nF σ 2) ∧ nF σ 2 ≤ 8 := nF_isN h.1.2.1 (by decide)
theorem Inv.nc (h : Inv σ) : σ.2 3 = nI (nF σ 3) ∧ nF σ 3 ≤ 40 := nF_isN h.1.2.2.1 (by decide)
theorem Inv.sz (h : Inv σ) {p : Nat} (hp : p ≤ 12) : σ.1 0 p = nI (nA σ 0 p) ∧ nA σ 0 p ≤ 100 := nA_isN (h.1.2.2.2.1 p hp) (by decide)
theorem Inv.rc (h : Inv σ) {p : Nat} (hp : p ≤ 12) : σ.1 1 p = nI (nA σ 1 p) ∧ nA σ 1 p ≤ 60 := nA_isN (h.1.2.2.2.2.1 p hp) (by decide)
theorem Inv.cu (h : Inv σ) {c : Nat} (hc : c ≤ 40) : σ.1 6 c = nI (nA σ 6 c) ∧ nA σ 6 c ≤ 8 := nA_isN (h.1.2.2.2.2.2.1 c hc).1 (by decide)
theorem Inv.cp (h : Inv σ) {c : Nat} (hc : c ≤ 40) : σ.1 7 c = nI (nA σ 7 c) ∧ nA σ 7 c ≤ 12 := nA_isN (h.1.2.2.2.2.2.1 c hc).2.1 (by decide)
theorem Inv.cr (h : Inv σ) {c : Nat} (hc : c ≤ 40) : σ.1 8 c = nI (nA σ 8 c) ∧ nA σ 8 c ≤ 60 := nA_isN (h.1.2.2.2.2.2.1 c hc).2.2 (by decide)
theorem Inv.la (h : Inv σ) {i : Nat} (hi : i < 130) : σ.1 14 i = nI (nA σ 14 i) ∧ nA σ 14 i ≤ 40 := nA_isN (h.1.2.2.2.2.2.2.1 i hi) (by decide)
theorem Inv.mk (h : Inv σ) {u : Nat} (hu : u ≤ 8) : σ.1 19 u = nI (nA σ 19 u) ∧ nA σ 19 u ≤ 100 := nA_isN (h.1.2.2.2.2.2.2.2 u hu) (by decide)
theorem Inv.st (h : Inv σ) {u : Nat} (hu : u ≤ 8) : σ.1 18 u = nI (nA σ 18 u) ∧ nA σ 18 u ≤ 1000 := nA_isN (h.2.2.2.2.2.2.2.2 u hu) (by decide)
theorem Inv.prog (h : Inv σ) : ∀ p, 1 ≤ p → p ≤ nF σ 1 → 1 ≤ nA σ 0 p ∧ isB (σ.1 5 p) ∧ ∀ r, 1 ≤ r → r ≤ nA σ 1 p → rowV (nA σ 0 p) (prO σ p r).1 (prO σ p r).2.1 (prO σ p r).2.2 := h.2.2.1
theorem Inv.cls (h : Inv σ) : ∀ c, 1 ≤ c → c ≤ nF σ 3 → (1 ≤ nA σ 6 c ∧ nA σ 6 c ≤ nF σ 2) ∧ (1 ≤ nA σ 7 c ∧ nA σ 7 c ≤ nF σ 1) ∧ nA σ 8 c ≤ nA σ 1 (nA σ 7 c) ∧ (nA σ 14 (13 * nA σ 6 c + nA σ 7 c) = c ∨ σ.1 9 c = 1) := h.2.2.2.2.1
theorem Inv.cz (h : Inv σ) : ∀ c, c ≤ 40 → (c = 0 ∨ nF σ 3 < c) → σ.1 8 c = 0 ∧ σ.1 9 c = 0 ∧ σ.1 10 c = 0 ∧ σ.1 11 c = 0 := h.2.2.2.2.2.1
theorem Inv.lat (h : Inv σ) : ∀ u p, 1 ≤ u → u ≤ 8 → 1 ≤ p → p ≤ 12 → nA σ 14 (13 * u + p) = 0 ∨ (nA σ 14 (13 * u + p) ≤ nF σ 3 ∧ nA σ 6 (nA σ 14 (13 * u + p)) = u ∧ nA σ 7 (nA σ 14 (13 * u + p)) = p) := h.2.2.2.2.2.2.1
theorem Inv.uz (h : Inv σ) : ∀ u, u ≤ 8 → nF σ 2 < u → σ.1 12 u = 0 ∧ σ.1 13 u = 0 ∧ σ.1 15 u = 0 ∧ σ.1 16 u = 0 ∧ σ.1 17 u = 0 ∧ σ.1 18 u = 0 ∧ σ.1 19 u = 0 := h.2.2.2.2.2.2.2.1
/-- a class's rows are all taken rows -/
theorem Inv.ops (h : Inv σ) : opsOk σ := by
  intro c hc r hr1 hr2
  by_cases hz : c = 0 ∨ nF σ 3 < c
  · have := (h.cz c hc hz).1
    rw [nA, this] at hr2
    exact absurd hr2 (by show ¬ r ≤ 0; omega)
  · have h1 := h.cls c (by omega) (by omega)
    exact ((h.prog _ h1.2.1.1 h1.2.1.2).2.2 r hr1 (by omega)).1
end IN
theorem nF_e {σ σ' : MS} {k : Nat} (h : σ'.2 k = σ.2 k) : nF σ' k = nF σ k := by unfold nF; rw [h]
theorem nA_e {σ σ' : MS} {j : Nat} (h : σ'.1 j = σ.1 j) (i : Nat) : nA σ' j i = nA σ j i := by unfold nA; rw [h]
theorem fB_e {σ σ' : MS} (h0 : σ'.1 0 = σ.1 0) (h2 : σ'.1 2 = σ.1 2) (h3 : σ'.1 3 = σ.1 3) (h4 : σ'.1 4 = σ.1 4) (h5 : σ'.1 5 = σ.1 5) (h7 : σ'.1 7 = σ.1 7) (h8 : σ'.1 8 = σ.1 8) (c : Nat) : fB σ' c = fB σ c := by
  unfold fB prO
  rw [nA_e h7, nA_e h8, h0, h2, h3, h4, h5]
/-- arrays below 22 and the three counts are all that is read -/
def cor (σ : MS) : MS := (fun j => if j < 22 then σ.1 j else fun _ => 0, fun k => if k = 1 ∨ k = 2 ∨ k = 3 then σ.2 k else 0)
theorem Inv_cor (σ : MS) : Inv (cor σ) ↔ Inv σ := Iff.rfl
theorem Lk_cor (g : GX) (σ : MS) (run : Nat) : Lk g (cor σ) run ↔ Lk g σ run := Iff.rfl
theorem PX_cor (K : Nat → ClassId) (L : List Nat) (f : Nat → va_E) (ad : AD) (κ : TG) (g : GX) (σ : MS) : PX K L f ad κ g (cor σ) ↔ PX K L f ad κ g σ := Iff.rfl
theorem cor_e {σ σ' : MS} (h1 : ∀ j, j < 22 → σ'.1 j = σ.1 j) (h2 : ∀ k, k = 1 ∨ k = 2 ∨ k = 3 → σ'.2 k = σ.2 k) : cor σ' = cor σ := by
  unfold cor
  refine Prod.ext ?_ ?_
  · funext j
    show (if j < 22 then σ'.1 j else fun _ => 0) = (if j < 22 then σ.1 j else fun _ => 0)
    split
    · next h => rw [h1 j h]
    · rfl
  · funext k
    show (if k = 1 ∨ k = 2 ∨ k = 3 then σ'.2 k else 0) = (if k = 1 ∨ k = 2 ∨ k = 3 then σ.2 k else 0)
    split
    · next h => rw [h2 k h]
    · rfl
theorem RX_cor {K : Nat → ClassId} {L : List Nat} {f : Nat → va_E} {ad : AD} {κ : TG} {g : GX} {σ σ' : MS} {run : Nat} (h : RX K L f ad κ g σ run) (e : cor σ' = cor σ) : RX K L f ad κ g σ' run :=
  ⟨(PX_cor K L f ad κ g σ').mp (e ▸ (PX_cor K L f ad κ g σ).mpr h.1), (Lk_cor g σ' run).mp (e ▸ (Lk_cor g σ run).mpr h.2.1), (Inv_cor σ').mp (e ▸ (Inv_cor σ).mpr h.2.2)⟩
theorem cor_F0 (σ : MS) (x : Int32) : cor (sF σ 0 x) = cor σ := cor_e (fun _ _ => rfl) (fun k hk => va_up_ne _ _ (by omega))
theorem RX_F0 {K : Nat → ClassId} {L : List Nat} {f : Nat → va_E} {ad : AD} {κ : TG} {g : GX} {σ : MS} {run : Nat} (h : RX K L f ad κ g σ run) (x : Int32) : RX K L f ad κ g (sF σ 0 x) run := RX_cor h (cor_F0 σ x)
