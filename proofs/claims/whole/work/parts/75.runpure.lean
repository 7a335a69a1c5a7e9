/-! what holds of the state in a run -/
def FRM (u : Nat) (σ : MS) (i : Nat) : Prop := ∃ c r : Nat, σ.1 22 i = nI c ∧ (1 ≤ c ∧ c ≤ nF σ 3) ∧ nA σ 6 c = u ∧ nA σ 14 (13 * u + nA σ 7 c) = c ∧ ¬ σ.1 10 c = 0 ∧ σ.1 23 i = nI r ∧ 1 ≤ r ∧ r ≤ 61
def RV (u : Nat) (σ : MS) : Prop := Inv σ ∧ (1 ≤ u ∧ u ≤ nF σ 2) ∧ (σ.2 26 = nI (nF σ 26) ∧ nF σ 26 ≤ 11) ∧ ∀ i, i < nF σ 26 → FRM u σ i
def RUx (u : Nat) (y : Int32 × MS) : Prop := (y.1 = 0 → RV u y.2) ∧ Inv y.2 ∧ (y.1 = 5 → ∃ d c : Nat, y.2.2 26 = nI (d + 1) ∧ d ≤ 10 ∧ y.2.1 22 d = nI c ∧ c ≤ 40)
theorem RUx_ok {u : Nat} {σ : MS} (h : RV u σ) : RUx u (0, σ) := ⟨fun _ => h, h.1, fun h9 => absurd h9 (show ¬ (0 : Int32) = 5 by decide)⟩
theorem RUx_no {u : Nat} {σ : MS} {k : Int32} (h : Inv σ) (h0 : k ≠ 0) (h5 : k ≠ 5) : RUx u (k, σ) := ⟨fun h9 => absurd h9 h0, h, fun h9 => absurd h9 h5⟩
theorem RUx_any {u : Nat} {σ : MS} {k : Int32} (h : RV u σ) (h5 : k ≠ 5) : RUx u (k, σ) := ⟨fun _ => h, h.1, fun h9 => absurd h9 h5⟩
/-- what a step other than a call does -/
def SO (u : Nat) (σ : MS) (y : Int32 × MS) : Prop := RUx u y ∧ nF y.2 3 = nF σ 3 ∧ y.2.2 26 = σ.2 26 ∧ nA y.2 18 u = nA σ 18 u ∧ (∀ i, y.2.1 22 i = σ.1 22 i) ∧ (∀ i, i + 1 < nF σ 26 → y.2.1 23 i = σ.1 23 i)
theorem SO_same {u : Nat} {σ : MS} (h : RV u σ) {k : Int32} (h5 : k ≠ 5) : SO u σ (k, σ) := ⟨RUx_any h h5, rfl, rfl, rfl, fun _ => rfl, fun _ _ => rfl⟩
theorem b8 (v : Int32) : v.toInt8.toInt32.toInt8.toInt32 = v.toInt8.toInt32 := by simp
theorem SO_byte {u : Nat} {σ : MS} (h : RV u σ) (i : Nat) (v : Int32) : SO u σ (0, sA σ 20 i v.toInt8.toInt32) :=
  ⟨RUx_ok ⟨Inv_20 h.1 i (b8 v), h.2.1, h.2.2.1, h.2.2.2⟩, rfl, rfl, rfl, fun _ => rfl, fun _ _ => rfl⟩
theorem RV_row {u : Nat} {σ : MS} (h : RV u σ) (hh : 0 < nF σ 26) {n : Nat} (h1 : 1 ≤ n) (h2 : n ≤ 61) : RV u (sA σ 23 (nF σ 26 - 1) (nI n)) :=
  ⟨Inv_cor2 h.1 (cor_A (by decide)), h.2.1, h.2.2.1, fun i hi => by
    obtain ⟨c, r, a1, a2, a3, a4, a5, a6, a7, a8⟩ := h.2.2.2 i hi
    by_cases e : i = nF σ 26 - 1
    · exact ⟨c, n, a1, a2, a3, a4, a5, by rw [e]; exact sA_s σ 23 _ _, h1, h2⟩
    · exact ⟨c, r, a1, a2, a3, a4, a5, (sA_n e).trans a6, a7, a8⟩⟩
theorem SO_jump {u : Nat} {σ : MS} (h : RV u σ) (hh : 0 < nF σ 26) {b : Int32} (hb : ∃ n : Nat, b = nI n ∧ 1 ≤ n ∧ n ≤ 61) : SO u σ (0, sA σ 23 (nF σ 26 - 1) b) := by
  obtain ⟨n, rfl, h1, h2⟩ := hb
  exact ⟨RUx_ok (RV_row h hh h1 h2), rfl, rfl, rfl, fun _ => rfl, fun i hi => sA_n (by omega)⟩
theorem SO_mark {u : Nat} {σ : MS} (h : RV u σ) {a : Int32} (i : Nat) (hm : nA σ 19 u < 100) : SO u σ (0, sA (sA σ 21 i a) 19 u (nI (nA σ 19 u + 1))) := by
  have h1 : Inv (sA σ 21 i a) := h.1
  exact ⟨RUx_ok ⟨Inv_19 h1 h.2.1.2 ⟨_, rfl, by omega⟩, h.2.1, h.2.2.1, h.2.2.2⟩, rfl, rfl, rfl, fun _ => rfl, fun _ _ => rfl⟩
theorem SO_stop {u : Nat} {σ : MS} (h : RV u σ) (a : Int32) : SO u σ (99, sA (sA σ 17 u a) 12 u 1) :=
  ⟨RUx_no (Inv_12 (Inv_17 h.1 h.2.1.2 a) h.2.1.2 1) (by decide) (by decide), rfl, rfl, rfl, fun _ => rfl, fun _ _ => rfl⟩
theorem SO_step {u p z : Nat} {σ : MS} {o a b : Int32} (h : RV u σ) (hh : 0 < nF σ 26) (hV : rowV z o a b) (ho : o ≠ 10) : SO u σ (S_stepO σ u p o a b) := by
  have d5 : ∀ k : Int32, k = 1 ∨ k = 2 ∨ k = 4 ∨ k = 0 → k ≠ 5 := fun k hk => by rcases hk with rfl | rfl | rfl | rfl <;> decide
  have hu8 : u ≤ 8 := Nat.le_trans h.2.1.2 h.1.nu.2
  rcases op_cs hV.1 with rfl | rfl | rfl | rfl | rfl | rfl | rfl | rfl | rfl | rfl | rfl | rfl | rfl | rfl
  · exact SO_byte h _ _
  · exact SO_byte h _ _
  · exact SO_byte h _ _
  · exact SO_byte h _ _
  · exact SO_byte h _ _
  · show SO u σ (if σ.1 20 (wk u p b.toNatClampNeg) = 0 then (1, σ) else (0, sA σ 20 _ _))
    split
    · exact SO_same h (by decide)
    · exact SO_byte h _ _
  · show SO u σ (if σ.1 20 (wk u p b.toNatClampNeg) = 0 then (1, σ) else (0, sA σ 20 _ _))
    split
    · exact SO_same h (by decide)
    · exact SO_byte h _ _
  · show SO u σ (if σ.1 20 (wk u p a.toNatClampNeg) < 0 then (2, σ) else if σ.1 20 (wk u p a.toNatClampNeg) < σ.1 0 p then (0, sA σ 20 _ _) else (2, σ))
    split
    · exact SO_same h (by decide)
    · split
      · exact SO_byte h _ _
      · exact SO_same h (by decide)
  · show SO u σ (if σ.1 20 (wk u p a.toNatClampNeg) = 0 then (0, sA σ 23 (nF σ 26 - 1) b) else (0, σ))
    split
    · exact SO_jump h hh (hV.2.2.2.1 (Or.inl rfl))
    · exact SO_same h (by decide)
  · exact SO_jump h hh (hV.2.2.2.1 (Or.inr rfl))
  · exact absurd rfl ho
  · show SO u σ (if 100 ≤ σ.1 19 u then (0, σ) else (0, sA (sA σ 21 _ a) 19 u (nI (nA σ 19 u + 1))))
    split
    · exact SO_same h (by decide)
    · next h9 =>
      refine SO_mark h _ ?_
      have := (h.1.mk hu8)
      rcases Nat.lt_or_ge (nA σ 19 u) 100 with h8 | h8
      · exact h8
      · exact absurd (by rw [this.1]; exact nI_le (a := 100) h8 (by omega)) h9
  · exact SO_stop h a
  · show SO u σ (if σ.1 20 (wk u p a.toNatClampNeg) ≤ b then (0, σ) else (4, σ))
    split
    · exact SO_same h (by decide)
    · exact SO_same h (by decide)
theorem nI_ne_m1 {n : Nat} (h : n < 2 ^ 31) : ¬ nI n = -1 := fun e => absurd (e ▸ nI_pos h) (by decide)
theorem push_h {σ : MS} {c : Nat} : (pushF σ c).2 26 = nI (nF σ 26 + 1) := rfl
theorem RV_push {u c : Nat} {σ : MS} (h : RV u σ) (hh : nF σ 26 ≤ 10) (hc1 : 1 ≤ c) (hc2 : c ≤ nF σ 3) (h6 : nA σ 6 c = u) (hl : nA σ 14 (13 * u + nA σ 7 c) = c) (hs : ¬ σ.1 10 c = 0) : RV u (pushF σ c) := by
  have e26 : nF (pushF σ c) 26 = nF σ 26 + 1 := nF_of push_h (by omega)
  refine ⟨Inv_cor2 h.1 (cor_push σ c), h.2.1, ⟨by rw [e26]; rfl, by omega⟩, fun i hi => ?_⟩
  rw [e26] at hi
  by_cases e : i = nF σ 26
  · subst e
    exact ⟨c, 1, sA_s σ 22 (nF σ 26) (nI c), ⟨hc1, hc2⟩, h6, hl, hs, sA_s (sA σ 22 (nF σ 26) (nI c)) 23 (nF σ 26) 1, Nat.le_refl _, by decide⟩
  · obtain ⟨c1, r, a1, a2, a3, a4, a5, a6, a7, a8⟩ := h.2.2.2 i (by omega)
    exact ⟨c1, r, (sA_n (σ := σ) (j := 22) e).trans a1, a2, a3, a4, a5, (sA_n (σ := sA σ 22 (nF σ 26) (nI c)) (j := 23) e).trans a6, a7, a8⟩
/-- what entering a class does -/
def SE (u c : Nat) (σ : MS) (y : Int32 × MS) : Prop := RUx u y ∧ nF y.2 3 = nF σ 3 ∧ y.2.2 26 = nI (nF σ 26 + 1) ∧ nA y.2 18 u = nA σ 18 u ∧ (∀ i, i < nF σ 26 → y.2.1 22 i = σ.1 22 i ∧ y.2.1 23 i = σ.1 23 i) ∧ y.2.1 22 (nF σ 26) = nI c ∧ y.2.1 23 (nF σ 26) = 1
theorem SE_start {u c : Nat} {σ : MS} (h : RV u σ) (hh : nF σ 26 ≤ 10) (hc1 : 1 ≤ c) (hc2 : c ≤ nF σ 3) (h6 : nA σ 6 c = u) (hl : nA σ 14 (13 * u + nA σ 7 c) = c) (B N : Nat) : SE u c σ (0, sA (zW (pushF σ c) B N) 10 c 1) := by
  have hc40 := h.1.nc.2
  have k22 : ∀ i, i < nF σ 26 → (pushF σ c).1 22 i = σ.1 22 i := fun i hi => sA_n (σ := σ) (j := 22) (by omega)
  have k23 : ∀ i, i < nF σ 26 → (pushF σ c).1 23 i = σ.1 23 i := fun i hi => sA_n (σ := sA σ 22 (nF σ 26) (nI c)) (j := 23) (by omega)
  have t22 : (pushF σ c).1 22 (nF σ 26) = nI c := sA_s σ 22 (nF σ 26) (nI c)
  have t23 : (pushF σ c).1 23 (nF σ 26) = 1 := sA_s (sA σ 22 (nF σ 26) (nI c)) 23 (nF σ 26) 1
  have hz : ∀ j, j ≠ 20 → (zW (pushF σ c) B N).1 j = (pushF σ c).1 j := fun j hj => zW_arr _ _ hj _
  have hz2 : (zW (pushF σ c) B N).2 = (pushF σ c).2 := zW_fld _ _ _
  obtain ⟨ζ, hζ⟩ : ∃ ζ, zW (pushF σ c) B N = ζ := ⟨_, rfl⟩
  have hIζ : Inv ζ := hζ ▸ Inv_zW (Inv_cor2 h.1 (cor_push σ c)) _ N
  rw [hζ] at hz hz2
  rw [hζ]
  have e3 : nF ζ 3 = nF σ 3 := by unfold nF; rw [hz2]; rfl
  have e2 : nF ζ 2 = nF σ 2 := by unfold nF; rw [hz2]; rfl
  have e26 : nF ζ 26 = nF σ 26 + 1 := nF_of (by rw [hz2]; rfl) (by omega)
  have hI1 : Inv (sA ζ 10 c 1) := Inv_10 hIζ hc1 (by rw [e3]; exact hc2) 1
  refine ⟨RUx_ok ⟨hI1, ⟨h.2.1.1, ?_⟩, ⟨?_, ?_⟩, ?_⟩, e3, ?_, ?_, ?_, ?_, ?_⟩
  · show u ≤ nF ζ 2; rw [e2]; exact h.2.1.2
  · show ζ.2 26 = nI (nF ζ 26); rw [e26, hz2]; rfl
  · show nF ζ 26 ≤ 11; omega
  · intro i hi
    have hi : i < nF σ 26 + 1 := by rw [← e26]; exact hi
    by_cases e : i = nF σ 26
    · subst e
      refine ⟨c, 1, ?_, ⟨hc1, ?_⟩, ?_, ?_, ?_, ?_, Nat.le_refl _, by decide⟩
      · show ζ.1 22 _ = _; rw [hz 22 (by decide)]; exact t22
      · show c ≤ nF ζ 3; rw [e3]; exact hc2
      · show nA ζ 6 c = u; rw [nA_e (hz 6 (by decide))]; exact h6
      · show nA ζ 14 (13 * u + nA ζ 7 c) = c; rw [nA_e (hz 14 (by decide)), nA_e (hz 7 (by decide))]; exact hl
      · rw [sA_s]; decide
      · show ζ.1 23 _ = _; rw [hz 23 (by decide)]; exact t23
    · obtain ⟨c1, r, a1, a2, a3, a4, a5, a6, a7, a8⟩ := h.2.2.2 i (by omega)
      refine ⟨c1, r, ?_, ⟨a2.1, ?_⟩, ?_, ?_, ?_, ?_, a7, a8⟩
      · show ζ.1 22 _ = _; rw [hz 22 (by decide), k22 i (by omega)]; exact a1
      · show c1 ≤ nF ζ 3; rw [e3]; exact a2.2
      · show nA ζ 6 c1 = u; rw [nA_e (hz 6 (by decide))]; exact a3
      · show nA ζ 14 (13 * u + nA ζ 7 c1) = c1; rw [nA_e (hz 14 (by decide)), nA_e (hz 7 (by decide))]; exact a4
      · by_cases e9 : c1 = c
        · rw [e9, sA_s]; decide
        · rw [sA_n e9, hz 10 (by decide)]; exact a5
      · show ζ.1 23 _ = _; rw [hz 23 (by decide), k23 i (by omega)]; exact a6
  · show ζ.2 26 = _; rw [hz2]; rfl
  · show nA ζ 18 u = _; rw [nA_e (hz 18 (by decide))]; rfl
  · intro i hi
    exact ⟨by show ζ.1 22 i = _; rw [hz 22 (by decide)]; exact k22 i hi, by show ζ.1 23 i = _; rw [hz 23 (by decide)]; exact k23 i hi⟩
  · show ζ.1 22 _ = _; rw [hz 22 (by decide)]; exact t22
  · show ζ.1 23 _ = _; rw [hz 23 (by decide)]; exact t23
theorem ent_0 {σ : MS} {c : Nat} (hs : σ.1 10 c = 0) (h5 : σ.1 5 (nA σ 7 c) = 0) : S_enter σ c = (0, sA (zW (pushF σ c) (wk (nA σ 6 c) (nA σ 7 c) 0) 100) 10 c 1) := by unfold S_enter; rw [if_pos hs, if_pos h5]
theorem ent_5 {σ : MS} {c : Nat} (hs : σ.1 10 c = 0) (h5 : ¬ σ.1 5 (nA σ 7 c) = 0) : S_enter σ c = (5, sA (sA (pushF σ c) 11 c 1) 12 (nA σ 6 c) 1) := by unfold S_enter; rw [if_pos hs, if_neg h5]
theorem ent_s {σ : MS} {c : Nat} (hs : ¬ σ.1 10 c = 0) : S_enter σ c = (0, pushF σ c) := by unfold S_enter; rw [if_neg hs]
theorem s5_I {u c : Nat} {σ : MS} (h : RV u σ) (hc1 : 1 ≤ c) (hc2 : c ≤ nF σ 3) : Inv (sA (sA (pushF σ c) 11 c 1) 12 u 1) := by
  have h1 : Inv (pushF σ c) := Inv_cor2 h.1 (cor_push σ c)
  have h2 : Inv (sA (pushF σ c) 11 c 1) := Inv_11 h1 (show 1 ≤ c from hc1) (show c ≤ nF σ 3 from hc2) 1
  exact Inv_12 h2 (show u ≤ nF σ 2 from h.2.1.2) 1
theorem s5_k {u c : Nat} {σ : MS} (h : RV u σ) : (∀ i, i < nF σ 26 → (sA (sA (pushF σ c) 11 c 1) 12 u 1).1 22 i = σ.1 22 i ∧ (sA (sA (pushF σ c) 11 c 1) 12 u 1).1 23 i = σ.1 23 i) ∧ (sA (sA (pushF σ c) 11 c 1) 12 u 1).1 22 (nF σ 26) = nI c ∧ (sA (sA (pushF σ c) 11 c 1) 12 u 1).1 23 (nF σ 26) = 1 :=
  ⟨fun i hi => ⟨sA_n (σ := σ) (j := 22) (by omega), sA_n (σ := sA σ 22 (nF σ 26) (nI c)) (j := 23) (by omega)⟩, sA_s σ 22 (nF σ 26) (nI c), sA_s (sA σ 22 (nF σ 26) (nI c)) 23 (nF σ 26) 1⟩
theorem SE_5 {u c : Nat} {σ : MS} (h : RV u σ) (hh : nF σ 26 ≤ 10) (hc1 : 1 ≤ c) (hc2 : c ≤ nF σ 3) (h6 : nA σ 6 c = u) : SE u c σ (5, sA (sA (pushF σ c) 11 c 1) 12 (nA σ 6 c) 1) := by
  have hc40 := h.1.nc.2
  rw [h6]
  obtain ⟨k1, k2, k3⟩ := s5_k (c := c) h
  have hI := s5_I h hc1 hc2
  refine ⟨⟨fun h9 => absurd h9 (show ¬ (5 : Int32) = 0 by decide), hI, fun _ => ⟨nF σ 26, c, ?_, hh, k2, by omega⟩⟩, ?_, ?_, ?_, k1, k2, k3⟩
  · exact push_h (c := c)
  · rfl
  · exact push_h (c := c)
  · rfl
theorem SE_s {u c : Nat} {σ : MS} (h : RV u σ) (hh : nF σ 26 ≤ 10) (hc1 : 1 ≤ c) (hc2 : c ≤ nF σ 3) (h6 : nA σ 6 c = u) (hl : nA σ 14 (13 * u + nA σ 7 c) = c) (hs : ¬ σ.1 10 c = 0) : SE u c σ (0, pushF σ c) := by
  have hc40 := h.1.nc.2
  have k22 : ∀ i, i < nF σ 26 → (pushF σ c).1 22 i = σ.1 22 i := fun i hi => sA_n (σ := σ) (j := 22) (by omega)
  have k23 : ∀ i, i < nF σ 26 → (pushF σ c).1 23 i = σ.1 23 i := fun i hi => sA_n (σ := sA σ 22 (nF σ 26) (nI c)) (j := 23) (by omega)
  have t22 : (pushF σ c).1 22 (nF σ 26) = nI c := sA_s σ 22 (nF σ 26) (nI c)
  have t23 : (pushF σ c).1 23 (nF σ 26) = 1 := sA_s (sA σ 22 (nF σ 26) (nI c)) 23 (nF σ 26) 1
  exact ⟨RUx_ok (RV_push h hh hc1 hc2 h6 hl hs), rfl, rfl, rfl, fun i hi => ⟨k22 i hi, k23 i hi⟩, t22, t23⟩
theorem SE_enter {u c : Nat} {σ : MS} (h : RV u σ) (hh : nF σ 26 ≤ 10) (hc1 : 1 ≤ c) (hc2 : c ≤ nF σ 3) (h6 : nA σ 6 c = u) (hl : nA σ 14 (13 * u + nA σ 7 c) = c) : SE u c σ (S_enter σ c) := by
  by_cases hs : σ.1 10 c = 0
  · by_cases h5 : σ.1 5 (nA σ 7 c) = 0
    · rw [ent_0 hs h5]
      exact SE_start h hh hc1 hc2 h6 hl (wk (nA σ 6 c) (nA σ 7 c) 0) 100
    · rw [ent_5 hs h5]
      exact SE_5 h hh hc1 hc2 h6
  · rw [ent_s hs]
    exact SE_s h hh hc1 hc2 h6 hl hs
theorem RV_made {u p : Nat} {σ : MS} (h : RV u σ) (hp1 : 1 ≤ p) (hp2 : p ≤ nF σ 1) (hlat : nA σ 14 (13 * u + p) = 0) (hnc : nF σ 3 < 40) : RV u (sM σ u p) := by
  have e := sMd_N σ u p
  have hu8 : u ≤ 8 := Nat.le_trans h.2.1.2 h.1.nu.2
  have e3 : nF (sM σ u p) 3 = nF σ 3 + 1 := by rw [← e]; exact sMd_nc hnc
  refine ⟨made_inv0 h.1 h.2.1.1 h.2.1.2 hp1 hp2 hlat hnc, h.2.1, h.2.2.1, fun i hi => ?_⟩
  obtain ⟨c1, r, a1, a2, a3, a4, a5, a6, a7, a8⟩ := h.2.2.2 i hi
  have n7 : nA (sM σ u p) 7 c1 = nA σ 7 c1 := by rw [← e]; exact sMd_7 (by omega)
  refine ⟨c1, r, a1, ⟨a2.1, by rw [e3]; omega⟩, ?_, ?_, a5, a6, a7, a8⟩
  · rw [← e, sMd_6 (by omega)]; exact a3
  · rw [n7, ← e, sMd_14 (fun h9 => by rw [h9, hlat] at a4; omega)]; exact a4
theorem made_top {u p : Nat} {σ : MS} (hu : u ≤ 8) (hp : p ≤ 12) (hnc : nF σ 3 < 40) : nF (sM σ u p) 3 = nF σ 3 + 1 ∧ nA (sM σ u p) 6 (nF σ 3 + 1) = u ∧ nA (sM σ u p) 7 (nF σ 3 + 1) = p ∧ nA (sM σ u p) 14 (13 * u + p) = nF σ 3 + 1 := by
  rw [← sMd_N σ u p]
  exact ⟨sMd_nc hnc, sMd_6n hu, sMd_7n hp, sMd_14n hnc⟩
/-- what a call does -/
def SC (u : Nat) (σ : MS) (y : Int32 × MS) : Prop := RUx u y ∧ nF σ 3 ≤ nF y.2 3 ∧ nF y.2 26 ≤ nF σ 26 + 1 ∧ nA y.2 18 u = nA σ 18 u ∧ (∀ i, i < nF σ 26 → y.2.1 22 i = σ.1 22 i ∧ y.2.1 23 i = σ.1 23 i) ∧ nF σ 26 ≤ nF y.2 26
theorem SE_SC {u c : Nat} {σ : MS} {y : Int32 × MS} (hh : nF σ 26 ≤ 10) (h : SE u c σ y) : SC u σ y := ⟨h.1, by rw [h.2.1]; exact Nat.le_refl _, by rw [nF_of h.2.2.1 (by omega)]; exact Nat.le_refl _, h.2.2.2.1, h.2.2.2.2.1, by rw [nF_of h.2.2.1 (by omega)]; exact Nat.le_succ _⟩
theorem SC_same {u : Nat} {σ : MS} (h : RV u σ) {k : Int32} (h0 : k ≠ 5) : SC u σ (k, σ) := ⟨RUx_any h h0, Nat.le_refl _, Nat.le_succ _, rfl, fun _ _ => ⟨rfl, rfl⟩, Nat.le_refl _⟩
theorem SC_called {u : Nat} {σ : MS} (h : RV u σ) (a : Int32) : SC u σ (S_called σ u a) := by
  have hu8 : u ≤ 8 := Nat.le_trans h.2.1.2 h.1.nu.2
  unfold S_called
  split
  · exact SC_same h (by decide)
  · next h11 =>
    have hh : nF σ 26 ≤ 10 := by have := h.2.2.1.2; omega
    split
    · next ha =>
      obtain ⟨p, rfl, hp1, hp12, -, hp2⟩ := in1 h.1.1.1 (by decide) ha
      have hp2 : p ≤ nF σ 1 := hp2
      rw [nI_clamp (by omega)]
      split
      · next hl =>
        by_cases hnc : nF σ 3 = 40
        · rw [made_full hl hnc]
          exact SC_same h (by decide)
        · have h40 := h.1.nc.2
          rw [made_new hl hnc, if_neg (nI_ne_m1 (by omega)), nI_clamp (by omega)]
          obtain ⟨t1, t2, t3, t4⟩ := made_top (u := u) (p := p) (σ := σ) hu8 hp12 (by omega)
          have hE := SE_enter (RV_made h hp1 hp2 hl (by omega)) hh (c := nF σ 3 + 1) (by omega) (by rw [t1]; exact Nat.le_refl _) t2 (by rw [t3]; exact t4)
          have hC := SE_SC (σ := sM σ u p) hh hE
          exact ⟨hC.1, Nat.le_trans (by rw [t1]; exact Nat.le_succ _) hC.2.1, hC.2.2.1, hC.2.2.2.1, hC.2.2.2.2⟩
      · next hl =>
        have hcl := (h.1.lat u p h.2.1.1 hu8 hp1 hp12).resolve_left hl
        exact SE_SC hh (SE_enter h hh (by omega) hcl.1 hcl.2.1 (by rw [hcl.2.2]))
    · exact SC_same h (by decide)
