def pot (u : Nat) (σ : MS) : Nat := 2 * (1000 - nA σ 18 u) + nF σ 26
theorem pot_of {u : Nat} {σ σ' : MS} (h18 : nA σ' 18 u = nA σ 18 u) (h26 : nF σ' 26 < nF σ 26) : pot u σ' < pot u σ := by unfold pot; rw [h18]; omega
theorem pot_of2 {u : Nat} {σ σ' : MS} (h18 : nA σ' 18 u = nA σ 18 u + 1) (hs : nA σ 18 u < 1000) (h26 : nF σ' 26 ≤ nF σ 26 + 1) : pot u σ' < pot u σ := by unfold pot; rw [h18]; omega
/-- the state in which a row is followed -/
def sTk (u : Nat) (σ : MS) : MS := sA (sA (sA σ 16 u (σ.1 7 (nA σ 22 (nF σ 26 - 1)))) 23 (nF σ 26 - 1) (nI (nA σ 23 (nF σ 26 - 1) + 1))) 18 u (nI (nA σ 18 u + 1))
theorem sTk_arr (u : Nat) (σ : MS) {j : Nat} (h1 : j ≠ 16) (h2 : j ≠ 18) (h3 : j ≠ 23) : (sTk u σ).1 j = σ.1 j := (va_up_ne _ _ h2).trans ((va_up_ne _ _ h3).trans (va_up_ne _ _ h1))
theorem sTk_fld (u : Nat) (σ : MS) : (sTk u σ).2 = σ.2 := rfl
theorem sTk_n (u : Nat) (σ : MS) {j : Nat} (h1 : j ≠ 16) (h2 : j ≠ 18) (h3 : j ≠ 23) (i : Nat) : nA (sTk u σ) j i = nA σ j i := nA_e (sTk_arr u σ h1 h2 h3) i
theorem sTk_p (u : Nat) (σ : MS) (p r : Nat) : prO (sTk u σ) p r = prO σ p r := by unfold prO; rw [sTk_arr u σ (by decide) (by decide) (by decide), sTk_arr u σ (by decide) (by decide) (by decide), sTk_arr u σ (by decide) (by decide) (by decide)]
theorem sA_o (σ : MS) {j j2 : Nat} (i : Nat) (x : Int32) (h : j2 ≠ j) : (sA σ j i x).1 j2 = σ.1 j2 := va_up_ne _ _ h
theorem sTk_23 (u : Nat) (σ : MS) {i : Nat} (h : i ≠ nF σ 26 - 1) : (sTk u σ).1 23 i = σ.1 23 i := by
  unfold sTk
  rw [sA_o _ _ _ (show 23 ≠ 18 by decide), sA_n h, sA_o _ _ _ (show 23 ≠ 16 by decide)]
theorem it_pop {u : Nat} {σ : MS} (h : nA σ 8 (nA σ 22 (nF σ 26 - 1)) < nA σ 23 (nF σ 26 - 1)) : S_it u σ = (0, sF σ 26 (nI (nF σ 26 - 1))) := by unfold S_it; rw [if_pos h]
theorem it_end {u : Nat} {σ : MS} (h : ¬ nA σ 8 (nA σ 22 (nF σ 26 - 1)) < nA σ 23 (nF σ 26 - 1)) (hs : nA σ 18 u = 1000) : S_it u σ = (7, sA (sA σ 16 u (σ.1 7 (nA σ 22 (nF σ 26 - 1)))) 23 (nF σ 26 - 1) (nI (nA σ 23 (nF σ 26 - 1) + 1))) := by unfold S_it; rw [if_neg h, if_pos hs]
theorem it_row {u : Nat} {σ : MS} (h : ¬ nA σ 8 (nA σ 22 (nF σ 26 - 1)) < nA σ 23 (nF σ 26 - 1)) (hs : ¬ nA σ 18 u = 1000) : S_it u σ = S_step (sTk u σ) (nA σ 22 (nF σ 26 - 1)) (nA σ 23 (nF σ 26 - 1)) := by unfold S_it sTk; rw [if_neg h, if_neg hs]
/-- the top frame -/
theorem RV.top {u : Nat} {σ : MS} (h : RV u σ) {d : Nat} (hd : nF σ 26 = d + 1) : ∃ c r : Nat, nA σ 22 d = c ∧ σ.1 22 d = nI c ∧ (1 ≤ c ∧ c ≤ nF σ 3) ∧ nA σ 6 c = u ∧ nA σ 14 (13 * u + nA σ 7 c) = c ∧ ¬ σ.1 10 c = 0 ∧ nA σ 23 d = r ∧ σ.1 23 d = nI r ∧ 1 ≤ r ∧ r ≤ 61 := by
  obtain ⟨c, r, a1, a2, a3, a4, a5, a6, a7, a8⟩ := h.2.2.2 d (by omega)
  have := h.1.nc.2
  exact ⟨c, r, nA_of a1 (by omega), a1, a2, a3, a4, a5, nA_of a6 (by omega), a6, a7, a8⟩
theorem RV_sTk {u : Nat} {σ : MS} (h : RV u σ) {d r : Nat} (hd : nF σ 26 = d + 1) (hr : nA σ 23 d = r) (hr2 : r ≤ 60) (hs : ¬ nA σ 18 u = 1000) : RV u (sTk u σ) ∧ nA (sTk u σ) 18 u = nA σ 18 u + 1 := by
  have hu8 : u ≤ 8 := Nat.le_trans h.2.1.2 h.1.nu.2
  have h18 := h.1.st hu8
  have e1 : nF σ 26 - 1 = d := by omega
  have h1 : RV u (sA σ 16 u (σ.1 7 (nA σ 22 (nF σ 26 - 1)))) := ⟨Inv_16 h.1 h.2.1.2 _, h.2.1, h.2.2.1, h.2.2.2⟩
  have h2 := RV_row h1 (show 0 < nF σ 26 by omega) (n := r + 1) (by omega) (by omega)
  refine ⟨?_, nA_of (sA_s _ 18 u _) (by omega)⟩
  unfold sTk
  rw [show nA σ 23 (nF σ 26 - 1) + 1 = r + 1 from by rw [e1, hr]]
  exact ⟨Inv_18 h2.1 h.2.1.2 ⟨_, rfl, by omega⟩, h2.2.1, h2.2.2.1, h2.2.2.2⟩
/-- what a turn does -/
def TI (u : Nat) (σ : MS) (y : Int32 × MS) : Prop := RUx u y ∧ nF σ 3 ≤ nF y.2 3 ∧ nA σ 18 u ≤ nA y.2 18 u ∧ (∀ i, i + 1 < nF σ 26 → y.2.1 22 i = σ.1 22 i ∧ y.2.1 23 i = σ.1 23 i) ∧ (y.1 = 0 → pot u y.2 < pot u σ) ∧ nF σ 26 ≤ nF y.2 26 + 1
theorem row_V {u : Nat} {σ : MS} (h : RV u σ) {c r : Nat} (hc1 : 1 ≤ c) (hc2 : c ≤ nF σ 3) (hr1 : 1 ≤ r) (hr2 : r ≤ nA σ 8 c) : rowV (nA σ 0 (nA σ 7 c)) (prO σ (nA σ 7 c) r).1 (prO σ (nA σ 7 c) r).2.1 (prO σ (nA σ 7 c) r).2.2 := by
  have h1 := h.1.cls c hc1 hc2
  exact (h.1.prog _ h1.2.1.1 h1.2.1.2).2.2 r hr1 (by omega)
theorem TI_pop {u : Nat} {σ : MS} (h : RV u σ) (hh : 0 < nF σ 26) (hp : nA σ 8 (nA σ 22 (nF σ 26 - 1)) < nA σ 23 (nF σ 26 - 1)) : TI u σ (S_it u σ) := by
  obtain ⟨d, hd⟩ : ∃ d, nF σ 26 = d + 1 := ⟨nF σ 26 - 1, by omega⟩
  have e1 : nF σ 26 - 1 = d := by omega
  have hu8 : u ≤ 8 := Nat.le_trans h.2.1.2 h.1.nu.2
  have h18 := h.1.st hu8
  have h11 := h.2.2.1.2
  obtain ⟨c, r, t1, t2, t3, t4, t5, t6, t7, t8, t9, t10⟩ := h.top hd
  have hc40 := h.1.nc.2
  have h8 := (h.1.cr (c := c) (by omega)).2
  have ec : nA σ 22 (nF σ 26 - 1) = c := by rw [e1, t1]
  have er : nA σ 23 (nF σ 26 - 1) = r := by rw [e1, t7]
  rw [it_pop hp, e1]
  have e26 : nF (sF σ 26 (nI d)) 26 = d := nF_of (show (sF σ 26 (nI d)).2 26 = nI d from rfl) (by omega)
  refine ⟨RUx_ok ⟨Inv_cor2 h.1 (cor_F (Or.inr (by decide))), h.2.1, ⟨by rw [e26]; rfl, by omega⟩, fun i hi => h.2.2.2 i (by omega)⟩, Nat.le_refl _, Nat.le_refl _, fun i hi => ⟨rfl, rfl⟩, fun _ => ?_, by show nF σ 26 ≤ nF (sF σ 26 (nI d)) 26 + 1; rw [e26, hd]; exact Nat.le_refl _⟩
  exact pot_of rfl (by rw [e26, hd]; exact Nat.lt_succ_self d)
theorem TI_end {u : Nat} {σ : MS} (h : RV u σ) (hh : 0 < nF σ 26) (hp : ¬ nA σ 8 (nA σ 22 (nF σ 26 - 1)) < nA σ 23 (nF σ 26 - 1)) (hs : nA σ 18 u = 1000) : TI u σ (S_it u σ) := by
  obtain ⟨d, hd⟩ : ∃ d, nF σ 26 = d + 1 := ⟨nF σ 26 - 1, by omega⟩
  have e1 : nF σ 26 - 1 = d := by omega
  have hu8 : u ≤ 8 := Nat.le_trans h.2.1.2 h.1.nu.2
  have h18 := h.1.st hu8
  have h11 := h.2.2.1.2
  obtain ⟨c, r, t1, t2, t3, t4, t5, t6, t7, t8, t9, t10⟩ := h.top hd
  have hc40 := h.1.nc.2
  have h8 := (h.1.cr (c := c) (by omega)).2
  have ec : nA σ 22 (nF σ 26 - 1) = c := by rw [e1, t1]
  have er : nA σ 23 (nF σ 26 - 1) = r := by rw [e1, t7]
  rw [it_end hp hs]
  refine ⟨RUx_no (Inv_cor2 (Inv_16 h.1 h.2.1.2 _) (cor_A (by decide))) (by decide) (by decide), Nat.le_refl _, Nat.le_refl _, fun i hi => ⟨rfl, sA_n (by omega)⟩, fun h9 => absurd h9 (show ¬ (7 : Int32) = 0 by decide), Nat.le_succ _⟩
theorem TI_row {u : Nat} {σ : MS} (h : RV u σ) (hh : 0 < nF σ 26) (hp : ¬ nA σ 8 (nA σ 22 (nF σ 26 - 1)) < nA σ 23 (nF σ 26 - 1)) (hs : ¬ nA σ 18 u = 1000) : TI u σ (S_it u σ) := by
  obtain ⟨d, hd⟩ : ∃ d, nF σ 26 = d + 1 := ⟨nF σ 26 - 1, by omega⟩
  have e1 : nF σ 26 - 1 = d := by omega
  have hu8 : u ≤ 8 := Nat.le_trans h.2.1.2 h.1.nu.2
  have h18 := h.1.st hu8
  have h11 := h.2.2.1.2
  obtain ⟨c, r, t1, t2, t3, t4, t5, t6, t7, t8, t9, t10⟩ := h.top hd
  have hc40 := h.1.nc.2
  have h8 := (h.1.cr (c := c) (by omega)).2
  have ec : nA σ 22 (nF σ 26 - 1) = c := by rw [e1, t1]
  have er : nA σ 23 (nF σ 26 - 1) = r := by rw [e1, t7]
  rw [it_row hp hs]
  have hr60 : r ≤ 60 := by rw [ec, er] at hp; omega
  obtain ⟨hT, hT2⟩ := RV_sTk h hd t7 hr60 hs
  have k23 : ∀ i, i + 1 < nF σ 26 → (sTk u σ).1 23 i = σ.1 23 i := fun i hi => sTk_23 u σ (by omega)
  have hV : rowV (nA (sTk u σ) 0 (nA (sTk u σ) 7 c)) (prO (sTk u σ) (nA (sTk u σ) 7 c) r).1 (prO (sTk u σ) (nA (sTk u σ) 7 c) r).2.1 (prO (sTk u σ) (nA (sTk u σ) 7 c) r).2.2 := by
    rw [sTk_n u σ (by decide) (by decide) (by decide), sTk_n u σ (by decide) (by decide) (by decide), sTk_p]
    exact row_V h t3.1 t3.2 t9 (by rw [ec, er] at hp; omega)
  rw [ec, er]
  unfold S_step
  rw [show nA (sTk u σ) 6 c = u from (sTk_n u σ (by decide) (by decide) (by decide) c).trans t4]
  obtain ⟨τ, hτ⟩ : ∃ τ, sTk u σ = τ := ⟨_, rfl⟩
  have e3 : nF τ 3 = nF σ 3 := by rw [← hτ]; exact nF_e (congrFun (sTk_fld u σ) 3)
  have e26 : nF τ 26 = nF σ 26 := by rw [← hτ]; exact nF_e (congrFun (sTk_fld u σ) 26)
  have k22 : ∀ i, τ.1 22 i = σ.1 22 i := fun i => by rw [← hτ, sTk_arr u σ (by decide) (by decide) (by decide)]
  rw [hτ] at hT hT2 k23 hV ⊢
  by_cases ho : (prO τ (nA τ 7 c) r).1 = 10
  · have hC := SC_called hT (prO τ (nA τ 7 c) r).2.1
    rw [ho, show S_stepO τ u (nA τ 7 c) 10 (prO τ (nA τ 7 c) r).2.1 (prO τ (nA τ 7 c) r).2.2 = S_called τ u (prO τ (nA τ 7 c) r).2.1 from rfl]
    refine ⟨hC.1, by rw [← e3]; exact hC.2.1, by rw [hC.2.2.2.1, hT2]; omega, fun i hi => ⟨((hC.2.2.2.2.1 i (by omega)).1).trans (k22 i), ((hC.2.2.2.2.1 i (by omega)).2).trans (k23 i hi)⟩, fun _ => ?_, by rw [← e26]; exact Nat.le_succ_of_le hC.2.2.2.2.2⟩
    exact pot_of2 (hC.2.2.2.1.trans hT2) (by omega) (by rw [← e26]; exact hC.2.2.1)
  · have hO := SO_step (p := nA τ 7 c) hT (by omega) hV ho
    refine ⟨hO.1, by rw [← e3, hO.2.1]; exact Nat.le_refl _, by rw [hO.2.2.2.1, hT2]; omega, fun i hi => ⟨(hO.2.2.2.2.1 i).trans (k22 i), (hO.2.2.2.2.2 i (by omega)).trans (k23 i hi)⟩, fun _ => ?_, by rw [← e26, ← nF_e hO.2.2.1]; exact Nat.le_succ _⟩
    exact pot_of2 (hO.2.2.2.1.trans hT2) (by omega) (by rw [← e26]; unfold nF; rw [hO.2.2.1]; exact Nat.le_succ _)
theorem TI_it {u : Nat} {σ : MS} (h : RV u σ) (hh : 0 < nF σ 26) : TI u σ (S_it u σ) := by
  by_cases hp : nA σ 8 (nA σ 22 (nF σ 26 - 1)) < nA σ 23 (nF σ 26 - 1)
  · exact TI_pop h hh hp
  · by_cases hs : nA σ 18 u = 1000
    · exact TI_end h hh hp hs
    · exact TI_row h hh hp hs
/-- many turns -/
theorem TI_many {u d : Nat} : ∀ (n : Nat) {x : Int32 × MS}, RUx u x → RUx u (itD u d n x) ∧ nF x.2 3 ≤ nF (itD u d n x).2 3 ∧ nA x.2 18 u ≤ nA (itD u d n x).2 18 u ∧ (∀ i, i < d → (itD u d n x).2.1 22 i = x.2.1 22 i ∧ (itD u d n x).2.1 23 i = x.2.1 23 i) ∧ (d ≤ nF x.2 26 → d ≤ nF (itD u d n x).2 26)
  | 0, x, h => ⟨h, Nat.le_refl _, Nat.le_refl _, fun _ _ => ⟨rfl, rfl⟩, fun h9 => h9⟩
  | n + 1, x, h => by
    by_cases hg : x.1 = 0 ∧ d < nF x.2 26
    · rw [itD_next hg]
      have hT := TI_it (h.1 hg.1) (by omega)
      have ih := TI_many (d := d) n hT.1
      exact ⟨ih.1, Nat.le_trans hT.2.1 ih.2.1, Nat.le_trans hT.2.2.1 ih.2.2.1, fun i hi => ⟨((ih.2.2.2.1 i hi).1).trans (hT.2.2.2.1 i (by omega)).1, ((ih.2.2.2.1 i hi).2).trans (hT.2.2.2.1 i (by omega)).2⟩, fun _ => ih.2.2.2.2 (by have := hT.2.2.2.2.2; omega)⟩
    · rw [itD_stop hg]
      exact ⟨h, Nat.le_refl _, Nat.le_refl _, fun _ _ => ⟨rfl, rfl⟩, fun h9 => h9⟩
theorem TI_ends {u d : Nat} : ∀ (m : Nat) {x : Int32 × MS}, RUx u x → pot u x.2 ≤ m → doneD d (itD u d m x)
  | 0, x, h, hm => fun h9 => by
    have : nF x.2 26 ≤ pot u x.2 := Nat.le_add_left _ _
    have h9 : x.1 = 0 ∧ d < nF x.2 26 := h9
    omega
  | m + 1, x, h, hm => by
    by_cases hg : x.1 = 0 ∧ d < nF x.2 26
    · rw [itD_next hg]
      have hT := TI_it (h.1 hg.1) (by omega)
      by_cases h0 : (S_it u x.2).1 = 0
      · exact TI_ends m hT.1 (by have := hT.2.2.2.2.1 h0; omega)
      · have : doneD d (S_it u x.2) := fun h9 => h0 h9.1
        rw [itD_stop this]
        exact this
    · rw [itD_stop hg]
      exact hg
/-- turns down to d + 1, then down to d -/
theorem it_split {u d : Nat} : ∀ (n : Nat) {x : Int32 × MS}, doneD d (itD u d n x) → ∃ m k : Nat, m + k = n ∧ doneD (d + 1) (itD u (d + 1) m x) ∧ itD u d n x = itD u d k (itD u (d + 1) m x)
  | 0, x, h => ⟨0, 0, rfl, fun h9 => h ⟨h9.1, Nat.lt_of_succ_lt h9.2⟩, rfl⟩
  | n + 1, x, h => by
    by_cases hg : x.1 = 0 ∧ d + 1 < nF x.2 26
    · have hg2 : x.1 = 0 ∧ d < nF x.2 26 := ⟨hg.1, by omega⟩
      rw [itD_next hg2] at h ⊢
      obtain ⟨m, k, h1, h2, h3⟩ := it_split n h
      exact ⟨m + 1, k, by omega, by rw [itD_next hg]; exact h2, by rw [itD_next hg]; exact h3⟩
    · exact ⟨0, n + 1, Nat.zero_add _, hg, rfl⟩
/-- the top frame's class is kept by a row -/
theorem step_top {u c r d : Nat} {τ : MS} (hT : RV u τ) (hd : nF τ 26 = d + 1) (hc1 : 1 ≤ c) (hc2 : c ≤ nF τ 3) (h6 : nA τ 6 c = u) (hr1 : 1 ≤ r) (hr2 : r ≤ nA τ 8 c) : RUx u (S_step τ c r) ∧ (S_step τ c r).2.1 22 d = τ.1 22 d ∧ nA (S_step τ c r).2 18 u = nA τ 18 u ∧ nF τ 3 ≤ nF (S_step τ c r).2 3 ∧ d + 1 ≤ nF (S_step τ c r).2 26 := by
  have hV := row_V hT hc1 hc2 hr1 hr2
  have hst : S_step τ c r = S_stepO τ u (nA τ 7 c) (prO τ (nA τ 7 c) r).1 (prO τ (nA τ 7 c) r).2.1 (prO τ (nA τ 7 c) r).2.2 := by unfold S_step; rw [h6]
  rw [hst]
  by_cases ho : (prO τ (nA τ 7 c) r).1 = 10
  · have hC := SC_called hT (prO τ (nA τ 7 c) r).2.1
    rw [ho, show S_stepO τ u (nA τ 7 c) 10 (prO τ (nA τ 7 c) r).2.1 (prO τ (nA τ 7 c) r).2.2 = S_called τ u (prO τ (nA τ 7 c) r).2.1 from rfl]
    exact ⟨hC.1, (hC.2.2.2.2.1 d (by omega)).1, hC.2.2.2.1, hC.2.1, by rw [← hd]; exact hC.2.2.2.2.2⟩
  · have hO := SO_step (p := nA τ 7 c) hT (by omega) hV ho
    exact ⟨hO.1, hO.2.2.2.2.1 d, hO.2.2.2.1, by rw [hO.2.1]; exact Nat.le_refl _, by rw [← hd, nF_e hO.2.2.1]; exact Nat.le_refl _⟩
theorem RV_RI {u : Nat} {σ : MS} (h : RV u σ) (hh : 0 < nF σ 26) : RI u σ := by
  obtain ⟨d, hd⟩ : ∃ d, nF σ 26 = d + 1 := ⟨nF σ 26 - 1, by omega⟩
  obtain ⟨c, r, t1, t2, t3, t4, t5, t6, t7, t8, t9, t10⟩ := h.top hd
  have hu8 : u ≤ 8 := Nat.le_trans h.2.1.2 h.1.nu.2
  have hc40 := h.1.nc.2
  have h11 := h.2.2.1
  have hcl := h.1.cls c t3.1 t3.2
  have hp := h.1.cp (c := c) (by omega)
  have hn := h.1.cr (c := c) (by omega)
  have h12 := h.1.np.2
  have hz := h.1.sz (p := nA σ 7 c) (by omega)
  refine ⟨d, c, r, nA σ 7 c, nA σ 0 (nA σ 7 c), nA σ 8 c, nA σ 18 u, by rw [← hd]; exact h11.1, by omega, t2, by omega, t8, t9, by omega, by rw [(h.1.cu (c := c) (by omega)).1, t4], hp.1, hcl.2.1.1, hp.2, hn.1, hn.2, hz.1, hz.2, fun hr => row_V h t3.1 t3.2 t9 hr, (h.1.st hu8).1, (h.1.st hu8).2, h.1.1, fun p hp1 hp2 hl => ?_⟩
  have hq := (h.1.lat u p h.2.1.1 hu8 hp1 (by omega)).resolve_left (by omega)
  have h40 : nA σ 14 (13 * u + p) ≤ 40 := by omega
  exact ⟨by rw [(h.1.cu h40).1, hq.2.1], p, by rw [(h.1.cp h40).1, hq.2.2], hp1, by omega⟩
theorem RUx_RA {u : Nat} {x : Int32 × MS} (h : RUx u x) : RA u x := fun k h0 => by
  have h1 := ((TI_many (d := 0) k h).1).1 h0
  exact ⟨⟨_, h1.2.2.1.1, h1.2.2.1.2⟩, fun hh => RV_RI h1 hh⟩
