theorem st_w {σ : MS} {u p z : Nat} {o a b : Int32} (hV : rowV z o a b) (ho : o ≠ 8 ∧ o ≠ 9 ∧ o ≠ 10 ∧ o ≠ 11 ∧ o ≠ 12) : ((S_stepO σ u p o a b).2 = σ ∨ ∃ i v, (S_stepO σ u p o a b).2 = sA σ 20 i v) ∧ ((S_stepO σ u p o a b).1 = 0 ∨ (S_stepO σ u p o a b).1 = 1 ∨ (S_stepO σ u p o a b).1 = 2 ∨ (S_stepO σ u p o a b).1 = 4) := by
  have hb : ∀ (i : Nat) (v : Int32), (((0, sA σ 20 i v) : Int32 × MS).2 = σ ∨ ∃ i2 v2, ((0, sA σ 20 i v) : Int32 × MS).2 = sA σ 20 i2 v2) ∧ (((0, sA σ 20 i v) : Int32 × MS).1 = 0 ∨ ((0, sA σ 20 i v) : Int32 × MS).1 = 1 ∨ ((0, sA σ 20 i v) : Int32 × MS).1 = 2 ∨ ((0, sA σ 20 i v) : Int32 × MS).1 = 4) := fun i v => ⟨Or.inr ⟨i, v, rfl⟩, Or.inl rfl⟩
  rcases op_cs hV.1 with rfl | rfl | rfl | rfl | rfl | rfl | rfl | rfl | rfl | rfl | rfl | rfl | rfl | rfl
  · exact hb _ _
  · exact hb _ _
  · exact hb _ _
  · exact hb _ _
  · exact hb _ _
  · rw [show S_stepO σ u p 5 a b = if σ.1 20 (wk u p b.toNatClampNeg) = 0 then (1, σ) else (0, sA σ 20 (wk u p a.toNatClampNeg) (σ.1 20 (wk u p a.toNatClampNeg) / σ.1 20 (wk u p b.toNatClampNeg)).toInt8.toInt32) from rfl]
    split
    · exact ⟨Or.inl rfl, Or.inr (Or.inl rfl)⟩
    · exact hb _ _
  · rw [show S_stepO σ u p 6 a b = if σ.1 20 (wk u p b.toNatClampNeg) = 0 then (1, σ) else (0, sA σ 20 (wk u p a.toNatClampNeg) (σ.1 20 (wk u p a.toNatClampNeg) - σ.1 20 (wk u p a.toNatClampNeg) / σ.1 20 (wk u p b.toNatClampNeg) * σ.1 20 (wk u p b.toNatClampNeg)).toInt8.toInt32) from rfl]
    split
    · exact ⟨Or.inl rfl, Or.inr (Or.inl rfl)⟩
    · exact hb _ _
  · rw [show S_stepO σ u p 7 a b = if σ.1 20 (wk u p a.toNatClampNeg) < 0 then (2, σ) else if σ.1 20 (wk u p a.toNatClampNeg) < σ.1 0 p then (0, sA σ 20 (wk u p (σ.1 20 (wk u p a.toNatClampNeg)).toNatClampNeg) (σ.1 20 (wk u p b.toNatClampNeg)).toInt8.toInt32) else (2, σ) from rfl]
    split
    · exact ⟨Or.inl rfl, Or.inr (Or.inr (Or.inl rfl))⟩
    · split
      · exact hb _ _
      · exact ⟨Or.inl rfl, Or.inr (Or.inr (Or.inl rfl))⟩
  · exact absurd rfl ho.1
  · exact absurd rfl ho.2.1
  · exact absurd rfl ho.2.2.1
  · exact absurd rfl ho.2.2.2.1
  · exact absurd rfl ho.2.2.2.2
  · rw [show S_stepO σ u p 13 a b = if σ.1 20 (wk u p a.toNatClampNeg) ≤ b then (0, σ) else (4, σ) from rfl]
    split
    · exact ⟨Or.inl rfl, Or.inl rfl⟩
    · exact ⟨Or.inl rfl, Or.inr (Or.inr (Or.inr rfl))⟩
set_option maxHeartbeats 4000000 in
set_option maxRecDepth 100000 in
theorem x_follow (l : Launch) (D : va_G) (K : Nat → ClassId) (L : List Nat) (f : Nat → va_E) (ad : AD) (κ : TG) (g : GX) (σ : MS) (hP : PX K L f ad κ g σ) (u c r d m : Nat) (y : Int32 × MS) (hL : Lk g σ u) (hV : RV u σ) (hc1 : 1 ≤ c) (hc2 : c ≤ nF σ 3) (h6 : nA σ 6 c = u) (hl : nA σ 14 (13 * u + nA σ 7 c) = c) (hs : ¬ σ.1 10 c = 0) (hr1 : 1 ≤ r) (hr2 : r ≤ nA σ 8 c) (h16 : σ.1 16 u = σ.1 7 c) (h23 : σ.1 23 d = nI (r + 1)) (hd : nF σ 26 = d + 1) (hd10 : d ≤ 10) (hIH : EnterC l D K u m) (hy : itD u (d + 1) m (S_step σ c r) = y) (hdone : doneD (d + 1) y) : Mc l yX1_follow (wM yX1_follow cX1_follow 7 (some .int)) (rmL (3 * (10 - d) + 6) (2 * (nF y.2 3 - nF σ 3)) (109 * (nF y.2 3 - nF σ 3))) D (yY K) [.ref (ad 2 0 0), .ref (ad 12 u 0), .ref (ad 15 c 0), .ref (ad 11 (nA σ 7 c) r), .int (nI r), .int (nI d)] (va_pl L f) (fun v w => v = some (.int (if y.1 = 0 then y.2.1 23 d else 0)) ∧ RO K ad g (nF σ 3) u y w) (2 * (nF y.2 3 - nF σ 3)) (109 * (nF y.2 3 - nF σ 3)) := by
  refine m_start (lv := [(0, .ref (ad 2 0 0)), (1, .ref (ad 12 u 0)), (2, .ref (ad 15 c 0)), (3, .ref (ad 11 (nA σ 7 c) r)), (4, .int (nI r)), (5, .int (nI d))]) rfl (Nat.le_of_ble_eq_true rfl) rfl (fun Γ hX hRm hnL hY hDD hLa hR hI hE => ?_)
  have hU : ∀ w ∈ wU, w ∈ wM yX1_follow cX1_follow 7 (some .int) := fun w h => wM_in h
  subst hLa
  subst hDD
  have hI := hV.1
  have hu1 := hV.2.1.1
  have hu2 := hV.2.1.2
  have hu8 : u ≤ 8 := Nat.le_trans hu2 hI.nu.2
  have h40 := hI.nc.2
  have hcl := hI.cls c hc1 hc2
  have hp12 := hI.np.2
  have hr60 := (hI.cr (c := c) (by omega)).2
  have hRV := row_V hV hc1 hc2 hr1 hr2
  have h11 := px11 hP _ hcl.2.1.1 hcl.2.1.2 r hr1 (by omega)
  have hz := hI.sz (p := nA σ 7 c) (by omega)
  have hst : S_step σ c r = S_stepO σ u (nA σ 7 c) (prO σ (nA σ 7 c) r).1 (prO σ (nA σ 7 c) r).2.1 (prO σ (nA σ 7 c) r).2.2 := by unfold S_step; rw [h6]
  have hSO := fun ho => SO_step (p := nA σ 7 c) hV (by omega) hRV ho
  have hwork := fun ho => r_work (gLa Γ) (gD Γ) hP hI hL hu1 hu2 hc1 hc2 h6 hl hs hr1 hr2 ho
  have r11 : f (ad 11 (nA σ 7 c) r) = .inr (6, [.int (prO σ (nA σ 7 c) r).1, .int (prO σ (nA σ 7 c) r).2.1, .int (prO σ (nA σ 7 c) r).2.2]) := h11.2.2
  obtain ⟨o, ho⟩ : ∃ o, (prO σ (nA σ 7 c) r).1 = o := ⟨_, rfl⟩
  obtain ⟨a, ha⟩ : ∃ a, (prO σ (nA σ 7 c) r).2.1 = a := ⟨_, rfl⟩
  obtain ⟨b, hb⟩ : ∃ b, (prO σ (nA σ 7 c) r).2.2 = b := ⟨_, rfl⟩
  rw [ho, ha, hb] at hst hRV hSO r11
  rw [ho] at hwork
  by_cases ho10 : o = 10
  · obtain ⟨q, hq, hq1, hq12⟩ := hRV.2.2.2.2.1 ho10
    subst hq
    have hS10 : S_step σ c r = S_called σ u (nI q) := by rw [hst, ho10]; rfl
    have hC := SC_called hV (nI q)
    have hk23 : y.2.1 23 d = nI (r + 1) := by rw [← hy, hS10]; exact (((TI_many m hC.1).2.2.2.1 d (by omega)).2).trans (((hC.2.2.2.2.1 d (by omega)).2).trans h23)
    rw [hS10] at hy
    by_cases hy0 : y.1 = 0
    · have r2_1 : f (ad 2 0 0) = .inr (3, [.ref (ad 1 0 0)]) := (px2 hP).2.2
      have r12_2 : f (ad 12 u 0) = .inr (7, [.ref (ad 13 u 0), .ref (ad 14 u 0), .int (σ.1 12 u), .int (σ.1 13 u), .int (gfl g u), .int (geb g u), .int (σ.1 17 u), .int (σ.1 18 u), .int (nI (nA σ 19 u))]) := (px12 hP u hu1 hu2).2.2
      have r15_3 : f (ad 15 c 0) = .inr (4, [.int (nI c), .ref (ad 12 (nA σ 6 c) 0), .ref (ad 9 (nA σ 7 c) 0), .int (nI (nA σ 8 c)), .ref (ad 16 c 0), va_rf (if gfa g c = true then some (ad 17 c 0) else none), .int (gsd g c), .int (σ.1 11 c), .int (σ.1 9 c)]) := (px15 hP c hc1 hc2).2.2
      have r9_4 : f (ad 9 (nA σ 7 c) 0) = .inr (5, [.int (nI (nA σ 7 c)), .int (nI (nA σ 0 (nA σ 7 c))), .int (σ.1 5 (nA σ 7 c)), .ref (ad 10 (nA σ 7 c) 0), .int (nI (nA σ 1 (nA σ 7 c)))]) := (px9 hP _ hcl.2.1.1 hcl.2.1.2).2.2
      refine g_aload_n (n := 1) hX dX1_follow_0 rfl rfl rfl ?_
      refine g_pget (n := 4) ux_X4 rfl hX hU dX1_follow_1 rfl h11.1 r11 0 rfl uf_X1_42 rfl ?_
      refine g_tableIn (n := 68) (off := 64) hX dX1_follow_4 (by rw [ho10]; decide) (by rw [ho10]; decide) (by rw [ho10]; rfl) (by decide) ?_
      refine g_aload_n (n := 69) hX dX1_follow_68 rfl rfl rfl ?_
      refine g_aload_n (n := 70) hX dX1_follow_69 rfl rfl rfl ?_
      refine g_aload_n (n := 71) hX dX1_follow_70 rfl rfl rfl ?_
      refine g_aload_n (n := 72) hX dX1_follow_71 rfl rfl rfl ?_
      refine g_pget (n := 75) ux_X4 rfl hX hU dX1_follow_72 rfl h11.1 r11 1 rfl uf_X1_48 rfl ?_
      refine g_iload (n := 77) hX dX1_follow_75 rfl rfl ?_
      refine g_pcallV (n := 80) (As := [.ref (ad 12 u 0), .ref (ad 15 c 0), .int (nI q), .int (nI d)]) (rest := []) hX hE hU hY dX1_follow_77 rfl yv_X1_callProgram um_X1_58 (x_callProgram _ _ K L f ad κ g σ hP u c d q m y hL hV hc1 hc2 h16 hq1 hq12 hd hd10 hIH hy hdone) ⟨rfl, rfl⟩ (rm_lt hRm (by omega) rfl) rfl (px2 hP).1 r2_1 rfl rfl rfl (Nat.le_of_ble_eq_true rfl) ⟨by rw [hRm, Nat.zero_add]; exact Nat.le_refl _, by rw [hRm, Nat.zero_add]; exact Nat.le_refl _⟩ (fun v0 w0 hq0 => ?_)
      obtain ⟨rfl, hRO⟩ := hq0
      show G Γ (w0) (0 + 2 * (nF y.2 3 - nF σ 3)) (0 + 109 * (nF y.2 3 - nF σ 3)) 80 [(0, .ref (ad 2 0 0)), (1, .ref (ad 12 u 0)), (2, .ref (ad 15 c 0)), (3, .ref (ad 11 (nA σ 7 c) r)), (4, .int (nI r)), (5, .int (nI d))] [.int (bI (y.1 = 0))]
      rw [Nat.zero_add, Nat.zero_add]
      refine g_if_eq (n := 83) (tgt := 90) hX dX1_follow_80 rfl (by decide) (fun c80 => absurd c80 (by rw [bI_t hy0]; decide)) (fun c80 => ?_)
      refine g_iload (n := 85) hX dX1_follow_83 rfl rfl ?_
      refine g_iconst (n := 86) (v := 1) hX dX1_follow_85 rfl rfl ?_
      refine g_iadd (n := 87) (v := nI (r + 1)) hX dX1_follow_86 rfl (nI_1 r) ?_
      refine g_goto (n := 91) hX dX1_follow_87 (by decide) ?_
      exact g_iret hX hR dX1_follow_91 ⟨by rw [if_pos hy0, hk23], hRO⟩
    · have r2_5 : f (ad 2 0 0) = .inr (3, [.ref (ad 1 0 0)]) := (px2 hP).2.2
      have r12_6 : f (ad 12 u 0) = .inr (7, [.ref (ad 13 u 0), .ref (ad 14 u 0), .int (σ.1 12 u), .int (σ.1 13 u), .int (gfl g u), .int (geb g u), .int (σ.1 17 u), .int (σ.1 18 u), .int (nI (nA σ 19 u))]) := (px12 hP u hu1 hu2).2.2
      have r15_7 : f (ad 15 c 0) = .inr (4, [.int (nI c), .ref (ad 12 (nA σ 6 c) 0), .ref (ad 9 (nA σ 7 c) 0), .int (nI (nA σ 8 c)), .ref (ad 16 c 0), va_rf (if gfa g c = true then some (ad 17 c 0) else none), .int (gsd g c), .int (σ.1 11 c), .int (σ.1 9 c)]) := (px15 hP c hc1 hc2).2.2
      have r9_8 : f (ad 9 (nA σ 7 c) 0) = .inr (5, [.int (nI (nA σ 7 c)), .int (nI (nA σ 0 (nA σ 7 c))), .int (σ.1 5 (nA σ 7 c)), .ref (ad 10 (nA σ 7 c) 0), .int (nI (nA σ 1 (nA σ 7 c)))]) := (px9 hP _ hcl.2.1.1 hcl.2.1.2).2.2
      refine g_aload_n (n := 1) hX dX1_follow_0 rfl rfl rfl ?_
      refine g_pget (n := 4) ux_X4 rfl hX hU dX1_follow_1 rfl h11.1 r11 0 rfl uf_X1_42 rfl ?_
      refine g_tableIn (n := 68) (off := 64) hX dX1_follow_4 (by rw [ho10]; decide) (by rw [ho10]; decide) (by rw [ho10]; rfl) (by decide) ?_
      refine g_aload_n (n := 69) hX dX1_follow_68 rfl rfl rfl ?_
      refine g_aload_n (n := 70) hX dX1_follow_69 rfl rfl rfl ?_
      refine g_aload_n (n := 71) hX dX1_follow_70 rfl rfl rfl ?_
      refine g_aload_n (n := 72) hX dX1_follow_71 rfl rfl rfl ?_
      refine g_pget (n := 75) ux_X4 rfl hX hU dX1_follow_72 rfl h11.1 r11 1 rfl uf_X1_48 rfl ?_
      refine g_iload (n := 77) hX dX1_follow_75 rfl rfl ?_
      refine g_pcallV (n := 80) (As := [.ref (ad 12 u 0), .ref (ad 15 c 0), .int (nI q), .int (nI d)]) (rest := []) hX hE hU hY dX1_follow_77 rfl yv_X1_callProgram um_X1_58 (x_callProgram _ _ K L f ad κ g σ hP u c d q m y hL hV hc1 hc2 h16 hq1 hq12 hd hd10 hIH hy hdone) ⟨rfl, rfl⟩ (rm_lt hRm (by omega) rfl) rfl (px2 hP).1 r2_5 rfl rfl rfl (Nat.le_of_ble_eq_true rfl) ⟨by rw [hRm, Nat.zero_add]; exact Nat.le_refl _, by rw [hRm, Nat.zero_add]; exact Nat.le_refl _⟩ (fun v0 w0 hq0 => ?_)
      obtain ⟨rfl, hRO⟩ := hq0
      show G Γ (w0) (0 + 2 * (nF y.2 3 - nF σ 3)) (0 + 109 * (nF y.2 3 - nF σ 3)) 80 [(0, .ref (ad 2 0 0)), (1, .ref (ad 12 u 0)), (2, .ref (ad 15 c 0)), (3, .ref (ad 11 (nA σ 7 c) r)), (4, .int (nI r)), (5, .int (nI d))] [.int (bI (y.1 = 0))]
      rw [Nat.zero_add, Nat.zero_add]
      refine g_if_eq (n := 83) (tgt := 90) hX dX1_follow_80 rfl (by decide) (fun c80 => ?_) (fun c80 => absurd (bI_f hy0) c80)
      refine g_iconst (n := 91) (v := 0) hX dX1_follow_90 rfl rfl ?_
      exact g_iret hX hR dX1_follow_91 ⟨by rw [if_neg hy0], hRO⟩
  · have hS := hSO ho10
    rw [← hst] at hS
    have hye : S_step σ c r = y := by rw [← hy]; exact (itD_stop (fun h9 => by have h8 := h9.2; rw [nF_e hS.2.2.1, hd] at h8; omega)).symm
    by_cases ho8 : o = 8
    · obtain ⟨n, hn, hnz⟩ := hRV.2.1 (Or.inr (Or.inr (Or.inl ho8)))
      subst hn
      have hW := ((hL.2.2.1 c hc1 hc2 (by rw [h6]; exact hl)).2 hs n hnz).trans (by rw [h6])
      have hval : (if 0 ≤ nI n ∧ nI n < nI (nA σ 0 (nA σ 7 c)) then gW g c (nI n).toNatClampNeg else 0) = σ.1 20 (wk u (nA σ 7 c) n) := (vB_at hnz hz.2).trans hW
      have e8 : S_step σ c r = if σ.1 20 (wk u (nA σ 7 c) n) = 0 then (0, sA σ 23 d b) else (0, σ) := by rw [hst, ho8, show S_stepO σ u (nA σ 7 c) 8 (nI n) b = if σ.1 20 (wk u (nA σ 7 c) (nI n).toNatClampNeg) = 0 then (0, sA σ 23 (nF σ 26 - 1) b) else (0, σ) from rfl, nI_clamp (by omega), hd, Nat.add_sub_cancel]
      by_cases h0 : σ.1 20 (wk u (nA σ 7 c) n) = 0
      · have hyv : y = (0, sA σ 23 d b) := by rw [← hye, e8, if_pos h0]
        have r2_9 : f (ad 2 0 0) = .inr (3, [.ref (ad 1 0 0)]) := (px2 hP).2.2
        have r12_10 : f (ad 12 u 0) = .inr (7, [.ref (ad 13 u 0), .ref (ad 14 u 0), .int (σ.1 12 u), .int (σ.1 13 u), .int (gfl g u), .int (geb g u), .int (σ.1 17 u), .int (σ.1 18 u), .int (nI (nA σ 19 u))]) := (px12 hP u hu1 hu2).2.2
        have r15_11 : f (ad 15 c 0) = .inr (4, [.int (nI c), .ref (ad 12 (nA σ 6 c) 0), .ref (ad 9 (nA σ 7 c) 0), .int (nI (nA σ 8 c)), .ref (ad 16 c 0), va_rf (if gfa g c = true then some (ad 17 c 0) else none), .int (gsd g c), .int (σ.1 11 c), .int (σ.1 9 c)]) := (px15 hP c hc1 hc2).2.2
        have r9_12 : f (ad 9 (nA σ 7 c) 0) = .inr (5, [.int (nI (nA σ 7 c)), .int (nI (nA σ 0 (nA σ 7 c))), .int (σ.1 5 (nA σ 7 c)), .ref (ad 10 (nA σ 7 c) 0), .int (nI (nA σ 1 (nA σ 7 c)))]) := (px9 hP _ hcl.2.1.1 hcl.2.1.2).2.2
        refine g_aload_n (n := 1) hX dX1_follow_0 rfl rfl rfl ?_
        refine g_pget (n := 4) ux_X4 rfl hX hU dX1_follow_1 rfl h11.1 r11 0 rfl uf_X1_42 rfl ?_
        refine g_tableIn (n := 40) (off := 36) hX dX1_follow_4 (by rw [ho8]; decide) (by rw [ho8]; decide) (by rw [ho8]; rfl) (by decide) ?_
        refine g_aload_n (n := 41) hX dX1_follow_40 rfl rfl rfl ?_
        refine g_aload_n (n := 42) hX dX1_follow_41 rfl rfl rfl ?_
        refine g_pget (n := 45) ux_X4 rfl hX hU dX1_follow_42 rfl h11.1 r11 1 rfl uf_X1_48 rfl ?_
        refine g_pcallV (n := 48) (As := [.int (nI n)]) (rest := []) hX hE hU hY dX1_follow_45 rfl yv_X2_valueOf um_X1_51 (x_valueOf _ _ K L f (nI n) (ad 15 c 0) (nA σ 0 (nA σ 7 c)) (gW g c) (ad 12 (nA σ 6 c) 0) (ad 9 (nA σ 7 c) 0) (ad 16 c 0) (if gfa g c = true then some (ad 17 c 0) else none) (nI c) (nI (nA σ 8 c)) (gsd g c) (σ.1 11 c) (σ.1 9 c) (px15 hP c hc1 hc2).1 (px15 hP c hc1 hc2).2.2 (px16 hP c hc1 hc2).1 (px16 hP c hc1 hc2).2.2 hz.2) ⟨rfl, rfl⟩ (rm_lt hRm (by omega) rfl) rfl (px15 hP c hc1 hc2).1 r15_11 rfl rfl rfl (Nat.le_of_ble_eq_true rfl) ⟨Nat.zero_le _, Nat.zero_le _⟩ (fun v0 w0 hq0 => ?_)
        rw [hval] at hq0; obtain ⟨rfl, rfl⟩ := hq0
        show G Γ (va_pl L f) 0 0 48 [(0, .ref (ad 2 0 0)), (1, .ref (ad 12 u 0)), (2, .ref (ad 15 c 0)), (3, .ref (ad 11 (nA σ 7 c) r)), (4, .int (nI r)), (5, .int (nI d))] [.int (σ.1 20 (wk u (nA σ 7 c) n))]
        refine g_if_ne (n := 51) (tgt := 58) hX dX1_follow_48 rfl (by decide) (fun c48 => absurd h0 c48) (fun c48 => ?_)
        refine g_aload_n (n := 52) hX dX1_follow_51 rfl rfl rfl ?_
        refine g_pget (n := 55) ux_X4 rfl hX hU dX1_follow_52 rfl h11.1 r11 2 rfl uf_X1_55 rfl ?_
        refine g_goto (n := 62) hX dX1_follow_55 (by decide) ?_
        refine g_widen (kc' := 2 * (nF y.2 3 - nF σ 3)) (ks' := 109 * (nF y.2 3 - nF σ 3)) (Nat.zero_le _) (Nat.zero_le _) ?_
        exact g_iret hX hR dX1_follow_62 ⟨by rw [hyv, if_pos rfl]; exact congrArg (fun z => some (Value.int z)) (sA_s σ 23 d b).symm, by rw [hyv]; exact ⟨L, f, ad, κ, g, rfl, PX_c hP (cor_A (by decide)), Lk_c hL (cor_A (by decide)), EX_rf ad _, gEn_0 g u _⟩⟩
      · have hyv : y = (0, σ) := by rw [← hye, e8, if_neg h0]
        have r2_13 : f (ad 2 0 0) = .inr (3, [.ref (ad 1 0 0)]) := (px2 hP).2.2
        have r12_14 : f (ad 12 u 0) = .inr (7, [.ref (ad 13 u 0), .ref (ad 14 u 0), .int (σ.1 12 u), .int (σ.1 13 u), .int (gfl g u), .int (geb g u), .int (σ.1 17 u), .int (σ.1 18 u), .int (nI (nA σ 19 u))]) := (px12 hP u hu1 hu2).2.2
        have r15_15 : f (ad 15 c 0) = .inr (4, [.int (nI c), .ref (ad 12 (nA σ 6 c) 0), .ref (ad 9 (nA σ 7 c) 0), .int (nI (nA σ 8 c)), .ref (ad 16 c 0), va_rf (if gfa g c = true then some (ad 17 c 0) else none), .int (gsd g c), .int (σ.1 11 c), .int (σ.1 9 c)]) := (px15 hP c hc1 hc2).2.2
        have r9_16 : f (ad 9 (nA σ 7 c) 0) = .inr (5, [.int (nI (nA σ 7 c)), .int (nI (nA σ 0 (nA σ 7 c))), .int (σ.1 5 (nA σ 7 c)), .ref (ad 10 (nA σ 7 c) 0), .int (nI (nA σ 1 (nA σ 7 c)))]) := (px9 hP _ hcl.2.1.1 hcl.2.1.2).2.2
        refine g_aload_n (n := 1) hX dX1_follow_0 rfl rfl rfl ?_
        refine g_pget (n := 4) ux_X4 rfl hX hU dX1_follow_1 rfl h11.1 r11 0 rfl uf_X1_42 rfl ?_
        refine g_tableIn (n := 40) (off := 36) hX dX1_follow_4 (by rw [ho8]; decide) (by rw [ho8]; decide) (by rw [ho8]; rfl) (by decide) ?_
        refine g_aload_n (n := 41) hX dX1_follow_40 rfl rfl rfl ?_
        refine g_aload_n (n := 42) hX dX1_follow_41 rfl rfl rfl ?_
        refine g_pget (n := 45) ux_X4 rfl hX hU dX1_follow_42 rfl h11.1 r11 1 rfl uf_X1_48 rfl ?_
        refine g_pcallV (n := 48) (As := [.int (nI n)]) (rest := []) hX hE hU hY dX1_follow_45 rfl yv_X2_valueOf um_X1_51 (x_valueOf _ _ K L f (nI n) (ad 15 c 0) (nA σ 0 (nA σ 7 c)) (gW g c) (ad 12 (nA σ 6 c) 0) (ad 9 (nA σ 7 c) 0) (ad 16 c 0) (if gfa g c = true then some (ad 17 c 0) else none) (nI c) (nI (nA σ 8 c)) (gsd g c) (σ.1 11 c) (σ.1 9 c) (px15 hP c hc1 hc2).1 (px15 hP c hc1 hc2).2.2 (px16 hP c hc1 hc2).1 (px16 hP c hc1 hc2).2.2 hz.2) ⟨rfl, rfl⟩ (rm_lt hRm (by omega) rfl) rfl (px15 hP c hc1 hc2).1 r15_15 rfl rfl rfl (Nat.le_of_ble_eq_true rfl) ⟨Nat.zero_le _, Nat.zero_le _⟩ (fun v0 w0 hq0 => ?_)
        rw [hval] at hq0; obtain ⟨rfl, rfl⟩ := hq0
        show G Γ (va_pl L f) 0 0 48 [(0, .ref (ad 2 0 0)), (1, .ref (ad 12 u 0)), (2, .ref (ad 15 c 0)), (3, .ref (ad 11 (nA σ 7 c) r)), (4, .int (nI r)), (5, .int (nI d))] [.int (σ.1 20 (wk u (nA σ 7 c) n))]
        refine g_if_ne (n := 51) (tgt := 58) hX dX1_follow_48 rfl (by decide) (fun c48 => ?_) (fun c48 => absurd c48 h0)
        refine g_iload (n := 60) hX dX1_follow_58 rfl rfl ?_
        refine g_iconst (n := 61) (v := 1) hX dX1_follow_60 rfl rfl ?_
        refine g_iadd (n := 62) (v := nI (r + 1)) hX dX1_follow_61 rfl (nI_1 r) ?_
        refine g_widen (kc' := 2 * (nF y.2 3 - nF σ 3)) (ks' := 109 * (nF y.2 3 - nF σ 3)) (Nat.zero_le _) (Nat.zero_le _) ?_
        exact g_iret hX hR dX1_follow_62 ⟨by rw [hyv, if_pos rfl]; exact congrArg (fun z => some (Value.int z)) h23.symm, by rw [hyv]; exact ⟨L, f, ad, κ, g, rfl, hP, hL, EX_rf ad _, gEn_0 g u _⟩⟩
    · by_cases ho9 : o = 9
      · have hyv : y = (0, sA σ 23 d b) := by rw [← hye, hst, ho9, show S_stepO σ u (nA σ 7 c) 9 a b = (0, sA σ 23 (nF σ 26 - 1) b) from rfl, hd, Nat.add_sub_cancel]
        have r2_17 : f (ad 2 0 0) = .inr (3, [.ref (ad 1 0 0)]) := (px2 hP).2.2
        have r12_18 : f (ad 12 u 0) = .inr (7, [.ref (ad 13 u 0), .ref (ad 14 u 0), .int (σ.1 12 u), .int (σ.1 13 u), .int (gfl g u), .int (geb g u), .int (σ.1 17 u), .int (σ.1 18 u), .int (nI (nA σ 19 u))]) := (px12 hP u hu1 hu2).2.2
        have r15_19 : f (ad 15 c 0) = .inr (4, [.int (nI c), .ref (ad 12 (nA σ 6 c) 0), .ref (ad 9 (nA σ 7 c) 0), .int (nI (nA σ 8 c)), .ref (ad 16 c 0), va_rf (if gfa g c = true then some (ad 17 c 0) else none), .int (gsd g c), .int (σ.1 11 c), .int (σ.1 9 c)]) := (px15 hP c hc1 hc2).2.2
        have r9_20 : f (ad 9 (nA σ 7 c) 0) = .inr (5, [.int (nI (nA σ 7 c)), .int (nI (nA σ 0 (nA σ 7 c))), .int (σ.1 5 (nA σ 7 c)), .ref (ad 10 (nA σ 7 c) 0), .int (nI (nA σ 1 (nA σ 7 c)))]) := (px9 hP _ hcl.2.1.1 hcl.2.1.2).2.2
        refine g_aload_n (n := 1) hX dX1_follow_0 rfl rfl rfl ?_
        refine g_pget (n := 4) ux_X4 rfl hX hU dX1_follow_1 rfl h11.1 r11 0 rfl uf_X1_42 rfl ?_
        refine g_tableIn (n := 63) (off := 59) hX dX1_follow_4 (by rw [ho9]; decide) (by rw [ho9]; decide) (by rw [ho9]; rfl) (by decide) ?_
        refine g_aload_n (n := 64) hX dX1_follow_63 rfl rfl rfl ?_
        refine g_pget (n := 67) ux_X4 rfl hX hU dX1_follow_64 rfl h11.1 r11 2 rfl uf_X1_55 rfl ?_
        refine g_widen (kc' := 2 * (nF y.2 3 - nF σ 3)) (ks' := 109 * (nF y.2 3 - nF σ 3)) (Nat.zero_le _) (Nat.zero_le _) ?_
        exact g_iret hX hR dX1_follow_67 ⟨by rw [hyv, if_pos rfl]; exact congrArg (fun z => some (Value.int z)) (sA_s σ 23 d b).symm, by rw [hyv]; exact ⟨L, f, ad, κ, g, rfl, PX_c hP (cor_A (by decide)), Lk_c hL (cor_A (by decide)), EX_rf ad _, gEn_0 g u _⟩⟩
      · by_cases ho11 : o = 11
        · obtain ⟨n, hn, hn127⟩ := hRV.2.2.2.2.2.1 (Or.inl ho11)
          subst hn
          have hyv : (if 100 ≤ σ.1 19 u then (0, σ) else (0, sA (sA σ 21 (100 * u - 100 + nA σ 19 u) (nI n)) 19 u (nI (nA σ 19 u + 1)))) = y := by rw [← hye, hst, ho11]; rfl
          have hy0 : y.1 = 0 ∧ y.2.1 23 d = nI (r + 1) := by rw [← hyv]; split; exact ⟨rfl, h23⟩; exact ⟨rfl, h23⟩
          have hM := r_noteMark (gLa Γ) (gD Γ) hP hI hL hu1 hu2 hn127
          rw [hyv] at hM
          have r2_21 : f (ad 2 0 0) = .inr (3, [.ref (ad 1 0 0)]) := (px2 hP).2.2
          have r12_22 : f (ad 12 u 0) = .inr (7, [.ref (ad 13 u 0), .ref (ad 14 u 0), .int (σ.1 12 u), .int (σ.1 13 u), .int (gfl g u), .int (geb g u), .int (σ.1 17 u), .int (σ.1 18 u), .int (nI (nA σ 19 u))]) := (px12 hP u hu1 hu2).2.2
          have r15_23 : f (ad 15 c 0) = .inr (4, [.int (nI c), .ref (ad 12 (nA σ 6 c) 0), .ref (ad 9 (nA σ 7 c) 0), .int (nI (nA σ 8 c)), .ref (ad 16 c 0), va_rf (if gfa g c = true then some (ad 17 c 0) else none), .int (gsd g c), .int (σ.1 11 c), .int (σ.1 9 c)]) := (px15 hP c hc1 hc2).2.2
          have r9_24 : f (ad 9 (nA σ 7 c) 0) = .inr (5, [.int (nI (nA σ 7 c)), .int (nI (nA σ 0 (nA σ 7 c))), .int (σ.1 5 (nA σ 7 c)), .ref (ad 10 (nA σ 7 c) 0), .int (nI (nA σ 1 (nA σ 7 c)))]) := (px9 hP _ hcl.2.1.1 hcl.2.1.2).2.2
          refine g_aload_n (n := 1) hX dX1_follow_0 rfl rfl rfl ?_
          refine g_pget (n := 4) ux_X4 rfl hX hU dX1_follow_1 rfl h11.1 r11 0 rfl uf_X1_42 rfl ?_
          refine g_tableIn (n := 92) (off := 88) hX dX1_follow_4 (by rw [ho11]; decide) (by rw [ho11]; decide) (by rw [ho11]; rfl) (by decide) ?_
          refine g_aload_n (n := 93) hX dX1_follow_92 rfl rfl rfl ?_
          refine g_aload_n (n := 94) hX dX1_follow_93 rfl rfl rfl ?_
          refine g_pget (n := 97) ux_X4 rfl hX hU dX1_follow_94 rfl h11.1 r11 1 rfl uf_X1_48 rfl ?_
          refine g_pcallV (n := 100) (As := [.int (nI n)]) (rest := []) hX hE hU hY dX1_follow_97 rfl yv_X5_noteMark um_X1_62 hM ⟨rfl, rfl⟩ (rm_lt hRm (by omega) rfl) rfl (px12 hP u hu1 hu2).1 r12_22 rfl rfl rfl (Nat.le_of_ble_eq_true rfl) ⟨by rw [hRm]; exact Nat.zero_le _, by rw [hRm]; exact Nat.zero_le _⟩ (fun v0 w0 hq0 => ?_)
          obtain ⟨rfl, hRO⟩ := hq0
          show G Γ (w0) 0 0 100 [(0, .ref (ad 2 0 0)), (1, .ref (ad 12 u 0)), (2, .ref (ad 15 c 0)), (3, .ref (ad 11 (nA σ 7 c) r)), (4, .int (nI r)), (5, .int (nI d))] []
          refine g_iload (n := 102) hX dX1_follow_100 rfl rfl ?_
          refine g_iconst (n := 103) (v := 1) hX dX1_follow_102 rfl rfl ?_
          refine g_iadd (n := 104) (v := nI (r + 1)) hX dX1_follow_103 rfl (nI_1 r) ?_
          refine g_widen (kc' := 2 * (nF y.2 3 - nF σ 3)) (ks' := 109 * (nF y.2 3 - nF σ 3)) (Nat.zero_le _) (Nat.zero_le _) ?_
          exact g_iret hX hR dX1_follow_104 ⟨by rw [if_pos hy0.1, hy0.2], hRO⟩
        · by_cases ho12 : o = 12
          · have hyv : (99, sA (sA σ 17 u a) 12 u 1) = y := by rw [← hye, hst, ho12]; rfl
            have hy0 : ¬ y.1 = 0 := by rw [← hyv]; exact (show ¬ (99 : Int32) = 0 by decide)
            have hM := r_stop (gLa Γ) (gD Γ) hP hI hL hu1 hu2 hc1 hc2 a h16
            rw [hyv] at hM
            have r2_25 : f (ad 2 0 0) = .inr (3, [.ref (ad 1 0 0)]) := (px2 hP).2.2
            have r12_26 : f (ad 12 u 0) = .inr (7, [.ref (ad 13 u 0), .ref (ad 14 u 0), .int (σ.1 12 u), .int (σ.1 13 u), .int (gfl g u), .int (geb g u), .int (σ.1 17 u), .int (σ.1 18 u), .int (nI (nA σ 19 u))]) := (px12 hP u hu1 hu2).2.2
            have r15_27 : f (ad 15 c 0) = .inr (4, [.int (nI c), .ref (ad 12 (nA σ 6 c) 0), .ref (ad 9 (nA σ 7 c) 0), .int (nI (nA σ 8 c)), .ref (ad 16 c 0), va_rf (if gfa g c = true then some (ad 17 c 0) else none), .int (gsd g c), .int (σ.1 11 c), .int (σ.1 9 c)]) := (px15 hP c hc1 hc2).2.2
            have r9_28 : f (ad 9 (nA σ 7 c) 0) = .inr (5, [.int (nI (nA σ 7 c)), .int (nI (nA σ 0 (nA σ 7 c))), .int (σ.1 5 (nA σ 7 c)), .ref (ad 10 (nA σ 7 c) 0), .int (nI (nA σ 1 (nA σ 7 c)))]) := (px9 hP _ hcl.2.1.1 hcl.2.1.2).2.2
            refine g_aload_n (n := 1) hX dX1_follow_0 rfl rfl rfl ?_
            refine g_pget (n := 4) ux_X4 rfl hX hU dX1_follow_1 rfl h11.1 r11 0 rfl uf_X1_42 rfl ?_
            refine g_tableIn (n := 105) (off := 101) hX dX1_follow_4 (by rw [ho12]; decide) (by rw [ho12]; decide) (by rw [ho12]; rfl) (by decide) ?_
            refine g_aload_n (n := 106) hX dX1_follow_105 rfl rfl rfl ?_
            refine g_aload_n (n := 107) hX dX1_follow_106 rfl rfl rfl ?_
            refine g_pget (n := 110) ux_X4 rfl hX hU dX1_follow_107 rfl h11.1 r11 1 rfl uf_X1_48 rfl ?_
            refine g_aload_n (n := 111) hX dX1_follow_110 rfl rfl rfl ?_
            refine g_pget (n := 114) ux_X2 rfl hX hU dX1_follow_111 rfl (px15 hP c hc1 hc2).1 r15_27 2 rfl uf_X1_21 rfl ?_
            refine g_pcallV (n := 117) (As := [.int a, .ref (ad 9 (nA σ 7 c) 0)]) (rest := []) hX hE hU hY dX1_follow_114 rfl yv_X5_stop um_X1_66 hM ⟨rfl, rfl⟩ (rm_lt hRm (by omega) rfl) rfl (px12 hP u hu1 hu2).1 r12_26 rfl rfl rfl (Nat.le_of_ble_eq_true rfl) ⟨by rw [hRm]; exact Nat.zero_le _, by rw [hRm]; exact Nat.zero_le _⟩ (fun v0 w0 hq0 => ?_)
            obtain ⟨rfl, hRO⟩ := hq0
            show G Γ (w0) 0 0 117 [(0, .ref (ad 2 0 0)), (1, .ref (ad 12 u 0)), (2, .ref (ad 15 c 0)), (3, .ref (ad 11 (nA σ 7 c) r)), (4, .int (nI r)), (5, .int (nI d))] []
            refine g_iconst (n := 118) (v := 0) hX dX1_follow_117 rfl rfl ?_
            refine g_widen (kc' := 2 * (nF y.2 3 - nF σ 3)) (ks' := 109 * (nF y.2 3 - nF σ 3)) (Nat.zero_le _) (Nat.zero_le _) ?_
            exact g_iret hX hR dX1_follow_118 ⟨by rw [if_neg hy0], hRO⟩
          · have hoo : o ≠ 8 ∧ o ≠ 9 ∧ o ≠ 10 ∧ o ≠ 11 ∧ o ≠ 12 := ⟨ho8, ho9, ho10, ho11, ho12⟩
            have hM := hwork hoo
            obtain ⟨hw1, hw2⟩ := st_w (σ := σ) (u := u) (p := nA σ 7 c) hRV hoo
            rw [← hst, hye] at hw1 hw2
            rw [hye] at hM hS
            have hsw : o.toInt < 8 ∨ 12 < o.toInt := by rcases op_cs hRV.1 with h9 | h9 | h9 | h9 | h9 | h9 | h9 | h9 | h9 | h9 | h9 | h9 | h9 | h9 <;> first | (rw [h9]; decide) | exact absurd h9 ho8 | exact absurd h9 ho9 | exact absurd h9 ho10 | exact absurd h9 ho11 | exact absurd h9 ho12
            have hja : ∀ j, j ≠ 20 → y.2.1 j = σ.1 j := fun j hj => by rcases hw1 with h9 | ⟨i, v, h9⟩; rw [h9]; rw [h9]; exact sA_o _ _ _ hj
            have hjf : y.2.2 = σ.2 := by rcases hw1 with h9 | ⟨i, v, h9⟩; rw [h9]; rw [h9]; rfl
            by_cases hk : y.1 = 0
            · have r2_29 : f (ad 2 0 0) = .inr (3, [.ref (ad 1 0 0)]) := (px2 hP).2.2
              have r12_30 : f (ad 12 u 0) = .inr (7, [.ref (ad 13 u 0), .ref (ad 14 u 0), .int (σ.1 12 u), .int (σ.1 13 u), .int (gfl g u), .int (geb g u), .int (σ.1 17 u), .int (σ.1 18 u), .int (nI (nA σ 19 u))]) := (px12 hP u hu1 hu2).2.2
              have r15_31 : f (ad 15 c 0) = .inr (4, [.int (nI c), .ref (ad 12 (nA σ 6 c) 0), .ref (ad 9 (nA σ 7 c) 0), .int (nI (nA σ 8 c)), .ref (ad 16 c 0), va_rf (if gfa g c = true then some (ad 17 c 0) else none), .int (gsd g c), .int (σ.1 11 c), .int (σ.1 9 c)]) := (px15 hP c hc1 hc2).2.2
              have r9_32 : f (ad 9 (nA σ 7 c) 0) = .inr (5, [.int (nI (nA σ 7 c)), .int (nI (nA σ 0 (nA σ 7 c))), .int (σ.1 5 (nA σ 7 c)), .ref (ad 10 (nA σ 7 c) 0), .int (nI (nA σ 1 (nA σ 7 c)))]) := (px9 hP _ hcl.2.1.1 hcl.2.1.2).2.2
              refine g_aload_n (n := 1) hX dX1_follow_0 rfl rfl rfl ?_
              refine g_pget (n := 4) ux_X4 rfl hX hU dX1_follow_1 rfl h11.1 r11 0 rfl uf_X1_42 rfl ?_
              refine g_tableOut (n := 119) hX dX1_follow_4 hsw (by decide) ?_
              refine g_aload_n (n := 120) hX dX1_follow_119 rfl rfl rfl ?_
              refine g_aload_n (n := 121) hX dX1_follow_120 rfl rfl rfl ?_
              refine g_pcallV (n := 124) (As := [.ref (ad 11 (nA σ 7 c) r)]) (rest := []) hX hE hU hY dX1_follow_121 rfl yv_X2_work um_X1_69 hM ⟨rfl, rfl⟩ (rm_lt hRm (by omega) rfl) rfl (px15 hP c hc1 hc2).1 r15_31 rfl rfl rfl (Nat.le_of_ble_eq_true rfl) ⟨by rw [hRm]; exact Nat.zero_le _, by rw [hRm]; exact Nat.zero_le _⟩ (fun v0 w0 hq0 => ?_)
              obtain ⟨rfl, f1, g1, rfl, hP1, hL1, hg1, hg2⟩ := hq0
              show G Γ (va_pl L f1) 0 0 124 [(0, .ref (ad 2 0 0)), (1, .ref (ad 12 u 0)), (2, .ref (ad 15 c 0)), (3, .ref (ad 11 (nA σ 7 c) r)), (4, .int (nI r)), (5, .int (nI d))] [.int y.1]
              have e7 : nA y.2 7 c = nA σ 7 c := nA_e (hja 7 (by decide)) c
              have hc3 : c ≤ nF y.2 3 := by rw [nF_e (congrFun hjf 3)]; exact hc2
              have hu3 : u ≤ nF y.2 2 := by rw [nF_e (congrFun hjf 2)]; exact hu2
              have h12 := px12 hP1 u hu1 hu3
              have h15 := px15 hP1 c hc1 hc3
              have r15 : f1 (ad 15 c 0) = .inr (4, [.int (nI c), .ref (ad 12 (nA y.2 6 c) 0), .ref (ad 9 (nA σ 7 c) 0), .int (nI (nA y.2 8 c)), .ref (ad 16 c 0), va_rf (if gfa g1 c = true then some (ad 17 c 0) else none), .int (gsd g1 c), .int (y.2.1 11 c), .int (y.2.1 9 c)]) := by rw [← e7]; exact h15.2.2
              refine g_istore (lv' := [(6, .int y.1), (0, .ref (ad 2 0 0)), (1, .ref (ad 12 u 0)), (2, .ref (ad 15 c 0)), (3, .ref (ad 11 (nA σ 7 c) r)), (4, .int (nI r)), (5, .int (nI d))]) (n := 126) hX dX1_follow_124 rfl (by rw [hnL]; rfl) rfl ?_
              refine g_iload (n := 128) hX dX1_follow_126 rfl rfl ?_
              refine g_if_ne (n := 131) (tgt := 136) hX dX1_follow_128 rfl (by decide) (fun c128 => absurd hk c128) (fun c128 => ?_)
              refine g_iload (n := 133) hX dX1_follow_131 rfl rfl ?_
              refine g_iconst (n := 134) (v := 1) hX dX1_follow_133 rfl rfl ?_
              refine g_iadd (n := 135) (v := nI (r + 1)) hX dX1_follow_134 rfl (nI_1 r) ?_
              refine g_widen (kc' := 2 * (nF y.2 3 - nF σ 3)) (ks' := 109 * (nF y.2 3 - nF σ 3)) (Nat.zero_le _) (Nat.zero_le _) ?_
              exact g_iret hX hR dX1_follow_135 ⟨by rw [if_pos hk, hja 23 (by decide), h23], ⟨L, f1, ad, κ, g1, rfl, hP1, hL1, EX_rf ad _, gEn_eq (congrFun hg1 u) (congrFun hg2 u) (show gEn g1 g1 u y from ⟨by rw [if_pos (Or.inl hk)], by rw [if_pos hk]⟩)⟩⟩
            · have r2_33 : f (ad 2 0 0) = .inr (3, [.ref (ad 1 0 0)]) := (px2 hP).2.2
              have r12_34 : f (ad 12 u 0) = .inr (7, [.ref (ad 13 u 0), .ref (ad 14 u 0), .int (σ.1 12 u), .int (σ.1 13 u), .int (gfl g u), .int (geb g u), .int (σ.1 17 u), .int (σ.1 18 u), .int (nI (nA σ 19 u))]) := (px12 hP u hu1 hu2).2.2
              have r15_35 : f (ad 15 c 0) = .inr (4, [.int (nI c), .ref (ad 12 (nA σ 6 c) 0), .ref (ad 9 (nA σ 7 c) 0), .int (nI (nA σ 8 c)), .ref (ad 16 c 0), va_rf (if gfa g c = true then some (ad 17 c 0) else none), .int (gsd g c), .int (σ.1 11 c), .int (σ.1 9 c)]) := (px15 hP c hc1 hc2).2.2
              have r9_36 : f (ad 9 (nA σ 7 c) 0) = .inr (5, [.int (nI (nA σ 7 c)), .int (nI (nA σ 0 (nA σ 7 c))), .int (σ.1 5 (nA σ 7 c)), .ref (ad 10 (nA σ 7 c) 0), .int (nI (nA σ 1 (nA σ 7 c)))]) := (px9 hP _ hcl.2.1.1 hcl.2.1.2).2.2
              refine g_aload_n (n := 1) hX dX1_follow_0 rfl rfl rfl ?_
              refine g_pget (n := 4) ux_X4 rfl hX hU dX1_follow_1 rfl h11.1 r11 0 rfl uf_X1_42 rfl ?_
              refine g_tableOut (n := 119) hX dX1_follow_4 hsw (by decide) ?_
              refine g_aload_n (n := 120) hX dX1_follow_119 rfl rfl rfl ?_
              refine g_aload_n (n := 121) hX dX1_follow_120 rfl rfl rfl ?_
              refine g_pcallV (n := 124) (As := [.ref (ad 11 (nA σ 7 c) r)]) (rest := []) hX hE hU hY dX1_follow_121 rfl yv_X2_work um_X1_69 hM ⟨rfl, rfl⟩ (rm_lt hRm (by omega) rfl) rfl (px15 hP c hc1 hc2).1 r15_35 rfl rfl rfl (Nat.le_of_ble_eq_true rfl) ⟨by rw [hRm]; exact Nat.zero_le _, by rw [hRm]; exact Nat.zero_le _⟩ (fun v0 w0 hq0 => ?_)
              obtain ⟨rfl, f1, g1, rfl, hP1, hL1, hg1, hg2⟩ := hq0
              show G Γ (va_pl L f1) 0 0 124 [(0, .ref (ad 2 0 0)), (1, .ref (ad 12 u 0)), (2, .ref (ad 15 c 0)), (3, .ref (ad 11 (nA σ 7 c) r)), (4, .int (nI r)), (5, .int (nI d))] [.int y.1]
              have e7 : nA y.2 7 c = nA σ 7 c := nA_e (hja 7 (by decide)) c
              have hc3 : c ≤ nF y.2 3 := by rw [nF_e (congrFun hjf 3)]; exact hc2
              have hu3 : u ≤ nF y.2 2 := by rw [nF_e (congrFun hjf 2)]; exact hu2
              have h12 := px12 hP1 u hu1 hu3
              have h15 := px15 hP1 c hc1 hc3
              have r15 : f1 (ad 15 c 0) = .inr (4, [.int (nI c), .ref (ad 12 (nA y.2 6 c) 0), .ref (ad 9 (nA σ 7 c) 0), .int (nI (nA y.2 8 c)), .ref (ad 16 c 0), va_rf (if gfa g1 c = true then some (ad 17 c 0) else none), .int (gsd g1 c), .int (y.2.1 11 c), .int (y.2.1 9 c)]) := by rw [← e7]; exact h15.2.2
              refine g_istore (lv' := [(6, .int y.1), (0, .ref (ad 2 0 0)), (1, .ref (ad 12 u 0)), (2, .ref (ad 15 c 0)), (3, .ref (ad 11 (nA σ 7 c) r)), (4, .int (nI r)), (5, .int (nI d))]) (n := 126) hX dX1_follow_124 rfl (by rw [hnL]; rfl) rfl ?_
              refine g_iload (n := 128) hX dX1_follow_126 rfl rfl ?_
              refine g_if_ne (n := 131) (tgt := 136) hX dX1_follow_128 rfl (by decide) (fun c128 => ?_) (fun c128 => absurd c128 hk)
              refine g_aload_n (n := 137) hX dX1_follow_136 rfl rfl rfl ?_
              refine g_iload (n := 139) hX dX1_follow_137 rfl rfl ?_
              refine g_aload_n (n := 140) hX dX1_follow_139 rfl rfl rfl ?_
              refine g_pget (n := 143) ux_X2 rfl hX hU dX1_follow_140 rfl h15.1 r15 2 rfl uf_X1_21 rfl ?_
              have hA := r_abend (gLa Γ) (gD Γ) hP1 hS.1.2.1 hL1 hu1 hu3 hc1 hc3 (k := y.1) hk (by rcases hw2 with h9 | h9 | h9 | h9 <;> rw [h9] <;> decide) (by rcases hw2 with h9 | h9 | h9 | h9 <;> rw [h9] <;> decide) (by rw [hja 16 (by decide), hja 7 (by decide)]; exact h16)
              rw [e7] at hA
              refine g_pcallV (n := 146) (As := [.int y.1, .ref (ad 9 (nA σ 7 c) 0)]) (rest := []) hX hE hU hY dX1_follow_143 rfl yv_X5_abend um_X1_25 hA ⟨rfl, rfl⟩ (rm_lt hRm (by omega) rfl) rfl h12.1 h12.2.2 rfl rfl rfl (Nat.le_of_ble_eq_true rfl) ⟨by rw [hRm]; exact Nat.zero_le _, by rw [hRm]; exact Nat.zero_le _⟩ (fun v0 w0 hq0 => ?_)
              obtain ⟨rfl, hRO⟩ := hq0
              show G Γ (w0) 0 0 146 [(6, .int y.1), (0, .ref (ad 2 0 0)), (1, .ref (ad 12 u 0)), (2, .ref (ad 15 c 0)), (3, .ref (ad 11 (nA σ 7 c) r)), (4, .int (nI r)), (5, .int (nI d))] []
              refine g_iconst (n := 147) (v := 0) hX dX1_follow_146 rfl rfl ?_
              refine g_widen (kc' := 2 * (nF y.2 3 - nF σ 3)) (ks' := 109 * (nF y.2 3 - nF σ 3)) (Nat.zero_le _) (Nat.zero_le _) ?_
              exact g_iret hX hR dX1_follow_147 ⟨by rw [if_neg hk], RO_of (show RO K ad g1 (nF y.2 3) u y w0 from hRO) (EX_rf ad _) (by rw [nF_e (congrFun hjf 3)]; exact Nat.le_refl _) (congrFun hg1 u) (congrFun hg2 u)⟩

