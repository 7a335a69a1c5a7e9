theorem RW_mk {K : Nat → ClassId} {L : List Nat} {f : Nat → va_E} {ad : AD} {κ : TG} {g : GX} {σ : MS} {ax : Nat} (hP : PX K L f ad κ g σ) (hL : Lk g σ 0) (hI : Inv σ) (e : ad 0 0 0 = ax) : RW K ax σ (va_pl L f) := ⟨L, f, ad, κ, g, rfl, e, hP, hL, hI⟩
theorem cancel_ret {K : Nat → ClassId} {L : List Nat} {f : Nat → va_E} {ad : AD} {κ : TG} {g : GX} {σ : MS} (hQ : RX K L f ad κ g σ 0) {c : Nat} (hc1 : 1 ≤ c) (hc2 : c ≤ nF σ 3) {f1 : Nat → va_E} (e : f1 = va_up f (ad 15 c 0) (cC ad g σ c 0 (σ.1 11 c) (σ.1 9 c))) : RW K (ad 0 0 0) (sA (sF σ 0 0) 10 c 0) (va_pl L f1) := by
  have h1 := PX_cls hQ.1 hc1 hc2 0 (σ.1 11 c) (σ.1 9 c)
  have e3 : sC2 σ c (σ.1 11 c) (σ.1 9 c) = σ := by unfold sC2; rw [sA_id, sA_id]
  rw [e3] at h1
  have h2 : RX K L f1 ad κ (gC g c 0) (sA σ 10 c 0) 0 := ⟨by rw [e]; exact h1, Lk_sd hQ.2.1 c, Inv_10 hQ.2.2 hc1 hc2 0⟩
  exact RW_rd h2 (cor_F0 (sA σ 10 c 0) 0)
set_option maxHeartbeats 4000000 in
set_option maxRecDepth 100000 in
theorem F_cancel (l : Launch) (D : va_G) (K : Nat → ClassId) (L : List Nat) (f : Nat → va_E) (ad : AD) (κ : TG) (g : GX) (σ : MS) (u p : Int32) (hQ : RX K L f ad κ g σ 0) : Mc l yX7_cancel (wM yX7_cancel cX7_cancel 6 (some .int)) (rmL 1 0 0) D (yY K) [.ref (ad 0 0 0), .int u, .int p] (va_pl L f) (fun v w => v = some (.int (S_cancel σ u p).1) ∧ RW K (ad 0 0 0) (S_cancel σ u p).2 w) 0 0 := by
  refine m_start (lv := [(0, .ref (ad 0 0 0)), (1, .int u), (2, .int p)]) rfl (Nat.le_of_ble_eq_true rfl) rfl (fun Γ hX hRm hnL hY hDD hLa hR hI hE => ?_)
  have hU : ∀ w ∈ wU, w ∈ wM yX7_cancel cX7_cancel 6 (some .int) := fun w h => wM_in h
  subst hLa
  subst hDD
  have hP := hQ.1
  have hL := hQ.2.1
  have hI := hQ.2.2
  by_cases hu : 1 ≤ u ∧ u ≤ σ.2 2
  · obtain ⟨n, rfl, hu1, hu8, -, hu2⟩ := in1 hI.1.2.1 (by decide) hu
    have hu2 : n ≤ nF σ 2 := hu2
    have ehu : (nI n).toNatClampNeg = n := nI_clamp (by omega)
    by_cases hp : 1 ≤ p ∧ p ≤ σ.2 1
    · obtain ⟨m, rfl, hp1, hp8, -, hp2⟩ := in1 hI.1.1 (by decide) hp
      have hp2 : m ≤ nF σ 1 := hp2
      have ehp : (nI m).toNatClampNeg = m := nI_clamp (by omega)
      by_cases h12 : σ.1 12 n = 0
      · obtain ⟨c, hlat⟩ : ∃ c, nA σ 14 (13 * n + m) = c := ⟨_, rfl⟩
        by_cases hc0 : c = 0
        · subst hc0
          have hS : S_cancel σ (nI n) (nI m) = (0, sF σ 0 0) := by simp only [S_cancel, if_pos hu, if_pos hp, ehu, ehp, if_pos h12, if_pos hlat]
          have r0_1 : f (ad 0 0 0) = .inr (9, [.ref (ad 1 0 0), .ref (ad 2 0 0), .ref (ad 3 0 0), .ref (ad 8 0 0), .int (nI (nF σ 2))]) := (px0 hP).2.2
          have r1_2 : f (ad 1 0 0) = .inr (8, [.ref (ad 6 0 0), .ref (ad 7 0 0), .int (nI (nF σ 1)), .int (nI (nF σ 3))]) := (px1 hP).2.2
          have r12_3 : f (ad 12 n 0) = .inr (7, [.ref (ad 13 n 0), .ref (ad 14 n 0), .int (σ.1 12 n), .int (σ.1 13 n), .int (gfl g n), .int (geb g n), .int (σ.1 17 n), .int (σ.1 18 n), .int (nI (nA σ 19 n))]) := (px12 hP n hu1 hu2).2.2
          have r9_4 : f (ad 9 m 0) = .inr (5, [.int (nI m), .int (nI (nA σ 0 m)), .int (σ.1 5 m), .ref (ad 10 m 0), .int (nI (nA σ 1 m))]) := (px9 hP m hp1 hp2).2.2
          refine g_aload_n (n := 1) hX dX7_cancel_0 rfl rfl rfl ?_
          refine g_iload_n (n := 2) hX dX7_cancel_1 rfl rfl rfl ?_
          refine g_pcallV (n := 5) (As := [.int (nI n)]) (rest := []) hX hE hU hY dX7_cancel_2 rfl yv_X7_findUnit um_X7_61 (r_findUnitY _ _ hP hI hu1 hu2) ⟨rfl, rfl⟩ (rm_le hRm rfl rfl) rfl (px0 hP).1 r0_1 rfl rfl rfl (Nat.le_of_ble_eq_true rfl) ⟨Nat.zero_le _, Nat.zero_le _⟩ (fun v0 w0 hq0 => ?_)
          obtain ⟨rfl, rfl⟩ := hq0
          show G Γ (va_pl L f) 0 0 5 [(0, .ref (ad 0 0 0)), (1, .int (nI n)), (2, .int (nI m))] [.ref (ad 12 n 0)]
          refine g_astore_n (lv' := [(3, .ref (ad 12 n 0)), (0, .ref (ad 0 0 0)), (1, .int (nI n)), (2, .int (nI m))]) (n := 6) hX dX7_cancel_5 rfl rfl (by rw [hnL]; rfl) rfl ?_
          refine g_aload_n (n := 7) hX dX7_cancel_6 rfl rfl rfl ?_
          refine g_pget (n := 10) ux_X7 rfl hX hU dX7_cancel_7 rfl (px0 hP).1 r0_1 0 rfl uf_X7_10 rfl ?_
          refine g_iload_n (n := 11) hX dX7_cancel_10 rfl rfl rfl ?_
          refine g_pcallV (n := 14) (As := [.int (nI m)]) (rest := []) hX hE hU hY dX7_cancel_11 rfl yv_X6_findProgram um_X7_42 (r_findProgramY _ _ hP hI hp1 hp2) ⟨rfl, rfl⟩ (rm_le hRm rfl rfl) rfl (px1 hP).1 r1_2 rfl rfl rfl (Nat.le_of_ble_eq_true rfl) ⟨Nat.zero_le _, Nat.zero_le _⟩ (fun v0 w0 hq0 => ?_)
          obtain ⟨rfl, rfl⟩ := hq0
          show G Γ (va_pl L f) 0 0 14 [(3, .ref (ad 12 n 0)), (0, .ref (ad 0 0 0)), (1, .int (nI n)), (2, .int (nI m))] [.ref (ad 9 m 0)]
          refine g_astore (lv' := [(4, .ref (ad 9 m 0)), (3, .ref (ad 12 n 0)), (0, .ref (ad 0 0 0)), (1, .int (nI n)), (2, .int (nI m))]) (n := 16) hX dX7_cancel_14 rfl (by rw [hnL]; rfl) rfl ?_
          refine g_aload_n (n := 17) hX dX7_cancel_16 rfl rfl rfl ?_
          refine g_ifnull (n := 20) hX dX7_cancel_17 rfl ?_
          refine g_aload (n := 22) hX dX7_cancel_20 rfl rfl ?_
          refine g_ifnonnull (tgt := 28) hX dX7_cancel_22 (by decide) ?_
          refine g_aload_n (n := 29) hX dX7_cancel_28 rfl rfl rfl ?_
          refine g_pget (n := 32) ux_X5 rfl hX hU dX7_cancel_29 rfl (px12 hP n hu1 hu2).1 r12_3 2 rfl uf_X7_65 rfl ?_
          refine g_if_eq (n := 35) (tgt := 38) hX dX7_cancel_32 rfl (by decide) (fun c32 => ?_) (fun c32 => absurd h12 c32)
          refine g_aload_n (n := 39) hX dX7_cancel_38 rfl rfl rfl ?_
          refine g_aload (n := 41) hX dX7_cancel_39 rfl rfl ?_
          refine g_pcallV (n := 44) (As := [.ref (ad 9 m 0)]) (rest := []) hX hE hU hY dX7_cancel_41 rfl yv_X5_latestOf um_X7_78 (r_latestN _ _ hP hI hu1 hu2 hp1 hp2 hlat) ⟨rfl, rfl⟩ (rm_le hRm rfl rfl) rfl (px12 hP n hu1 hu2).1 r12_3 rfl rfl rfl (Nat.le_of_ble_eq_true rfl) ⟨Nat.zero_le _, Nat.zero_le _⟩ (fun v0 w0 hq0 => ?_)
          obtain ⟨rfl, rfl⟩ := hq0
          show G Γ (va_pl L f) 0 0 44 [(4, .ref (ad 9 m 0)), (3, .ref (ad 12 n 0)), (0, .ref (ad 0 0 0)), (1, .int (nI n)), (2, .int (nI m))] [.null]
          refine g_astoreN (lv' := [(5, .null), (4, .ref (ad 9 m 0)), (3, .ref (ad 12 n 0)), (0, .ref (ad 0 0 0)), (1, .int (nI n)), (2, .int (nI m))]) (n := 46) hX dX7_cancel_44 rfl (by rw [hnL]; rfl) rfl ?_
          refine g_aloadN (n := 48) hX dX7_cancel_46 rfl rfl ?_
          refine g_ifnullN (tgt := 59) hX dX7_cancel_48 (by decide) ?_
          refine g_iconst (n := 60) (v := 0) hX dX7_cancel_59 rfl rfl ?_
          exact g_iret hX hR dX7_cancel_60 ⟨by rw [hS], by rw [hS]; exact RW_rd hQ (cor_F0 σ 0)⟩
        · have hcl := (hI.lat n m hu1 hu8 hp1 hp8).resolve_left (by rw [hlat]; exact hc0)
          rw [hlat] at hcl
          have hc1 : 1 ≤ c := by omega
          have hc2 : c ≤ nF σ 3 := hcl.1
          have hsd : gsd g c = σ.1 10 c := (hL.2.2.1 c hc1 hc2 (by rw [hcl.2.1, hcl.2.2]; exact hlat)).1
          have hcl0 : ¬ nA σ 14 (13 * n + m) = 0 := by rw [hlat]; exact hc0
          by_cases h10 : σ.1 10 c = 0
          · have hS : S_cancel σ (nI n) (nI m) = (0, sF σ 0 0) := by simp only [S_cancel, if_pos hu, if_pos hp, ehu, ehp, if_pos h12, hlat, if_neg hc0, if_pos h10]
            have r0_5 : f (ad 0 0 0) = .inr (9, [.ref (ad 1 0 0), .ref (ad 2 0 0), .ref (ad 3 0 0), .ref (ad 8 0 0), .int (nI (nF σ 2))]) := (px0 hP).2.2
            have r1_6 : f (ad 1 0 0) = .inr (8, [.ref (ad 6 0 0), .ref (ad 7 0 0), .int (nI (nF σ 1)), .int (nI (nF σ 3))]) := (px1 hP).2.2
            have r12_7 : f (ad 12 n 0) = .inr (7, [.ref (ad 13 n 0), .ref (ad 14 n 0), .int (σ.1 12 n), .int (σ.1 13 n), .int (gfl g n), .int (geb g n), .int (σ.1 17 n), .int (σ.1 18 n), .int (nI (nA σ 19 n))]) := (px12 hP n hu1 hu2).2.2
            have r9_8 : f (ad 9 m 0) = .inr (5, [.int (nI m), .int (nI (nA σ 0 m)), .int (σ.1 5 m), .ref (ad 10 m 0), .int (nI (nA σ 1 m))]) := (px9 hP m hp1 hp2).2.2
            have r15_9 : f (ad 15 c 0) = .inr (4, [.int (nI c), .ref (ad 12 (nA σ 6 c) 0), .ref (ad 9 (nA σ 7 c) 0), .int (nI (nA σ 8 c)), .ref (ad 16 c 0), va_rf (if gfa g c = true then some (ad 17 c 0) else none), .int (gsd g c), .int (σ.1 11 c), .int (σ.1 9 c)]) := (px15 hP c hc1 hc2).2.2
            refine g_aload_n (n := 1) hX dX7_cancel_0 rfl rfl rfl ?_
            refine g_iload_n (n := 2) hX dX7_cancel_1 rfl rfl rfl ?_
            refine g_pcallV (n := 5) (As := [.int (nI n)]) (rest := []) hX hE hU hY dX7_cancel_2 rfl yv_X7_findUnit um_X7_61 (r_findUnitY _ _ hP hI hu1 hu2) ⟨rfl, rfl⟩ (rm_le hRm rfl rfl) rfl (px0 hP).1 r0_5 rfl rfl rfl (Nat.le_of_ble_eq_true rfl) ⟨Nat.zero_le _, Nat.zero_le _⟩ (fun v0 w0 hq0 => ?_)
            obtain ⟨rfl, rfl⟩ := hq0
            show G Γ (va_pl L f) 0 0 5 [(0, .ref (ad 0 0 0)), (1, .int (nI n)), (2, .int (nI m))] [.ref (ad 12 n 0)]
            refine g_astore_n (lv' := [(3, .ref (ad 12 n 0)), (0, .ref (ad 0 0 0)), (1, .int (nI n)), (2, .int (nI m))]) (n := 6) hX dX7_cancel_5 rfl rfl (by rw [hnL]; rfl) rfl ?_
            refine g_aload_n (n := 7) hX dX7_cancel_6 rfl rfl rfl ?_
            refine g_pget (n := 10) ux_X7 rfl hX hU dX7_cancel_7 rfl (px0 hP).1 r0_5 0 rfl uf_X7_10 rfl ?_
            refine g_iload_n (n := 11) hX dX7_cancel_10 rfl rfl rfl ?_
            refine g_pcallV (n := 14) (As := [.int (nI m)]) (rest := []) hX hE hU hY dX7_cancel_11 rfl yv_X6_findProgram um_X7_42 (r_findProgramY _ _ hP hI hp1 hp2) ⟨rfl, rfl⟩ (rm_le hRm rfl rfl) rfl (px1 hP).1 r1_6 rfl rfl rfl (Nat.le_of_ble_eq_true rfl) ⟨Nat.zero_le _, Nat.zero_le _⟩ (fun v0 w0 hq0 => ?_)
            obtain ⟨rfl, rfl⟩ := hq0
            show G Γ (va_pl L f) 0 0 14 [(3, .ref (ad 12 n 0)), (0, .ref (ad 0 0 0)), (1, .int (nI n)), (2, .int (nI m))] [.ref (ad 9 m 0)]
            refine g_astore (lv' := [(4, .ref (ad 9 m 0)), (3, .ref (ad 12 n 0)), (0, .ref (ad 0 0 0)), (1, .int (nI n)), (2, .int (nI m))]) (n := 16) hX dX7_cancel_14 rfl (by rw [hnL]; rfl) rfl ?_
            refine g_aload_n (n := 17) hX dX7_cancel_16 rfl rfl rfl ?_
            refine g_ifnull (n := 20) hX dX7_cancel_17 rfl ?_
            refine g_aload (n := 22) hX dX7_cancel_20 rfl rfl ?_
            refine g_ifnonnull (tgt := 28) hX dX7_cancel_22 (by decide) ?_
            refine g_aload_n (n := 29) hX dX7_cancel_28 rfl rfl rfl ?_
            refine g_pget (n := 32) ux_X5 rfl hX hU dX7_cancel_29 rfl (px12 hP n hu1 hu2).1 r12_7 2 rfl uf_X7_65 rfl ?_
            refine g_if_eq (n := 35) (tgt := 38) hX dX7_cancel_32 rfl (by decide) (fun c32 => ?_) (fun c32 => absurd h12 c32)
            refine g_aload_n (n := 39) hX dX7_cancel_38 rfl rfl rfl ?_
            refine g_aload (n := 41) hX dX7_cancel_39 rfl rfl ?_
            refine g_pcallV (n := 44) (As := [.ref (ad 9 m 0)]) (rest := []) hX hE hU hY dX7_cancel_41 rfl yv_X5_latestOf um_X7_78 (r_latestY _ _ hP hI hu1 hu2 hp1 hp2 hlat hc0) ⟨rfl, rfl⟩ (rm_le hRm rfl rfl) rfl (px12 hP n hu1 hu2).1 r12_7 rfl rfl rfl (Nat.le_of_ble_eq_true rfl) ⟨Nat.zero_le _, Nat.zero_le _⟩ (fun v0 w0 hq0 => ?_)
            obtain ⟨rfl, rfl⟩ := hq0
            show G Γ (va_pl L f) 0 0 44 [(4, .ref (ad 9 m 0)), (3, .ref (ad 12 n 0)), (0, .ref (ad 0 0 0)), (1, .int (nI n)), (2, .int (nI m))] [.ref (ad 15 c 0)]
            refine g_astore (lv' := [(5, .ref (ad 15 c 0)), (4, .ref (ad 9 m 0)), (3, .ref (ad 12 n 0)), (0, .ref (ad 0 0 0)), (1, .int (nI n)), (2, .int (nI m))]) (n := 46) hX dX7_cancel_44 rfl (by rw [hnL]; rfl) rfl ?_
            refine g_aload (n := 48) hX dX7_cancel_46 rfl rfl ?_
            refine g_ifnull (n := 51) hX dX7_cancel_48 rfl ?_
            refine g_aload (n := 53) hX dX7_cancel_51 rfl rfl ?_
            refine g_pget (n := 56) ux_X2 rfl hX hU dX7_cancel_53 rfl (px15 hP c hc1 hc2).1 r15_9 6 rfl uf_X7_92 rfl ?_
            refine g_if_ne (n := 59) (tgt := 61) hX dX7_cancel_56 rfl (by decide) (fun c56 => absurd (hsd.trans h10) c56) (fun c56 => ?_)
            refine g_iconst (n := 60) (v := 0) hX dX7_cancel_59 rfl rfl ?_
            exact g_iret hX hR dX7_cancel_60 ⟨by rw [hS], by rw [hS]; exact RW_rd hQ (cor_F0 σ 0)⟩
          · have hS : S_cancel σ (nI n) (nI m) = (1, sA (sF σ 0 0) 10 c 0) := by simp only [S_cancel, if_pos hu, if_pos hp, ehu, ehp, if_pos h12, hlat, if_neg hc0, if_neg h10]
            have r0_10 : f (ad 0 0 0) = .inr (9, [.ref (ad 1 0 0), .ref (ad 2 0 0), .ref (ad 3 0 0), .ref (ad 8 0 0), .int (nI (nF σ 2))]) := (px0 hP).2.2
            have r1_11 : f (ad 1 0 0) = .inr (8, [.ref (ad 6 0 0), .ref (ad 7 0 0), .int (nI (nF σ 1)), .int (nI (nF σ 3))]) := (px1 hP).2.2
            have r12_12 : f (ad 12 n 0) = .inr (7, [.ref (ad 13 n 0), .ref (ad 14 n 0), .int (σ.1 12 n), .int (σ.1 13 n), .int (gfl g n), .int (geb g n), .int (σ.1 17 n), .int (σ.1 18 n), .int (nI (nA σ 19 n))]) := (px12 hP n hu1 hu2).2.2
            have r9_13 : f (ad 9 m 0) = .inr (5, [.int (nI m), .int (nI (nA σ 0 m)), .int (σ.1 5 m), .ref (ad 10 m 0), .int (nI (nA σ 1 m))]) := (px9 hP m hp1 hp2).2.2
            have r15_14 : f (ad 15 c 0) = .inr (4, [.int (nI c), .ref (ad 12 (nA σ 6 c) 0), .ref (ad 9 (nA σ 7 c) 0), .int (nI (nA σ 8 c)), .ref (ad 16 c 0), va_rf (if gfa g c = true then some (ad 17 c 0) else none), .int (gsd g c), .int (σ.1 11 c), .int (σ.1 9 c)]) := (px15 hP c hc1 hc2).2.2
            refine g_aload_n (n := 1) hX dX7_cancel_0 rfl rfl rfl ?_
            refine g_iload_n (n := 2) hX dX7_cancel_1 rfl rfl rfl ?_
            refine g_pcallV (n := 5) (As := [.int (nI n)]) (rest := []) hX hE hU hY dX7_cancel_2 rfl yv_X7_findUnit um_X7_61 (r_findUnitY _ _ hP hI hu1 hu2) ⟨rfl, rfl⟩ (rm_le hRm rfl rfl) rfl (px0 hP).1 r0_10 rfl rfl rfl (Nat.le_of_ble_eq_true rfl) ⟨Nat.zero_le _, Nat.zero_le _⟩ (fun v0 w0 hq0 => ?_)
            obtain ⟨rfl, rfl⟩ := hq0
            show G Γ (va_pl L f) 0 0 5 [(0, .ref (ad 0 0 0)), (1, .int (nI n)), (2, .int (nI m))] [.ref (ad 12 n 0)]
            refine g_astore_n (lv' := [(3, .ref (ad 12 n 0)), (0, .ref (ad 0 0 0)), (1, .int (nI n)), (2, .int (nI m))]) (n := 6) hX dX7_cancel_5 rfl rfl (by rw [hnL]; rfl) rfl ?_
            refine g_aload_n (n := 7) hX dX7_cancel_6 rfl rfl rfl ?_
            refine g_pget (n := 10) ux_X7 rfl hX hU dX7_cancel_7 rfl (px0 hP).1 r0_10 0 rfl uf_X7_10 rfl ?_
            refine g_iload_n (n := 11) hX dX7_cancel_10 rfl rfl rfl ?_
            refine g_pcallV (n := 14) (As := [.int (nI m)]) (rest := []) hX hE hU hY dX7_cancel_11 rfl yv_X6_findProgram um_X7_42 (r_findProgramY _ _ hP hI hp1 hp2) ⟨rfl, rfl⟩ (rm_le hRm rfl rfl) rfl (px1 hP).1 r1_11 rfl rfl rfl (Nat.le_of_ble_eq_true rfl) ⟨Nat.zero_le _, Nat.zero_le _⟩ (fun v0 w0 hq0 => ?_)
            obtain ⟨rfl, rfl⟩ := hq0
            show G Γ (va_pl L f) 0 0 14 [(3, .ref (ad 12 n 0)), (0, .ref (ad 0 0 0)), (1, .int (nI n)), (2, .int (nI m))] [.ref (ad 9 m 0)]
            refine g_astore (lv' := [(4, .ref (ad 9 m 0)), (3, .ref (ad 12 n 0)), (0, .ref (ad 0 0 0)), (1, .int (nI n)), (2, .int (nI m))]) (n := 16) hX dX7_cancel_14 rfl (by rw [hnL]; rfl) rfl ?_
            refine g_aload_n (n := 17) hX dX7_cancel_16 rfl rfl rfl ?_
            refine g_ifnull (n := 20) hX dX7_cancel_17 rfl ?_
            refine g_aload (n := 22) hX dX7_cancel_20 rfl rfl ?_
            refine g_ifnonnull (tgt := 28) hX dX7_cancel_22 (by decide) ?_
            refine g_aload_n (n := 29) hX dX7_cancel_28 rfl rfl rfl ?_
            refine g_pget (n := 32) ux_X5 rfl hX hU dX7_cancel_29 rfl (px12 hP n hu1 hu2).1 r12_12 2 rfl uf_X7_65 rfl ?_
            refine g_if_eq (n := 35) (tgt := 38) hX dX7_cancel_32 rfl (by decide) (fun c32 => ?_) (fun c32 => absurd h12 c32)
            refine g_aload_n (n := 39) hX dX7_cancel_38 rfl rfl rfl ?_
            refine g_aload (n := 41) hX dX7_cancel_39 rfl rfl ?_
            refine g_pcallV (n := 44) (As := [.ref (ad 9 m 0)]) (rest := []) hX hE hU hY dX7_cancel_41 rfl yv_X5_latestOf um_X7_78 (r_latestY _ _ hP hI hu1 hu2 hp1 hp2 hlat hc0) ⟨rfl, rfl⟩ (rm_le hRm rfl rfl) rfl (px12 hP n hu1 hu2).1 r12_12 rfl rfl rfl (Nat.le_of_ble_eq_true rfl) ⟨Nat.zero_le _, Nat.zero_le _⟩ (fun v0 w0 hq0 => ?_)
            obtain ⟨rfl, rfl⟩ := hq0
            show G Γ (va_pl L f) 0 0 44 [(4, .ref (ad 9 m 0)), (3, .ref (ad 12 n 0)), (0, .ref (ad 0 0 0)), (1, .int (nI n)), (2, .int (nI m))] [.ref (ad 15 c 0)]
            refine g_astore (lv' := [(5, .ref (ad 15 c 0)), (4, .ref (ad 9 m 0)), (3, .ref (ad 12 n 0)), (0, .ref (ad 0 0 0)), (1, .int (nI n)), (2, .int (nI m))]) (n := 46) hX dX7_cancel_44 rfl (by rw [hnL]; rfl) rfl ?_
            refine g_aload (n := 48) hX dX7_cancel_46 rfl rfl ?_
            refine g_ifnull (n := 51) hX dX7_cancel_48 rfl ?_
            refine g_aload (n := 53) hX dX7_cancel_51 rfl rfl ?_
            refine g_pget (n := 56) ux_X2 rfl hX hU dX7_cancel_53 rfl (px15 hP c hc1 hc2).1 r15_14 6 rfl uf_X7_92 rfl ?_
            refine g_if_ne (n := 59) (tgt := 61) hX dX7_cancel_56 rfl (by decide) (fun c56 => ?_) (fun c56 => absurd c56 (fun h9 => h10 (hsd.symm.trans h9)))
            refine g_aload (n := 63) hX dX7_cancel_61 rfl rfl ?_
            refine g_iconst (n := 64) (v := 0) hX dX7_cancel_63 rfl rfl ?_
            refine g_pput (n := 67) (fs' := [.int (nI c), .ref (ad 12 (nA σ 6 c) 0), .ref (ad 9 (nA σ 7 c) 0), .int (nI (nA σ 8 c)), .ref (ad 16 c 0), va_rf (if gfa g c = true then some (ad 17 c 0) else none), .int 0, .int (σ.1 11 c), .int (σ.1 9 c)]) tyX2 tyX2_ok nmX2 ux_X2 rfl hX hU dX7_cancel_64 rfl (px15 hP c hc1 hc2).1 r15_14 6 rfl uf_X7_92 rfl rfl rfl rfl rfl (fun f15 ef15 => ?_)
            have had000_16 : f15 (ad 0 0 0) = .inr (9, [.ref (ad 1 0 0), .ref (ad 2 0 0), .ref (ad 3 0 0), .ref (ad 8 0 0), .int (nI (nF σ 2))]) := by rw [ef15, va_up_ne _ _ (ne_oo r0_10 r15_14 rfl)]; exact r0_10
            have had100_17 : f15 (ad 1 0 0) = .inr (8, [.ref (ad 6 0 0), .ref (ad 7 0 0), .int (nI (nF σ 1)), .int (nI (nF σ 3))]) := by rw [ef15, va_up_ne _ _ (ne_oo r1_11 r15_14 rfl)]; exact r1_11
            have had12n0_18 : f15 (ad 12 n 0) = .inr (7, [.ref (ad 13 n 0), .ref (ad 14 n 0), .int (σ.1 12 n), .int (σ.1 13 n), .int (gfl g n), .int (geb g n), .int (σ.1 17 n), .int (σ.1 18 n), .int (nI (nA σ 19 n))]) := by rw [ef15, va_up_ne _ _ (ne_oo r12_12 r15_14 rfl)]; exact r12_12
            have had9m0_19 : f15 (ad 9 m 0) = .inr (5, [.int (nI m), .int (nI (nA σ 0 m)), .int (σ.1 5 m), .ref (ad 10 m 0), .int (nI (nA σ 1 m))]) := by rw [ef15, va_up_ne _ _ (ne_oo r9_13 r15_14 rfl)]; exact r9_13
            have had15c0_20 : f15 (ad 15 c 0) = .inr (4, [.int (nI c), .ref (ad 12 (nA σ 6 c) 0), .ref (ad 9 (nA σ 7 c) 0), .int (nI (nA σ 8 c)), .ref (ad 16 c 0), va_rf (if gfa g c = true then some (ad 17 c 0) else none), .int 0, .int (σ.1 11 c), .int (σ.1 9 c)]) := by rw [ef15]; exact va_up_self _ _ _
            refine g_iconst (n := 68) (v := 1) hX dX7_cancel_67 rfl rfl ?_
            exact g_iret hX hR dX7_cancel_68 ⟨by rw [hS], by rw [hS]; exact cancel_ret hQ hc1 hc2 ef15⟩
      · have hS : S_cancel σ (nI n) (nI m) = (-5, sF σ 0 0) := by simp only [S_cancel, if_pos hu, if_pos hp, ehu, ehp, if_neg h12]
        have r0_21 : f (ad 0 0 0) = .inr (9, [.ref (ad 1 0 0), .ref (ad 2 0 0), .ref (ad 3 0 0), .ref (ad 8 0 0), .int (nI (nF σ 2))]) := (px0 hP).2.2
        have r1_22 : f (ad 1 0 0) = .inr (8, [.ref (ad 6 0 0), .ref (ad 7 0 0), .int (nI (nF σ 1)), .int (nI (nF σ 3))]) := (px1 hP).2.2
        have r12_23 : f (ad 12 n 0) = .inr (7, [.ref (ad 13 n 0), .ref (ad 14 n 0), .int (σ.1 12 n), .int (σ.1 13 n), .int (gfl g n), .int (geb g n), .int (σ.1 17 n), .int (σ.1 18 n), .int (nI (nA σ 19 n))]) := (px12 hP n hu1 hu2).2.2
        have r9_24 : f (ad 9 m 0) = .inr (5, [.int (nI m), .int (nI (nA σ 0 m)), .int (σ.1 5 m), .ref (ad 10 m 0), .int (nI (nA σ 1 m))]) := (px9 hP m hp1 hp2).2.2
        refine g_aload_n (n := 1) hX dX7_cancel_0 rfl rfl rfl ?_
        refine g_iload_n (n := 2) hX dX7_cancel_1 rfl rfl rfl ?_
        refine g_pcallV (n := 5) (As := [.int (nI n)]) (rest := []) hX hE hU hY dX7_cancel_2 rfl yv_X7_findUnit um_X7_61 (r_findUnitY _ _ hP hI hu1 hu2) ⟨rfl, rfl⟩ (rm_le hRm rfl rfl) rfl (px0 hP).1 r0_21 rfl rfl rfl (Nat.le_of_ble_eq_true rfl) ⟨Nat.zero_le _, Nat.zero_le _⟩ (fun v0 w0 hq0 => ?_)
        obtain ⟨rfl, rfl⟩ := hq0
        show G Γ (va_pl L f) 0 0 5 [(0, .ref (ad 0 0 0)), (1, .int (nI n)), (2, .int (nI m))] [.ref (ad 12 n 0)]
        refine g_astore_n (lv' := [(3, .ref (ad 12 n 0)), (0, .ref (ad 0 0 0)), (1, .int (nI n)), (2, .int (nI m))]) (n := 6) hX dX7_cancel_5 rfl rfl (by rw [hnL]; rfl) rfl ?_
        refine g_aload_n (n := 7) hX dX7_cancel_6 rfl rfl rfl ?_
        refine g_pget (n := 10) ux_X7 rfl hX hU dX7_cancel_7 rfl (px0 hP).1 r0_21 0 rfl uf_X7_10 rfl ?_
        refine g_iload_n (n := 11) hX dX7_cancel_10 rfl rfl rfl ?_
        refine g_pcallV (n := 14) (As := [.int (nI m)]) (rest := []) hX hE hU hY dX7_cancel_11 rfl yv_X6_findProgram um_X7_42 (r_findProgramY _ _ hP hI hp1 hp2) ⟨rfl, rfl⟩ (rm_le hRm rfl rfl) rfl (px1 hP).1 r1_22 rfl rfl rfl (Nat.le_of_ble_eq_true rfl) ⟨Nat.zero_le _, Nat.zero_le _⟩ (fun v0 w0 hq0 => ?_)
        obtain ⟨rfl, rfl⟩ := hq0
        show G Γ (va_pl L f) 0 0 14 [(3, .ref (ad 12 n 0)), (0, .ref (ad 0 0 0)), (1, .int (nI n)), (2, .int (nI m))] [.ref (ad 9 m 0)]
        refine g_astore (lv' := [(4, .ref (ad 9 m 0)), (3, .ref (ad 12 n 0)), (0, .ref (ad 0 0 0)), (1, .int (nI n)), (2, .int (nI m))]) (n := 16) hX dX7_cancel_14 rfl (by rw [hnL]; rfl) rfl ?_
        refine g_aload_n (n := 17) hX dX7_cancel_16 rfl rfl rfl ?_
        refine g_ifnull (n := 20) hX dX7_cancel_17 rfl ?_
        refine g_aload (n := 22) hX dX7_cancel_20 rfl rfl ?_
        refine g_ifnonnull (tgt := 28) hX dX7_cancel_22 (by decide) ?_
        refine g_aload_n (n := 29) hX dX7_cancel_28 rfl rfl rfl ?_
        refine g_pget (n := 32) ux_X5 rfl hX hU dX7_cancel_29 rfl (px12 hP n hu1 hu2).1 r12_23 2 rfl uf_X7_65 rfl ?_
        refine g_if_eq (n := 35) (tgt := 38) hX dX7_cancel_32 rfl (by decide) (fun c32 => absurd c32 h12) (fun c32 => ?_)
        refine g_bipush (n := 37) (v := (-5)) hX dX7_cancel_35 rfl rfl ?_
        exact g_iret hX hR dX7_cancel_37 ⟨by rw [hS], by rw [hS]; exact RW_rd hQ (cor_F0 σ 0)⟩
    · have hS : S_cancel σ (nI n) p = (-2, sF σ 0 0) := by simp only [S_cancel, if_pos hu, if_neg hp]
      have r0_25 : f (ad 0 0 0) = .inr (9, [.ref (ad 1 0 0), .ref (ad 2 0 0), .ref (ad 3 0 0), .ref (ad 8 0 0), .int (nI (nF σ 2))]) := (px0 hP).2.2
      have r1_26 : f (ad 1 0 0) = .inr (8, [.ref (ad 6 0 0), .ref (ad 7 0 0), .int (nI (nF σ 1)), .int (nI (nF σ 3))]) := (px1 hP).2.2
      have r12_27 : f (ad 12 n 0) = .inr (7, [.ref (ad 13 n 0), .ref (ad 14 n 0), .int (σ.1 12 n), .int (σ.1 13 n), .int (gfl g n), .int (geb g n), .int (σ.1 17 n), .int (σ.1 18 n), .int (nI (nA σ 19 n))]) := (px12 hP n hu1 hu2).2.2
      refine g_aload_n (n := 1) hX dX7_cancel_0 rfl rfl rfl ?_
      refine g_iload_n (n := 2) hX dX7_cancel_1 rfl rfl rfl ?_
      refine g_pcallV (n := 5) (As := [.int (nI n)]) (rest := []) hX hE hU hY dX7_cancel_2 rfl yv_X7_findUnit um_X7_61 (r_findUnitY _ _ hP hI hu1 hu2) ⟨rfl, rfl⟩ (rm_le hRm rfl rfl) rfl (px0 hP).1 r0_25 rfl rfl rfl (Nat.le_of_ble_eq_true rfl) ⟨Nat.zero_le _, Nat.zero_le _⟩ (fun v0 w0 hq0 => ?_)
      obtain ⟨rfl, rfl⟩ := hq0
      show G Γ (va_pl L f) 0 0 5 [(0, .ref (ad 0 0 0)), (1, .int (nI n)), (2, .int p)] [.ref (ad 12 n 0)]
      refine g_astore_n (lv' := [(3, .ref (ad 12 n 0)), (0, .ref (ad 0 0 0)), (1, .int (nI n)), (2, .int p)]) (n := 6) hX dX7_cancel_5 rfl rfl (by rw [hnL]; rfl) rfl ?_
      refine g_aload_n (n := 7) hX dX7_cancel_6 rfl rfl rfl ?_
      refine g_pget (n := 10) ux_X7 rfl hX hU dX7_cancel_7 rfl (px0 hP).1 r0_25 0 rfl uf_X7_10 rfl ?_
      refine g_iload_n (n := 11) hX dX7_cancel_10 rfl rfl rfl ?_
      refine g_pcallV (n := 14) (As := [.int p]) (rest := []) hX hE hU hY dX7_cancel_11 rfl yv_X6_findProgram um_X7_42 (r_findProgramN _ _ hP hI hp) ⟨rfl, rfl⟩ (rm_le hRm rfl rfl) rfl (px1 hP).1 r1_26 rfl rfl rfl (Nat.le_of_ble_eq_true rfl) ⟨Nat.zero_le _, Nat.zero_le _⟩ (fun v0 w0 hq0 => ?_)
      obtain ⟨rfl, rfl⟩ := hq0
      show G Γ (va_pl L f) 0 0 14 [(3, .ref (ad 12 n 0)), (0, .ref (ad 0 0 0)), (1, .int (nI n)), (2, .int p)] [.null]
      refine g_astoreN (lv' := [(4, .null), (3, .ref (ad 12 n 0)), (0, .ref (ad 0 0 0)), (1, .int (nI n)), (2, .int p)]) (n := 16) hX dX7_cancel_14 rfl (by rw [hnL]; rfl) rfl ?_
      refine g_aload_n (n := 17) hX dX7_cancel_16 rfl rfl rfl ?_
      refine g_ifnull (n := 20) hX dX7_cancel_17 rfl ?_
      refine g_aloadN (n := 22) hX dX7_cancel_20 rfl rfl ?_
      refine g_ifnonnullN (n := 25) hX dX7_cancel_22 rfl ?_
      refine g_bipush (n := 27) (v := (-2)) hX dX7_cancel_25 rfl rfl ?_
      exact g_iret hX hR dX7_cancel_27 ⟨by rw [hS], by rw [hS]; exact RW_rd hQ (cor_F0 σ 0)⟩
  · have hS : S_cancel σ u p = (-2, sF σ 0 0) := by simp only [S_cancel, if_neg hu]
    by_cases hp : 1 ≤ p ∧ p ≤ σ.2 1
    · obtain ⟨m, rfl, hp1, hp8, -, hp2⟩ := in1 hI.1.1 (by decide) hp
      have r0_28 : f (ad 0 0 0) = .inr (9, [.ref (ad 1 0 0), .ref (ad 2 0 0), .ref (ad 3 0 0), .ref (ad 8 0 0), .int (nI (nF σ 2))]) := (px0 hP).2.2
      have r1_29 : f (ad 1 0 0) = .inr (8, [.ref (ad 6 0 0), .ref (ad 7 0 0), .int (nI (nF σ 1)), .int (nI (nF σ 3))]) := (px1 hP).2.2
      refine g_aload_n (n := 1) hX dX7_cancel_0 rfl rfl rfl ?_
      refine g_iload_n (n := 2) hX dX7_cancel_1 rfl rfl rfl ?_
      refine g_pcallV (n := 5) (As := [.int u]) (rest := []) hX hE hU hY dX7_cancel_2 rfl yv_X7_findUnit um_X7_61 (r_findUnitN _ _ hP hI hu) ⟨rfl, rfl⟩ (rm_le hRm rfl rfl) rfl (px0 hP).1 r0_28 rfl rfl rfl (Nat.le_of_ble_eq_true rfl) ⟨Nat.zero_le _, Nat.zero_le _⟩ (fun v0 w0 hq0 => ?_)
      obtain ⟨rfl, rfl⟩ := hq0
      show G Γ (va_pl L f) 0 0 5 [(0, .ref (ad 0 0 0)), (1, .int u), (2, .int (nI m))] [.null]
      refine g_astore_nN (lv' := [(3, .null), (0, .ref (ad 0 0 0)), (1, .int u), (2, .int (nI m))]) (n := 6) hX dX7_cancel_5 rfl rfl (by rw [hnL]; rfl) rfl ?_
      refine g_aload_n (n := 7) hX dX7_cancel_6 rfl rfl rfl ?_
      refine g_pget (n := 10) ux_X7 rfl hX hU dX7_cancel_7 rfl (px0 hP).1 r0_28 0 rfl uf_X7_10 rfl ?_
      refine g_iload_n (n := 11) hX dX7_cancel_10 rfl rfl rfl ?_
      refine g_pcallV (n := 14) (As := [.int (nI m)]) (rest := []) hX hE hU hY dX7_cancel_11 rfl yv_X6_findProgram um_X7_42 (r_findProgramY _ _ hP hI hp1 hp2) ⟨rfl, rfl⟩ (rm_le hRm rfl rfl) rfl (px1 hP).1 r1_29 rfl rfl rfl (Nat.le_of_ble_eq_true rfl) ⟨Nat.zero_le _, Nat.zero_le _⟩ (fun v0 w0 hq0 => ?_)
      obtain ⟨rfl, rfl⟩ := hq0
      show G Γ (va_pl L f) 0 0 14 [(3, .null), (0, .ref (ad 0 0 0)), (1, .int u), (2, .int (nI m))] [.ref (ad 9 m 0)]
      refine g_astore (lv' := [(4, .ref (ad 9 m 0)), (3, .null), (0, .ref (ad 0 0 0)), (1, .int u), (2, .int (nI m))]) (n := 16) hX dX7_cancel_14 rfl (by rw [hnL]; rfl) rfl ?_
      refine g_aload_nN (n := 17) hX dX7_cancel_16 rfl rfl rfl ?_
      refine g_ifnullN (tgt := 25) hX dX7_cancel_17 (by decide) ?_
      refine g_bipush (n := 27) (v := (-2)) hX dX7_cancel_25 rfl rfl ?_
      exact g_iret hX hR dX7_cancel_27 ⟨by rw [hS], by rw [hS]; exact RW_rd hQ (cor_F0 σ 0)⟩
    · have r0_30 : f (ad 0 0 0) = .inr (9, [.ref (ad 1 0 0), .ref (ad 2 0 0), .ref (ad 3 0 0), .ref (ad 8 0 0), .int (nI (nF σ 2))]) := (px0 hP).2.2
      have r1_31 : f (ad 1 0 0) = .inr (8, [.ref (ad 6 0 0), .ref (ad 7 0 0), .int (nI (nF σ 1)), .int (nI (nF σ 3))]) := (px1 hP).2.2
      refine g_aload_n (n := 1) hX dX7_cancel_0 rfl rfl rfl ?_
      refine g_iload_n (n := 2) hX dX7_cancel_1 rfl rfl rfl ?_
      refine g_pcallV (n := 5) (As := [.int u]) (rest := []) hX hE hU hY dX7_cancel_2 rfl yv_X7_findUnit um_X7_61 (r_findUnitN _ _ hP hI hu) ⟨rfl, rfl⟩ (rm_le hRm rfl rfl) rfl (px0 hP).1 r0_30 rfl rfl rfl (Nat.le_of_ble_eq_true rfl) ⟨Nat.zero_le _, Nat.zero_le _⟩ (fun v0 w0 hq0 => ?_)
      obtain ⟨rfl, rfl⟩ := hq0
      show G Γ (va_pl L f) 0 0 5 [(0, .ref (ad 0 0 0)), (1, .int u), (2, .int p)] [.null]
      refine g_astore_nN (lv' := [(3, .null), (0, .ref (ad 0 0 0)), (1, .int u), (2, .int p)]) (n := 6) hX dX7_cancel_5 rfl rfl (by rw [hnL]; rfl) rfl ?_
      refine g_aload_n (n := 7) hX dX7_cancel_6 rfl rfl rfl ?_
      refine g_pget (n := 10) ux_X7 rfl hX hU dX7_cancel_7 rfl (px0 hP).1 r0_30 0 rfl uf_X7_10 rfl ?_
      refine g_iload_n (n := 11) hX dX7_cancel_10 rfl rfl rfl ?_
      refine g_pcallV (n := 14) (As := [.int p]) (rest := []) hX hE hU hY dX7_cancel_11 rfl yv_X6_findProgram um_X7_42 (r_findProgramN _ _ hP hI hp) ⟨rfl, rfl⟩ (rm_le hRm rfl rfl) rfl (px1 hP).1 r1_31 rfl rfl rfl (Nat.le_of_ble_eq_true rfl) ⟨Nat.zero_le _, Nat.zero_le _⟩ (fun v0 w0 hq0 => ?_)
      obtain ⟨rfl, rfl⟩ := hq0
      show G Γ (va_pl L f) 0 0 14 [(3, .null), (0, .ref (ad 0 0 0)), (1, .int u), (2, .int p)] [.null]
      refine g_astoreN (lv' := [(4, .null), (3, .null), (0, .ref (ad 0 0 0)), (1, .int u), (2, .int p)]) (n := 16) hX dX7_cancel_14 rfl (by rw [hnL]; rfl) rfl ?_
      refine g_aload_nN (n := 17) hX dX7_cancel_16 rfl rfl rfl ?_
      refine g_ifnullN (tgt := 25) hX dX7_cancel_17 (by decide) ?_
      refine g_bipush (n := 27) (v := (-2)) hX dX7_cancel_25 rfl rfl ?_
      exact g_iret hX hR dX7_cancel_27 ⟨by rw [hS], by rw [hS]; exact RW_rd hQ (cor_F0 σ 0)⟩

set_option maxHeartbeats 4000000 in
set_option maxRecDepth 100000 in
theorem F_program (l : Launch) (D : va_G) (K : Nat → ClassId) (L : List Nat) (f : Nat → va_E) (ad : AD) (κ : TG) (g : GX) (σ : MS) (z x : Int32) (hQ : RX K L f ad κ g σ 0) (hsf : isB x) : Mc l yX7_program (wM yX7_program cX7_program 3 (some .int)) (rmL 3 2 65) D (yY K) [.ref (ad 0 0 0), .int z, .int x] (va_pl L f) (fun v w => v = some (.int (S_program σ z x).1) ∧ RW K (ad 0 0 0) (S_program σ z x).2 w) 2 65 := by
  refine m_start (lv := [(0, .ref (ad 0 0 0)), (1, .int z), (2, .int x)]) rfl (Nat.le_of_ble_eq_true rfl) rfl (fun Γ hX hRm hnL hY hDD hLa hR hI hE => ?_)
  have hU : ∀ w ∈ wU, w ∈ wM yX7_program cX7_program 3 (some .int) := fun w h => wM_in h
  subst hLa
  subst hDD
  have hP := hQ.1
  have hL := hQ.2.1
  have hI := hQ.2.2
  by_cases h1 : 1 ≤ z
  · by_cases h2 : z ≤ 100
    · obtain ⟨z, hz0, rfl⟩ := nI_of (Int32.not_lt.mpr (Int32.le_trans (by decide) h1))
      have hz1 : 1 ≤ z := by rcases Nat.eq_zero_or_pos z with h9 | h9; (rw [h9] at h1; exact absurd h1 (by decide)); exact h9
      have hz2 : z ≤ 100 := (nI_leI (b := 100) hz0 (by decide)).mp h2
      by_cases hn : nF σ 1 < 12
      · have hS : S_program σ (nI z) x = (nI (nF σ 1 + 1), sP σ (nI z) x) := by simp only [S_program, if_neg (Int32.not_lt.mpr h1), if_pos h2, if_neg (show ¬ nF σ 1 = 12 by omega), sP]
        have r0_32 : f (ad 0 0 0) = .inr (9, [.ref (ad 1 0 0), .ref (ad 2 0 0), .ref (ad 3 0 0), .ref (ad 8 0 0), .int (nI (nF σ 2))]) := (px0 hP).2.2
        have r1_33 : f (ad 1 0 0) = .inr (8, [.ref (ad 6 0 0), .ref (ad 7 0 0), .int (nI (nF σ 1)), .int (nI (nF σ 3))]) := (px1 hP).2.2
        refine g_iload_n (n := 1) hX dX7_program_0 rfl rfl rfl ?_
        refine g_iconst (n := 2) (v := 1) hX dX7_program_1 rfl rfl ?_
        refine g_icmp_lt (n := 5) (tgt := 11) hX dX7_program_2 rfl (by decide) (fun c2 => absurd c2 (Int32.not_lt.mpr h1)) (fun c2 => ?_)
        refine g_iload_n (n := 6) hX dX7_program_5 rfl rfl rfl ?_
        refine g_bipush (n := 8) (v := 100) hX dX7_program_6 rfl rfl ?_
        refine g_icmp_le (n := 11) (tgt := 14) hX dX7_program_8 rfl (by decide) (fun c8 => ?_) (fun c8 => absurd h2 c8)
        refine g_aload_n (n := 15) hX dX7_program_14 rfl rfl rfl ?_
        refine g_pget (n := 18) ux_X7 rfl hX hU dX7_program_15 rfl (px0 hP).1 r0_32 0 rfl uf_X7_10 rfl ?_
        refine g_iload_n (n := 19) hX dX7_program_18 rfl rfl rfl ?_
        refine g_iload_n (n := 20) hX dX7_program_19 rfl rfl rfl ?_
        refine g_pcallV (n := 23) (As := [.int (nI z), .int x]) (rest := []) hX hE hU hY dX7_program_20 rfl yv_X6_addProgram um_X7_38 (x_addProgram _ _ K L f (nI z) x (ad 1 0 0) (ad 6 0 0) (ad 7 0 0) (nF σ 1) (gpr ad σ) (nI (nF σ 3)) (px1 hP).1 (px1 hP).2.2 (px6 hP).1 (px6 hP).2.2 hI.np.2 hsf) ⟨rfl, rfl⟩ (rm_le hRm rfl rfl) rfl (px1 hP).1 r1_33 rfl rfl rfl (Nat.le_of_ble_eq_true rfl) (by rw [hRm]; decide) (fun v0 w0 hq0 => ?_)
        obtain ⟨-, rfl, q, q1, hq, hq1, f1, rfl, ef⟩ := hq0.resolve_left (fun h9 => h9.1 hn)
        show G Γ (va_pl (L ++ [q] ++ [q1]) f1) 2 65 23 [(0, .ref (ad 0 0 0)), (1, .int (nI z)), (2, .int x)] [.int (nI (nF σ 1 + 1))]
        exact g_iret hX hR dX7_program_23 ⟨by rw [hS], by rw [hS, ef]; exact RW_mk (PX_program hP hI hq hq1 hn rfl hz2) (Lk_program hI hL (nI z) x) (Inv_program hI hn rfl hz1 hz2 hsf) (by rw [adS_t (tne (by decide)), adS_t (tne (by decide))])⟩
      · have hS : S_program σ (nI z) x = (-1, sF σ 0 0) := by simp only [S_program, if_neg (Int32.not_lt.mpr h1), if_pos h2, if_pos (show nF σ 1 = 12 by have := hI.np.2; omega)]
        have r0_34 : f (ad 0 0 0) = .inr (9, [.ref (ad 1 0 0), .ref (ad 2 0 0), .ref (ad 3 0 0), .ref (ad 8 0 0), .int (nI (nF σ 2))]) := (px0 hP).2.2
        have r1_35 : f (ad 1 0 0) = .inr (8, [.ref (ad 6 0 0), .ref (ad 7 0 0), .int (nI (nF σ 1)), .int (nI (nF σ 3))]) := (px1 hP).2.2
        refine g_iload_n (n := 1) hX dX7_program_0 rfl rfl rfl ?_
        refine g_iconst (n := 2) (v := 1) hX dX7_program_1 rfl rfl ?_
        refine g_icmp_lt (n := 5) (tgt := 11) hX dX7_program_2 rfl (by decide) (fun c2 => absurd c2 (Int32.not_lt.mpr h1)) (fun c2 => ?_)
        refine g_iload_n (n := 6) hX dX7_program_5 rfl rfl rfl ?_
        refine g_bipush (n := 8) (v := 100) hX dX7_program_6 rfl rfl ?_
        refine g_icmp_le (n := 11) (tgt := 14) hX dX7_program_8 rfl (by decide) (fun c8 => ?_) (fun c8 => absurd h2 c8)
        refine g_aload_n (n := 15) hX dX7_program_14 rfl rfl rfl ?_
        refine g_pget (n := 18) ux_X7 rfl hX hU dX7_program_15 rfl (px0 hP).1 r0_34 0 rfl uf_X7_10 rfl ?_
        refine g_iload_n (n := 19) hX dX7_program_18 rfl rfl rfl ?_
        refine g_iload_n (n := 20) hX dX7_program_19 rfl rfl rfl ?_
        refine g_pcallV (n := 23) (As := [.int (nI z), .int x]) (rest := []) hX hE hU hY dX7_program_20 rfl yv_X6_addProgram um_X7_38 (x_addProgram _ _ K L f (nI z) x (ad 1 0 0) (ad 6 0 0) (ad 7 0 0) (nF σ 1) (gpr ad σ) (nI (nF σ 3)) (px1 hP).1 (px1 hP).2.2 (px6 hP).1 (px6 hP).2.2 hI.np.2 hsf) ⟨rfl, rfl⟩ (rm_le hRm rfl rfl) rfl (px1 hP).1 r1_35 rfl rfl rfl (Nat.le_of_ble_eq_true rfl) (by rw [hRm]; decide) (fun v0 w0 hq0 => ?_)
        obtain ⟨-, rfl, rfl⟩ := hq0.resolve_right (fun h9 => absurd h9.1 hn)
        show G Γ (va_pl L f) 2 65 23 [(0, .ref (ad 0 0 0)), (1, .int (nI z)), (2, .int x)] [.int (-1)]
        exact g_iret hX hR dX7_program_23 ⟨by rw [hS], by rw [hS]; exact RW_rd hQ (cor_F0 σ 0)⟩
    · have hS : S_program σ z x = (-4, sF σ 0 0) := by simp only [S_program, if_neg (Int32.not_lt.mpr h1), if_neg h2]
      have r0_36 : f (ad 0 0 0) = .inr (9, [.ref (ad 1 0 0), .ref (ad 2 0 0), .ref (ad 3 0 0), .ref (ad 8 0 0), .int (nI (nF σ 2))]) := (px0 hP).2.2
      have r1_37 : f (ad 1 0 0) = .inr (8, [.ref (ad 6 0 0), .ref (ad 7 0 0), .int (nI (nF σ 1)), .int (nI (nF σ 3))]) := (px1 hP).2.2
      refine g_iload_n (n := 1) hX dX7_program_0 rfl rfl rfl ?_
      refine g_iconst (n := 2) (v := 1) hX dX7_program_1 rfl rfl ?_
      refine g_icmp_lt (n := 5) (tgt := 11) hX dX7_program_2 rfl (by decide) (fun c2 => absurd c2 (Int32.not_lt.mpr h1)) (fun c2 => ?_)
      refine g_iload_n (n := 6) hX dX7_program_5 rfl rfl rfl ?_
      refine g_bipush (n := 8) (v := 100) hX dX7_program_6 rfl rfl ?_
      refine g_icmp_le (n := 11) (tgt := 14) hX dX7_program_8 rfl (by decide) (fun c8 => absurd c8 h2) (fun c8 => ?_)
      refine g_bipush (n := 13) (v := (-4)) hX dX7_program_11 rfl rfl ?_
      refine g_widen (kc' := 2) (ks' := 65) (Nat.le_of_ble_eq_true rfl) (Nat.le_of_ble_eq_true rfl) ?_
      exact g_iret hX hR dX7_program_13 ⟨by rw [hS], by rw [hS]; exact RW_rd hQ (cor_F0 σ 0)⟩
  · have hS : S_program σ z x = (-4, sF σ 0 0) := by simp only [S_program, if_pos (Int32.not_le.mp h1)]
    have r0_38 : f (ad 0 0 0) = .inr (9, [.ref (ad 1 0 0), .ref (ad 2 0 0), .ref (ad 3 0 0), .ref (ad 8 0 0), .int (nI (nF σ 2))]) := (px0 hP).2.2
    have r1_39 : f (ad 1 0 0) = .inr (8, [.ref (ad 6 0 0), .ref (ad 7 0 0), .int (nI (nF σ 1)), .int (nI (nF σ 3))]) := (px1 hP).2.2
    refine g_iload_n (n := 1) hX dX7_program_0 rfl rfl rfl ?_
    refine g_iconst (n := 2) (v := 1) hX dX7_program_1 rfl rfl ?_
    refine g_icmp_lt (n := 5) (tgt := 11) hX dX7_program_2 rfl (by decide) (fun c2 => ?_) (fun c2 => absurd (Int32.not_le.mp h1) c2)
    refine g_bipush (n := 13) (v := (-4)) hX dX7_program_11 rfl rfl ?_
    refine g_widen (kc' := 2) (ks' := 65) (Nat.le_of_ble_eq_true rfl) (Nat.le_of_ble_eq_true rfl) ?_
    exact g_iret hX hR dX7_program_13 ⟨by rw [hS], by rw [hS]; exact RW_rd hQ (cor_F0 σ 0)⟩

set_option maxHeartbeats 4000000 in
set_option maxRecDepth 100000 in
theorem F_code (l : Launch) (D : va_G) (K : Nat → ClassId) (L : List Nat) (f : Nat → va_E) (ad : AD) (κ : TG) (g : GX) (σ : MS) (p x a b : Int32) (hQ : RX K L f ad κ g σ 0) : Mc l yX7_code (wM yX7_code cX7_code 6 (some .int)) (rmL 3 1 3) D (yY K) [.ref (ad 0 0 0), .int p, .int x, .int a, .int b] (va_pl L f) (fun v w => v = some (.int (S_code σ p x a b).1) ∧ RW K (ad 0 0 0) (S_code σ p x a b).2 w) 1 3 := by
  refine m_start (lv := [(0, .ref (ad 0 0 0)), (1, .int p), (2, .int x), (3, .int a), (4, .int b)]) rfl (Nat.le_of_ble_eq_true rfl) rfl (fun Γ hX hRm hnL hY hDD hLa hR hI hE => ?_)
  have hU : ∀ w ∈ wU, w ∈ wM yX7_code cX7_code 6 (some .int) := fun w h => wM_in h
  subst hLa
  subst hDD
  have hP := hQ.1
  have hL := hQ.2.1
  have hI := hQ.2.2
  by_cases hp : 1 ≤ p ∧ p ≤ σ.2 1
  · obtain ⟨m, rfl, hp1, hp8, -, hp2⟩ := in1 hI.1.1 (by decide) hp
    have hp2 : m ≤ nF σ 1 := hp2
    have ehp : (nI m).toNatClampNeg = m := nI_clamp (by omega)
    by_cases hok : okB (nI (nA σ 0 m)) x a b = 0
    · have hS : S_code σ (nI m) x a b = (-4, sF σ 0 0) := by simp only [S_code, if_pos hp, ehp, (hI.sz hp8).1, if_pos hok]
      have r0_40 : f (ad 0 0 0) = .inr (9, [.ref (ad 1 0 0), .ref (ad 2 0 0), .ref (ad 3 0 0), .ref (ad 8 0 0), .int (nI (nF σ 2))]) := (px0 hP).2.2
      have r1_41 : f (ad 1 0 0) = .inr (8, [.ref (ad 6 0 0), .ref (ad 7 0 0), .int (nI (nF σ 1)), .int (nI (nF σ 3))]) := (px1 hP).2.2
      have r9_42 : f (ad 9 m 0) = .inr (5, [.int (nI m), .int (nI (nA σ 0 m)), .int (σ.1 5 m), .ref (ad 10 m 0), .int (nI (nA σ 1 m))]) := (px9 hP m hp1 hp2).2.2
      refine g_aload_n (n := 1) hX dX7_code_0 rfl rfl rfl ?_
      refine g_pget (n := 4) ux_X7 rfl hX hU dX7_code_1 rfl (px0 hP).1 r0_40 0 rfl uf_X7_10 rfl ?_
      refine g_iload_n (n := 5) hX dX7_code_4 rfl rfl rfl ?_
      refine g_pcallV (n := 8) (As := [.int (nI m)]) (rest := []) hX hE hU hY dX7_code_5 rfl yv_X6_findProgram um_X7_42 (r_findProgramY _ _ hP hI hp1 hp2) ⟨rfl, rfl⟩ (rm_le hRm rfl rfl) rfl (px1 hP).1 r1_41 rfl rfl rfl (Nat.le_of_ble_eq_true rfl) ⟨Nat.zero_le _, Nat.zero_le _⟩ (fun v0 w0 hq0 => ?_)
      obtain ⟨rfl, rfl⟩ := hq0
      show G Γ (va_pl L f) 0 0 8 [(0, .ref (ad 0 0 0)), (1, .int (nI m)), (2, .int x), (3, .int a), (4, .int b)] [.ref (ad 9 m 0)]
      refine g_astore (lv' := [(5, .ref (ad 9 m 0)), (0, .ref (ad 0 0 0)), (1, .int (nI m)), (2, .int x), (3, .int a), (4, .int b)]) (n := 10) hX dX7_code_8 rfl (by rw [hnL]; rfl) rfl ?_
      refine g_aload (n := 12) hX dX7_code_10 rfl rfl ?_
      refine g_ifnonnull (tgt := 18) hX dX7_code_12 (by decide) ?_
      refine g_aload (n := 20) hX dX7_code_18 rfl rfl ?_
      refine g_iload_n (n := 21) hX dX7_code_20 rfl rfl rfl ?_
      refine g_iload_n (n := 22) hX dX7_code_21 rfl rfl rfl ?_
      refine g_iload (n := 24) hX dX7_code_22 rfl rfl ?_
      refine g_pcallV (n := 27) (As := [.int x, .int a, .int b]) (rest := []) hX hE hU hY dX7_code_24 rfl yv_X3_takes um_X7_46 (x_takes _ _ K L f x a b (ad 9 m 0) (ad 10 m 0) (nA σ 0 m) (nI m) (σ.1 5 m) (nI (nA σ 1 m)) (px9 hP m hp1 hp2).1 (px9 hP m hp1 hp2).2.2 (hI.prog m hp1 hp2).1 (hI.sz hp8).2) ⟨rfl, rfl⟩ (rm_le hRm rfl rfl) rfl (px9 hP m hp1 hp2).1 r9_42 rfl rfl rfl (Nat.le_of_ble_eq_true rfl) ⟨Nat.zero_le _, Nat.zero_le _⟩ (fun v0 w0 hq0 => ?_)
      obtain ⟨rfl, rfl⟩ := hq0
      show G Γ (va_pl L f) 0 0 27 [(5, .ref (ad 9 m 0)), (0, .ref (ad 0 0 0)), (1, .int (nI m)), (2, .int x), (3, .int a), (4, .int b)] [.int (okB (nI (nA σ 0 m)) x a b)]
      refine g_if_ne (n := 30) (tgt := 33) hX dX7_code_27 rfl (by decide) (fun c27 => absurd hok c27) (fun c27 => ?_)
      refine g_bipush (n := 32) (v := (-4)) hX dX7_code_30 rfl rfl ?_
      refine g_widen (kc' := 1) (ks' := 3) (Nat.le_of_ble_eq_true rfl) (Nat.le_of_ble_eq_true rfl) ?_
      exact g_iret hX hR dX7_code_32 ⟨by rw [hS], by rw [hS]; exact RW_rd hQ (cor_F0 σ 0)⟩
    · by_cases hn : nA σ 1 m < 60
      · have hS : S_code σ (nI m) x a b = (nI (nA σ 1 m + 1), sR σ m x a b) := by simp only [S_code, if_pos hp, ehp, (hI.sz hp8).1, if_neg hok, if_neg (show ¬ nA σ 1 m = 60 by omega), sR]
        have r0_43 : f (ad 0 0 0) = .inr (9, [.ref (ad 1 0 0), .ref (ad 2 0 0), .ref (ad 3 0 0), .ref (ad 8 0 0), .int (nI (nF σ 2))]) := (px0 hP).2.2
        have r1_44 : f (ad 1 0 0) = .inr (8, [.ref (ad 6 0 0), .ref (ad 7 0 0), .int (nI (nF σ 1)), .int (nI (nF σ 3))]) := (px1 hP).2.2
        have r9_45 : f (ad 9 m 0) = .inr (5, [.int (nI m), .int (nI (nA σ 0 m)), .int (σ.1 5 m), .ref (ad 10 m 0), .int (nI (nA σ 1 m))]) := (px9 hP m hp1 hp2).2.2
        refine g_aload_n (n := 1) hX dX7_code_0 rfl rfl rfl ?_
        refine g_pget (n := 4) ux_X7 rfl hX hU dX7_code_1 rfl (px0 hP).1 r0_43 0 rfl uf_X7_10 rfl ?_
        refine g_iload_n (n := 5) hX dX7_code_4 rfl rfl rfl ?_
        refine g_pcallV (n := 8) (As := [.int (nI m)]) (rest := []) hX hE hU hY dX7_code_5 rfl yv_X6_findProgram um_X7_42 (r_findProgramY _ _ hP hI hp1 hp2) ⟨rfl, rfl⟩ (rm_le hRm rfl rfl) rfl (px1 hP).1 r1_44 rfl rfl rfl (Nat.le_of_ble_eq_true rfl) ⟨Nat.zero_le _, Nat.zero_le _⟩ (fun v0 w0 hq0 => ?_)
        obtain ⟨rfl, rfl⟩ := hq0
        show G Γ (va_pl L f) 0 0 8 [(0, .ref (ad 0 0 0)), (1, .int (nI m)), (2, .int x), (3, .int a), (4, .int b)] [.ref (ad 9 m 0)]
        refine g_astore (lv' := [(5, .ref (ad 9 m 0)), (0, .ref (ad 0 0 0)), (1, .int (nI m)), (2, .int x), (3, .int a), (4, .int b)]) (n := 10) hX dX7_code_8 rfl (by rw [hnL]; rfl) rfl ?_
        refine g_aload (n := 12) hX dX7_code_10 rfl rfl ?_
        refine g_ifnonnull (tgt := 18) hX dX7_code_12 (by decide) ?_
        refine g_aload (n := 20) hX dX7_code_18 rfl rfl ?_
        refine g_iload_n (n := 21) hX dX7_code_20 rfl rfl rfl ?_
        refine g_iload_n (n := 22) hX dX7_code_21 rfl rfl rfl ?_
        refine g_iload (n := 24) hX dX7_code_22 rfl rfl ?_
        refine g_pcallV (n := 27) (As := [.int x, .int a, .int b]) (rest := []) hX hE hU hY dX7_code_24 rfl yv_X3_takes um_X7_46 (x_takes _ _ K L f x a b (ad 9 m 0) (ad 10 m 0) (nA σ 0 m) (nI m) (σ.1 5 m) (nI (nA σ 1 m)) (px9 hP m hp1 hp2).1 (px9 hP m hp1 hp2).2.2 (hI.prog m hp1 hp2).1 (hI.sz hp8).2) ⟨rfl, rfl⟩ (rm_le hRm rfl rfl) rfl (px9 hP m hp1 hp2).1 r9_45 rfl rfl rfl (Nat.le_of_ble_eq_true rfl) ⟨Nat.zero_le _, Nat.zero_le _⟩ (fun v0 w0 hq0 => ?_)
        obtain ⟨rfl, rfl⟩ := hq0
        show G Γ (va_pl L f) 0 0 27 [(5, .ref (ad 9 m 0)), (0, .ref (ad 0 0 0)), (1, .int (nI m)), (2, .int x), (3, .int a), (4, .int b)] [.int (okB (nI (nA σ 0 m)) x a b)]
        refine g_if_ne (n := 30) (tgt := 33) hX dX7_code_27 rfl (by decide) (fun c27 => ?_) (fun c27 => absurd c27 hok)
        refine g_aload (n := 35) hX dX7_code_33 rfl rfl ?_
        refine g_iload_n (n := 36) hX dX7_code_35 rfl rfl rfl ?_
        refine g_iload_n (n := 37) hX dX7_code_36 rfl rfl rfl ?_
        refine g_iload (n := 39) hX dX7_code_37 rfl rfl ?_
        refine g_pcallV (n := 42) (As := [.int x, .int a, .int b]) (rest := []) hX hE hU hY dX7_code_39 rfl yv_X3_addRow um_X7_52 (x_addRow _ _ K L f x a b (ad 9 m 0) (ad 10 m 0) (nA σ 1 m) (grw ad σ m) (nI m) (nI (nA σ 0 m)) (σ.1 5 m) (px9 hP m hp1 hp2).1 (px9 hP m hp1 hp2).2.2 (px10 hP m hp1 hp2).1 (px10 hP m hp1 hp2).2.2 (hI.rc hp8).2) ⟨rfl, rfl⟩ (rm_le hRm rfl rfl) rfl (px9 hP m hp1 hp2).1 r9_45 rfl rfl rfl (Nat.le_of_ble_eq_true rfl) (by rw [hRm]; decide) (fun v0 w0 hq0 => ?_)
        obtain ⟨-, rfl, q, f1, hq, rfl, ef⟩ := hq0.resolve_left (fun h9 => h9.1 hn)
        show G Γ (va_pl (L ++ [q]) f1) 1 3 42 [(5, .ref (ad 9 m 0)), (0, .ref (ad 0 0 0)), (1, .int (nI m)), (2, .int x), (3, .int a), (4, .int b)] [.int (nI (nA σ 1 m + 1))]
        exact g_iret hX hR dX7_code_42 ⟨by rw [hS], by rw [hS, ef]; exact RW_mk (PX_row hP hI hq hp1 hp2 hn x a b) (Lk_row hI hL hn x a b) (Inv_row hI hp1 hp2 hn hok) (by rw [adS_t (tne (by decide))])⟩
      · have hS : S_code σ (nI m) x a b = (-1, sF σ 0 0) := by simp only [S_code, if_pos hp, ehp, (hI.sz hp8).1, if_neg hok, if_pos (show nA σ 1 m = 60 by have := (hI.rc hp8).2; omega)]
        have r0_46 : f (ad 0 0 0) = .inr (9, [.ref (ad 1 0 0), .ref (ad 2 0 0), .ref (ad 3 0 0), .ref (ad 8 0 0), .int (nI (nF σ 2))]) := (px0 hP).2.2
        have r1_47 : f (ad 1 0 0) = .inr (8, [.ref (ad 6 0 0), .ref (ad 7 0 0), .int (nI (nF σ 1)), .int (nI (nF σ 3))]) := (px1 hP).2.2
        have r9_48 : f (ad 9 m 0) = .inr (5, [.int (nI m), .int (nI (nA σ 0 m)), .int (σ.1 5 m), .ref (ad 10 m 0), .int (nI (nA σ 1 m))]) := (px9 hP m hp1 hp2).2.2
        refine g_aload_n (n := 1) hX dX7_code_0 rfl rfl rfl ?_
        refine g_pget (n := 4) ux_X7 rfl hX hU dX7_code_1 rfl (px0 hP).1 r0_46 0 rfl uf_X7_10 rfl ?_
        refine g_iload_n (n := 5) hX dX7_code_4 rfl rfl rfl ?_
        refine g_pcallV (n := 8) (As := [.int (nI m)]) (rest := []) hX hE hU hY dX7_code_5 rfl yv_X6_findProgram um_X7_42 (r_findProgramY _ _ hP hI hp1 hp2) ⟨rfl, rfl⟩ (rm_le hRm rfl rfl) rfl (px1 hP).1 r1_47 rfl rfl rfl (Nat.le_of_ble_eq_true rfl) ⟨Nat.zero_le _, Nat.zero_le _⟩ (fun v0 w0 hq0 => ?_)
        obtain ⟨rfl, rfl⟩ := hq0
        show G Γ (va_pl L f) 0 0 8 [(0, .ref (ad 0 0 0)), (1, .int (nI m)), (2, .int x), (3, .int a), (4, .int b)] [.ref (ad 9 m 0)]
        refine g_astore (lv' := [(5, .ref (ad 9 m 0)), (0, .ref (ad 0 0 0)), (1, .int (nI m)), (2, .int x), (3, .int a), (4, .int b)]) (n := 10) hX dX7_code_8 rfl (by rw [hnL]; rfl) rfl ?_
        refine g_aload (n := 12) hX dX7_code_10 rfl rfl ?_
        refine g_ifnonnull (tgt := 18) hX dX7_code_12 (by decide) ?_
        refine g_aload (n := 20) hX dX7_code_18 rfl rfl ?_
        refine g_iload_n (n := 21) hX dX7_code_20 rfl rfl rfl ?_
        refine g_iload_n (n := 22) hX dX7_code_21 rfl rfl rfl ?_
        refine g_iload (n := 24) hX dX7_code_22 rfl rfl ?_
        refine g_pcallV (n := 27) (As := [.int x, .int a, .int b]) (rest := []) hX hE hU hY dX7_code_24 rfl yv_X3_takes um_X7_46 (x_takes _ _ K L f x a b (ad 9 m 0) (ad 10 m 0) (nA σ 0 m) (nI m) (σ.1 5 m) (nI (nA σ 1 m)) (px9 hP m hp1 hp2).1 (px9 hP m hp1 hp2).2.2 (hI.prog m hp1 hp2).1 (hI.sz hp8).2) ⟨rfl, rfl⟩ (rm_le hRm rfl rfl) rfl (px9 hP m hp1 hp2).1 r9_48 rfl rfl rfl (Nat.le_of_ble_eq_true rfl) ⟨Nat.zero_le _, Nat.zero_le _⟩ (fun v0 w0 hq0 => ?_)
        obtain ⟨rfl, rfl⟩ := hq0
        show G Γ (va_pl L f) 0 0 27 [(5, .ref (ad 9 m 0)), (0, .ref (ad 0 0 0)), (1, .int (nI m)), (2, .int x), (3, .int a), (4, .int b)] [.int (okB (nI (nA σ 0 m)) x a b)]
        refine g_if_ne (n := 30) (tgt := 33) hX dX7_code_27 rfl (by decide) (fun c27 => ?_) (fun c27 => absurd c27 hok)
        refine g_aload (n := 35) hX dX7_code_33 rfl rfl ?_
        refine g_iload_n (n := 36) hX dX7_code_35 rfl rfl rfl ?_
        refine g_iload_n (n := 37) hX dX7_code_36 rfl rfl rfl ?_
        refine g_iload (n := 39) hX dX7_code_37 rfl rfl ?_
        refine g_pcallV (n := 42) (As := [.int x, .int a, .int b]) (rest := []) hX hE hU hY dX7_code_39 rfl yv_X3_addRow um_X7_52 (x_addRow _ _ K L f x a b (ad 9 m 0) (ad 10 m 0) (nA σ 1 m) (grw ad σ m) (nI m) (nI (nA σ 0 m)) (σ.1 5 m) (px9 hP m hp1 hp2).1 (px9 hP m hp1 hp2).2.2 (px10 hP m hp1 hp2).1 (px10 hP m hp1 hp2).2.2 (hI.rc hp8).2) ⟨rfl, rfl⟩ (rm_le hRm rfl rfl) rfl (px9 hP m hp1 hp2).1 r9_48 rfl rfl rfl (Nat.le_of_ble_eq_true rfl) (by rw [hRm]; decide) (fun v0 w0 hq0 => ?_)
        obtain ⟨-, rfl, rfl⟩ := hq0.resolve_right (fun h9 => absurd h9.1 hn)
        show G Γ (va_pl L f) 1 3 42 [(5, .ref (ad 9 m 0)), (0, .ref (ad 0 0 0)), (1, .int (nI m)), (2, .int x), (3, .int a), (4, .int b)] [.int (-1)]
        exact g_iret hX hR dX7_code_42 ⟨by rw [hS], by rw [hS]; exact RW_rd hQ (cor_F0 σ 0)⟩
  · have hS : S_code σ p x a b = (-2, sF σ 0 0) := by simp only [S_code, if_neg hp]
    have r0_49 : f (ad 0 0 0) = .inr (9, [.ref (ad 1 0 0), .ref (ad 2 0 0), .ref (ad 3 0 0), .ref (ad 8 0 0), .int (nI (nF σ 2))]) := (px0 hP).2.2
    have r1_50 : f (ad 1 0 0) = .inr (8, [.ref (ad 6 0 0), .ref (ad 7 0 0), .int (nI (nF σ 1)), .int (nI (nF σ 3))]) := (px1 hP).2.2
    refine g_aload_n (n := 1) hX dX7_code_0 rfl rfl rfl ?_
    refine g_pget (n := 4) ux_X7 rfl hX hU dX7_code_1 rfl (px0 hP).1 r0_49 0 rfl uf_X7_10 rfl ?_
    refine g_iload_n (n := 5) hX dX7_code_4 rfl rfl rfl ?_
    refine g_pcallV (n := 8) (As := [.int p]) (rest := []) hX hE hU hY dX7_code_5 rfl yv_X6_findProgram um_X7_42 (r_findProgramN _ _ hP hI hp) ⟨rfl, rfl⟩ (rm_le hRm rfl rfl) rfl (px1 hP).1 r1_50 rfl rfl rfl (Nat.le_of_ble_eq_true rfl) ⟨Nat.zero_le _, Nat.zero_le _⟩ (fun v0 w0 hq0 => ?_)
    obtain ⟨rfl, rfl⟩ := hq0
    show G Γ (va_pl L f) 0 0 8 [(0, .ref (ad 0 0 0)), (1, .int p), (2, .int x), (3, .int a), (4, .int b)] [.null]
    refine g_astoreN (lv' := [(5, .null), (0, .ref (ad 0 0 0)), (1, .int p), (2, .int x), (3, .int a), (4, .int b)]) (n := 10) hX dX7_code_8 rfl (by rw [hnL]; rfl) rfl ?_
    refine g_aloadN (n := 12) hX dX7_code_10 rfl rfl ?_
    refine g_ifnonnullN (n := 15) hX dX7_code_12 rfl ?_
    refine g_bipush (n := 17) (v := (-2)) hX dX7_code_15 rfl rfl ?_
    refine g_widen (kc' := 1) (ks' := 3) (Nat.le_of_ble_eq_true rfl) (Nat.le_of_ble_eq_true rfl) ?_
    exact g_iret hX hR dX7_code_17 ⟨by rw [hS], by rw [hS]; exact RW_rd hQ (cor_F0 σ 0)⟩

