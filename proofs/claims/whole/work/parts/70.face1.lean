set_option maxHeartbeats 4000000 in
set_option maxRecDepth 100000 in
theorem F_raised (l : Launch) (D : va_G) (K : Nat → ClassId) (L : List Nat) (f : Nat → va_E) (ad : AD) (κ : TG) (g : GX) (σ : MS) (u : Int32) (hQ : RX K L f ad κ g σ 0) : Mc l yX7_raised (wM yX7_raised cX7_raised 3 (some .int)) (rmL 1 0 0) D (yY K) [.ref (ad 0 0 0), .int u] (va_pl L f) (fun v w => v = some (.int (S_raised σ u).1) ∧ RW K (ad 0 0 0) (S_raised σ u).2 w) 0 0 := by
  refine m_start (lv := [(0, .ref (ad 0 0 0)), (1, .int u)]) rfl (Nat.le_of_ble_eq_true rfl) rfl (fun Γ hX hRm hnL hY hDD hLa hR hI hE => ?_)
  have hU : ∀ w ∈ wU, w ∈ wM yX7_raised cX7_raised 3 (some .int) := fun w h => wM_in h
  subst hLa
  subst hDD
  have hP := hQ.1
  have hL := hQ.2.1
  have hI := hQ.2.2
  by_cases hu : 1 ≤ u ∧ u ≤ σ.2 2
  · obtain ⟨n, rfl, hu1, hu8, -, hu2⟩ := in1 hI.1.2.1 (by decide) hu
    have hu2 : n ≤ nF σ 2 := hu2
    have ehu : (nI n).toNatClampNeg = n := nI_clamp (by omega)
    have hS : S_raised σ (nI n) = (σ.1 15 n, sF σ 0 0) := by simp only [S_raised, if_pos hu, ehu]
    have r0_1 : f (ad 0 0 0) = .inr (9, [.ref (ad 1 0 0), .ref (ad 2 0 0), .ref (ad 3 0 0), .ref (ad 8 0 0), .int (nI (nF σ 2))]) := (px0 hP).2.2
    have r12_2 : f (ad 12 n 0) = .inr (7, [.ref (ad 13 n 0), .ref (ad 14 n 0), .int (σ.1 12 n), .int (σ.1 13 n), .int (gfl g n), .int (geb g n), .int (σ.1 17 n), .int (σ.1 18 n), .int (nI (nA σ 19 n))]) := (px12 hP n hu1 hu2).2.2
    refine g_aload_n (n := 1) hX dX7_raised_0 rfl rfl rfl ?_
    refine g_iload_n (n := 2) hX dX7_raised_1 rfl rfl rfl ?_
    refine g_pcallV (n := 5) (As := [.int (nI n)]) (rest := []) hX hE hU hY dX7_raised_2 rfl yv_X7_findUnit um_X7_61 (r_findUnitY _ _ hP hI hu1 hu2) ⟨rfl, rfl⟩ (rm_le hRm rfl rfl) rfl (px0 hP).1 r0_1 rfl rfl rfl (Nat.le_of_ble_eq_true rfl) ⟨Nat.zero_le _, Nat.zero_le _⟩ (fun v0 w0 hq0 => ?_)
    obtain ⟨rfl, rfl⟩ := hq0
    show G Γ (va_pl L f) 0 0 5 [(0, .ref (ad 0 0 0)), (1, .int (nI n))] [.ref (ad 12 n 0)]
    refine g_astore_n (lv' := [(2, .ref (ad 12 n 0)), (0, .ref (ad 0 0 0)), (1, .int (nI n))]) (n := 6) hX dX7_raised_5 rfl rfl (by rw [hnL]; rfl) rfl ?_
    refine g_aload_n (n := 7) hX dX7_raised_6 rfl rfl rfl ?_
    refine g_ifnonnull (tgt := 15) hX dX7_raised_7 (by decide) ?_
    refine g_aload_n (n := 16) hX dX7_raised_15 rfl rfl rfl ?_
    refine g_pget (n := 19) ux_X5 rfl hX hU dX7_raised_16 rfl (px12 hP n hu1 hu2).1 r12_2 4 rfl uf_X7_89 rfl ?_
    exact g_iret hX hR dX7_raised_19 ⟨by rw [hS]; exact congrArg (fun z => some (Value.int z)) (hL.1 n hu1 hu2 (by omega)).1, by rw [hS]; exact RW_rd hQ (cor_F0 σ 0)⟩
  · have hS : S_raised σ u = (-2, sF σ 0 0) := by simp only [S_raised, if_neg hu]
    have r0_3 : f (ad 0 0 0) = .inr (9, [.ref (ad 1 0 0), .ref (ad 2 0 0), .ref (ad 3 0 0), .ref (ad 8 0 0), .int (nI (nF σ 2))]) := (px0 hP).2.2
    refine g_aload_n (n := 1) hX dX7_raised_0 rfl rfl rfl ?_
    refine g_iload_n (n := 2) hX dX7_raised_1 rfl rfl rfl ?_
    refine g_pcallV (n := 5) (As := [.int u]) (rest := []) hX hE hU hY dX7_raised_2 rfl yv_X7_findUnit um_X7_61 (r_findUnitN _ _ hP hI hu) ⟨rfl, rfl⟩ (rm_le hRm rfl rfl) rfl (px0 hP).1 r0_3 rfl rfl rfl (Nat.le_of_ble_eq_true rfl) ⟨Nat.zero_le _, Nat.zero_le _⟩ (fun v0 w0 hq0 => ?_)
    obtain ⟨rfl, rfl⟩ := hq0
    show G Γ (va_pl L f) 0 0 5 [(0, .ref (ad 0 0 0)), (1, .int u)] [.null]
    refine g_astore_nN (lv' := [(2, .null), (0, .ref (ad 0 0 0)), (1, .int u)]) (n := 6) hX dX7_raised_5 rfl rfl (by rw [hnL]; rfl) rfl ?_
    refine g_aload_nN (n := 7) hX dX7_raised_6 rfl rfl rfl ?_
    refine g_ifnonnullN (n := 10) hX dX7_raised_7 rfl ?_
    refine g_bipush (n := 12) (v := (-2)) hX dX7_raised_10 rfl rfl ?_
    refine g_goto (n := 19) hX dX7_raised_12 (by decide) ?_
    exact g_iret hX hR dX7_raised_19 ⟨by rw [hS], by rw [hS]; exact RW_rd hQ (cor_F0 σ 0)⟩

set_option maxHeartbeats 4000000 in
set_option maxRecDepth 100000 in
theorem F_told (l : Launch) (D : va_G) (K : Nat → ClassId) (L : List Nat) (f : Nat → va_E) (ad : AD) (κ : TG) (g : GX) (σ : MS) (u x : Int32) (hQ : RX K L f ad κ g σ 0) : Mc l yX7_told (wM yX7_told cX7_told 4 (some .int)) (rmL 1 0 0) D (yY K) [.ref (ad 0 0 0), .int u, .int x] (va_pl L f) (fun v w => v = some (.int (S_told σ u x).1) ∧ RW K (ad 0 0 0) (S_told σ u x).2 w) 0 0 := by
  refine m_start (lv := [(0, .ref (ad 0 0 0)), (1, .int u), (2, .int x)]) rfl (Nat.le_of_ble_eq_true rfl) rfl (fun Γ hX hRm hnL hY hDD hLa hR hI hE => ?_)
  have hU : ∀ w ∈ wU, w ∈ wM yX7_told cX7_told 4 (some .int) := fun w h => wM_in h
  subst hLa
  subst hDD
  have hP := hQ.1
  have hL := hQ.2.1
  have hI := hQ.2.2
  by_cases hu : 1 ≤ u ∧ u ≤ σ.2 2
  · obtain ⟨n, rfl, hu1, hu8, -, hu2⟩ := in1 hI.1.2.1 (by decide) hu
    have hu2 : n ≤ nF σ 2 := hu2
    have ehu : (nI n).toNatClampNeg = n := nI_clamp (by omega)
    by_cases h13 : σ.1 13 n = 0
    · have hS : S_told σ (nI n) x = (-1, sF σ 0 0) := by simp only [S_told, if_pos hu, ehu, if_pos h13]
      have r0_4 : f (ad 0 0 0) = .inr (9, [.ref (ad 1 0 0), .ref (ad 2 0 0), .ref (ad 3 0 0), .ref (ad 8 0 0), .int (nI (nF σ 2))]) := (px0 hP).2.2
      have r12_5 : f (ad 12 n 0) = .inr (7, [.ref (ad 13 n 0), .ref (ad 14 n 0), .int (σ.1 12 n), .int (σ.1 13 n), .int (gfl g n), .int (geb g n), .int (σ.1 17 n), .int (σ.1 18 n), .int (nI (nA σ 19 n))]) := (px12 hP n hu1 hu2).2.2
      refine g_aload_n (n := 1) hX dX7_told_0 rfl rfl rfl ?_
      refine g_iload_n (n := 2) hX dX7_told_1 rfl rfl rfl ?_
      refine g_pcallV (n := 5) (As := [.int (nI n)]) (rest := []) hX hE hU hY dX7_told_2 rfl yv_X7_findUnit um_X7_61 (r_findUnitY _ _ hP hI hu1 hu2) ⟨rfl, rfl⟩ (rm_le hRm rfl rfl) rfl (px0 hP).1 r0_4 rfl rfl rfl (Nat.le_of_ble_eq_true rfl) ⟨Nat.zero_le _, Nat.zero_le _⟩ (fun v0 w0 hq0 => ?_)
      obtain ⟨rfl, rfl⟩ := hq0
      show G Γ (va_pl L f) 0 0 5 [(0, .ref (ad 0 0 0)), (1, .int (nI n)), (2, .int x)] [.ref (ad 12 n 0)]
      refine g_astore_n (lv' := [(3, .ref (ad 12 n 0)), (0, .ref (ad 0 0 0)), (1, .int (nI n)), (2, .int x)]) (n := 6) hX dX7_told_5 rfl rfl (by rw [hnL]; rfl) rfl ?_
      refine g_aload_n (n := 7) hX dX7_told_6 rfl rfl rfl ?_
      refine g_ifnonnull (tgt := 13) hX dX7_told_7 (by decide) ?_
      refine g_aload_n (n := 14) hX dX7_told_13 rfl rfl rfl ?_
      refine g_pget (n := 17) ux_X5 rfl hX hU dX7_told_14 rfl (px12 hP n hu1 hu2).1 r12_5 3 rfl uf_X7_110 rfl ?_
      refine g_if_ne (n := 20) (tgt := 22) hX dX7_told_17 rfl (by decide) (fun c17 => absurd h13 c17) (fun c17 => ?_)
      refine g_iconst (n := 21) (v := (-1)) hX dX7_told_20 rfl rfl ?_
      exact g_iret hX hR dX7_told_21 ⟨by rw [hS], by rw [hS]; exact RW_rd hQ (cor_F0 σ 0)⟩
    · rcases sw_split x 0 3 with hsw | hsw
      · have hS : S_told σ (nI n) x = (-1, sF σ 0 0) := by simp only [S_told, if_pos hu, ehu, if_neg h13, if_neg (fun h9 : x = 0 => by rw [h9] at hsw; revert hsw; decide), if_neg (fun h9 : x = 1 => by rw [h9] at hsw; revert hsw; decide), if_neg (fun h9 : x = 2 => by rw [h9] at hsw; revert hsw; decide), if_neg (fun h9 : x = 3 => by rw [h9] at hsw; revert hsw; decide)]
        have r0_6 : f (ad 0 0 0) = .inr (9, [.ref (ad 1 0 0), .ref (ad 2 0 0), .ref (ad 3 0 0), .ref (ad 8 0 0), .int (nI (nF σ 2))]) := (px0 hP).2.2
        have r12_7 : f (ad 12 n 0) = .inr (7, [.ref (ad 13 n 0), .ref (ad 14 n 0), .int (σ.1 12 n), .int (σ.1 13 n), .int (gfl g n), .int (geb g n), .int (σ.1 17 n), .int (σ.1 18 n), .int (nI (nA σ 19 n))]) := (px12 hP n hu1 hu2).2.2
        refine g_aload_n (n := 1) hX dX7_told_0 rfl rfl rfl ?_
        refine g_iload_n (n := 2) hX dX7_told_1 rfl rfl rfl ?_
        refine g_pcallV (n := 5) (As := [.int (nI n)]) (rest := []) hX hE hU hY dX7_told_2 rfl yv_X7_findUnit um_X7_61 (r_findUnitY _ _ hP hI hu1 hu2) ⟨rfl, rfl⟩ (rm_le hRm rfl rfl) rfl (px0 hP).1 r0_6 rfl rfl rfl (Nat.le_of_ble_eq_true rfl) ⟨Nat.zero_le _, Nat.zero_le _⟩ (fun v0 w0 hq0 => ?_)
        obtain ⟨rfl, rfl⟩ := hq0
        show G Γ (va_pl L f) 0 0 5 [(0, .ref (ad 0 0 0)), (1, .int (nI n)), (2, .int x)] [.ref (ad 12 n 0)]
        refine g_astore_n (lv' := [(3, .ref (ad 12 n 0)), (0, .ref (ad 0 0 0)), (1, .int (nI n)), (2, .int x)]) (n := 6) hX dX7_told_5 rfl rfl (by rw [hnL]; rfl) rfl ?_
        refine g_aload_n (n := 7) hX dX7_told_6 rfl rfl rfl ?_
        refine g_ifnonnull (tgt := 13) hX dX7_told_7 (by decide) ?_
        refine g_aload_n (n := 14) hX dX7_told_13 rfl rfl rfl ?_
        refine g_pget (n := 17) ux_X5 rfl hX hU dX7_told_14 rfl (px12 hP n hu1 hu2).1 r12_7 3 rfl uf_X7_110 rfl ?_
        refine g_if_ne (n := 20) (tgt := 22) hX dX7_told_17 rfl (by decide) (fun c17 => ?_) (fun c17 => absurd c17 h13)
        refine g_iload_n (n := 23) hX dX7_told_22 rfl rfl rfl ?_
        refine g_tableOut (n := 72) hX dX7_told_23 hsw (by decide) ?_
        refine g_iconst (n := 73) (v := (-1)) hX dX7_told_72 rfl rfl ?_
        exact g_iret hX hR dX7_told_73 ⟨by rw [hS], by rw [hS]; exact RW_rd hQ (cor_F0 σ 0)⟩
      · obtain ⟨kz, hk1, hk2⟩ := hsw
        rcases (show kz = 0 ∨ kz = 1 ∨ kz = 2 ∨ kz = 3 by omega) with hkz | hkz | hkz | hkz
        · have hxe : x = (0 : Int32) := sw_val (hkz ▸ hk1) (by decide)
          have hS : S_told σ (nI n) x = (σ.1 16 n, sF σ 0 0) := by subst hxe; simp only [S_told, if_pos hu, ehu, if_neg h13]; rfl
          have r0_8 : f (ad 0 0 0) = .inr (9, [.ref (ad 1 0 0), .ref (ad 2 0 0), .ref (ad 3 0 0), .ref (ad 8 0 0), .int (nI (nF σ 2))]) := (px0 hP).2.2
          have r12_9 : f (ad 12 n 0) = .inr (7, [.ref (ad 13 n 0), .ref (ad 14 n 0), .int (σ.1 12 n), .int (σ.1 13 n), .int (gfl g n), .int (geb g n), .int (σ.1 17 n), .int (σ.1 18 n), .int (nI (nA σ 19 n))]) := (px12 hP n hu1 hu2).2.2
          refine g_aload_n (n := 1) hX dX7_told_0 rfl rfl rfl ?_
          refine g_iload_n (n := 2) hX dX7_told_1 rfl rfl rfl ?_
          refine g_pcallV (n := 5) (As := [.int (nI n)]) (rest := []) hX hE hU hY dX7_told_2 rfl yv_X7_findUnit um_X7_61 (r_findUnitY _ _ hP hI hu1 hu2) ⟨rfl, rfl⟩ (rm_le hRm rfl rfl) rfl (px0 hP).1 r0_8 rfl rfl rfl (Nat.le_of_ble_eq_true rfl) ⟨Nat.zero_le _, Nat.zero_le _⟩ (fun v0 w0 hq0 => ?_)
          obtain ⟨rfl, rfl⟩ := hq0
          show G Γ (va_pl L f) 0 0 5 [(0, .ref (ad 0 0 0)), (1, .int (nI n)), (2, .int x)] [.ref (ad 12 n 0)]
          refine g_astore_n (lv' := [(3, .ref (ad 12 n 0)), (0, .ref (ad 0 0 0)), (1, .int (nI n)), (2, .int x)]) (n := 6) hX dX7_told_5 rfl rfl (by rw [hnL]; rfl) rfl ?_
          refine g_aload_n (n := 7) hX dX7_told_6 rfl rfl rfl ?_
          refine g_ifnonnull (tgt := 13) hX dX7_told_7 (by decide) ?_
          refine g_aload_n (n := 14) hX dX7_told_13 rfl rfl rfl ?_
          refine g_pget (n := 17) ux_X5 rfl hX hU dX7_told_14 rfl (px12 hP n hu1 hu2).1 r12_9 3 rfl uf_X7_110 rfl ?_
          refine g_if_ne (n := 20) (tgt := 22) hX dX7_told_17 rfl (by decide) (fun c17 => ?_) (fun c17 => absurd c17 h13)
          refine g_iload_n (n := 23) hX dX7_told_22 rfl rfl rfl ?_
          refine g_tableIn (n := 52) (off := 29) hX dX7_told_23 (by rw [hxe]; decide) (by rw [hxe]; decide) (by rw [hxe]; rfl) (by decide) ?_
          refine g_aload_n (n := 53) hX dX7_told_52 rfl rfl rfl ?_
          refine g_pget (n := 56) ux_X5 rfl hX hU dX7_told_53 rfl (px12 hP n hu1 hu2).1 r12_9 5 rfl uf_X7_113 rfl ?_
          exact g_iret hX hR dX7_told_56 ⟨by rw [hS]; exact congrArg (fun z => some (Value.int z)) (hL.1 n hu1 hu2 (by omega)).2, by rw [hS]; exact RW_rd hQ (cor_F0 σ 0)⟩
        · have hxe : x = (1 : Int32) := sw_val (hkz ▸ hk1) (by decide)
          have hS : S_told σ (nI n) x = (σ.1 17 n, sF σ 0 0) := by subst hxe; simp only [S_told, if_pos hu, ehu, if_neg h13]; rfl
          have r0_10 : f (ad 0 0 0) = .inr (9, [.ref (ad 1 0 0), .ref (ad 2 0 0), .ref (ad 3 0 0), .ref (ad 8 0 0), .int (nI (nF σ 2))]) := (px0 hP).2.2
          have r12_11 : f (ad 12 n 0) = .inr (7, [.ref (ad 13 n 0), .ref (ad 14 n 0), .int (σ.1 12 n), .int (σ.1 13 n), .int (gfl g n), .int (geb g n), .int (σ.1 17 n), .int (σ.1 18 n), .int (nI (nA σ 19 n))]) := (px12 hP n hu1 hu2).2.2
          refine g_aload_n (n := 1) hX dX7_told_0 rfl rfl rfl ?_
          refine g_iload_n (n := 2) hX dX7_told_1 rfl rfl rfl ?_
          refine g_pcallV (n := 5) (As := [.int (nI n)]) (rest := []) hX hE hU hY dX7_told_2 rfl yv_X7_findUnit um_X7_61 (r_findUnitY _ _ hP hI hu1 hu2) ⟨rfl, rfl⟩ (rm_le hRm rfl rfl) rfl (px0 hP).1 r0_10 rfl rfl rfl (Nat.le_of_ble_eq_true rfl) ⟨Nat.zero_le _, Nat.zero_le _⟩ (fun v0 w0 hq0 => ?_)
          obtain ⟨rfl, rfl⟩ := hq0
          show G Γ (va_pl L f) 0 0 5 [(0, .ref (ad 0 0 0)), (1, .int (nI n)), (2, .int x)] [.ref (ad 12 n 0)]
          refine g_astore_n (lv' := [(3, .ref (ad 12 n 0)), (0, .ref (ad 0 0 0)), (1, .int (nI n)), (2, .int x)]) (n := 6) hX dX7_told_5 rfl rfl (by rw [hnL]; rfl) rfl ?_
          refine g_aload_n (n := 7) hX dX7_told_6 rfl rfl rfl ?_
          refine g_ifnonnull (tgt := 13) hX dX7_told_7 (by decide) ?_
          refine g_aload_n (n := 14) hX dX7_told_13 rfl rfl rfl ?_
          refine g_pget (n := 17) ux_X5 rfl hX hU dX7_told_14 rfl (px12 hP n hu1 hu2).1 r12_11 3 rfl uf_X7_110 rfl ?_
          refine g_if_ne (n := 20) (tgt := 22) hX dX7_told_17 rfl (by decide) (fun c17 => ?_) (fun c17 => absurd c17 h13)
          refine g_iload_n (n := 23) hX dX7_told_22 rfl rfl rfl ?_
          refine g_tableIn (n := 57) (off := 34) hX dX7_told_23 (by rw [hxe]; decide) (by rw [hxe]; decide) (by rw [hxe]; rfl) (by decide) ?_
          refine g_aload_n (n := 58) hX dX7_told_57 rfl rfl rfl ?_
          refine g_pget (n := 61) ux_X5 rfl hX hU dX7_told_58 rfl (px12 hP n hu1 hu2).1 r12_11 6 rfl uf_X7_116 rfl ?_
          exact g_iret hX hR dX7_told_61 ⟨by rw [hS], by rw [hS]; exact RW_rd hQ (cor_F0 σ 0)⟩
        · have hxe : x = (2 : Int32) := sw_val (hkz ▸ hk1) (by decide)
          have hS : S_told σ (nI n) x = (σ.1 18 n, sF σ 0 0) := by subst hxe; simp only [S_told, if_pos hu, ehu, if_neg h13]; rfl
          have r0_12 : f (ad 0 0 0) = .inr (9, [.ref (ad 1 0 0), .ref (ad 2 0 0), .ref (ad 3 0 0), .ref (ad 8 0 0), .int (nI (nF σ 2))]) := (px0 hP).2.2
          have r12_13 : f (ad 12 n 0) = .inr (7, [.ref (ad 13 n 0), .ref (ad 14 n 0), .int (σ.1 12 n), .int (σ.1 13 n), .int (gfl g n), .int (geb g n), .int (σ.1 17 n), .int (σ.1 18 n), .int (nI (nA σ 19 n))]) := (px12 hP n hu1 hu2).2.2
          refine g_aload_n (n := 1) hX dX7_told_0 rfl rfl rfl ?_
          refine g_iload_n (n := 2) hX dX7_told_1 rfl rfl rfl ?_
          refine g_pcallV (n := 5) (As := [.int (nI n)]) (rest := []) hX hE hU hY dX7_told_2 rfl yv_X7_findUnit um_X7_61 (r_findUnitY _ _ hP hI hu1 hu2) ⟨rfl, rfl⟩ (rm_le hRm rfl rfl) rfl (px0 hP).1 r0_12 rfl rfl rfl (Nat.le_of_ble_eq_true rfl) ⟨Nat.zero_le _, Nat.zero_le _⟩ (fun v0 w0 hq0 => ?_)
          obtain ⟨rfl, rfl⟩ := hq0
          show G Γ (va_pl L f) 0 0 5 [(0, .ref (ad 0 0 0)), (1, .int (nI n)), (2, .int x)] [.ref (ad 12 n 0)]
          refine g_astore_n (lv' := [(3, .ref (ad 12 n 0)), (0, .ref (ad 0 0 0)), (1, .int (nI n)), (2, .int x)]) (n := 6) hX dX7_told_5 rfl rfl (by rw [hnL]; rfl) rfl ?_
          refine g_aload_n (n := 7) hX dX7_told_6 rfl rfl rfl ?_
          refine g_ifnonnull (tgt := 13) hX dX7_told_7 (by decide) ?_
          refine g_aload_n (n := 14) hX dX7_told_13 rfl rfl rfl ?_
          refine g_pget (n := 17) ux_X5 rfl hX hU dX7_told_14 rfl (px12 hP n hu1 hu2).1 r12_13 3 rfl uf_X7_110 rfl ?_
          refine g_if_ne (n := 20) (tgt := 22) hX dX7_told_17 rfl (by decide) (fun c17 => ?_) (fun c17 => absurd c17 h13)
          refine g_iload_n (n := 23) hX dX7_told_22 rfl rfl rfl ?_
          refine g_tableIn (n := 62) (off := 39) hX dX7_told_23 (by rw [hxe]; decide) (by rw [hxe]; decide) (by rw [hxe]; rfl) (by decide) ?_
          refine g_aload_n (n := 63) hX dX7_told_62 rfl rfl rfl ?_
          refine g_pget (n := 66) ux_X5 rfl hX hU dX7_told_63 rfl (px12 hP n hu1 hu2).1 r12_13 7 rfl uf_X7_119 rfl ?_
          exact g_iret hX hR dX7_told_66 ⟨by rw [hS], by rw [hS]; exact RW_rd hQ (cor_F0 σ 0)⟩
        · have hxe : x = (3 : Int32) := sw_val (hkz ▸ hk1) (by decide)
          have hS : S_told σ (nI n) x = (σ.1 19 n, sF σ 0 0) := by subst hxe; simp only [S_told, if_pos hu, ehu, if_neg h13]; rfl
          have r0_14 : f (ad 0 0 0) = .inr (9, [.ref (ad 1 0 0), .ref (ad 2 0 0), .ref (ad 3 0 0), .ref (ad 8 0 0), .int (nI (nF σ 2))]) := (px0 hP).2.2
          have r12_15 : f (ad 12 n 0) = .inr (7, [.ref (ad 13 n 0), .ref (ad 14 n 0), .int (σ.1 12 n), .int (σ.1 13 n), .int (gfl g n), .int (geb g n), .int (σ.1 17 n), .int (σ.1 18 n), .int (nI (nA σ 19 n))]) := (px12 hP n hu1 hu2).2.2
          refine g_aload_n (n := 1) hX dX7_told_0 rfl rfl rfl ?_
          refine g_iload_n (n := 2) hX dX7_told_1 rfl rfl rfl ?_
          refine g_pcallV (n := 5) (As := [.int (nI n)]) (rest := []) hX hE hU hY dX7_told_2 rfl yv_X7_findUnit um_X7_61 (r_findUnitY _ _ hP hI hu1 hu2) ⟨rfl, rfl⟩ (rm_le hRm rfl rfl) rfl (px0 hP).1 r0_14 rfl rfl rfl (Nat.le_of_ble_eq_true rfl) ⟨Nat.zero_le _, Nat.zero_le _⟩ (fun v0 w0 hq0 => ?_)
          obtain ⟨rfl, rfl⟩ := hq0
          show G Γ (va_pl L f) 0 0 5 [(0, .ref (ad 0 0 0)), (1, .int (nI n)), (2, .int x)] [.ref (ad 12 n 0)]
          refine g_astore_n (lv' := [(3, .ref (ad 12 n 0)), (0, .ref (ad 0 0 0)), (1, .int (nI n)), (2, .int x)]) (n := 6) hX dX7_told_5 rfl rfl (by rw [hnL]; rfl) rfl ?_
          refine g_aload_n (n := 7) hX dX7_told_6 rfl rfl rfl ?_
          refine g_ifnonnull (tgt := 13) hX dX7_told_7 (by decide) ?_
          refine g_aload_n (n := 14) hX dX7_told_13 rfl rfl rfl ?_
          refine g_pget (n := 17) ux_X5 rfl hX hU dX7_told_14 rfl (px12 hP n hu1 hu2).1 r12_15 3 rfl uf_X7_110 rfl ?_
          refine g_if_ne (n := 20) (tgt := 22) hX dX7_told_17 rfl (by decide) (fun c17 => ?_) (fun c17 => absurd c17 h13)
          refine g_iload_n (n := 23) hX dX7_told_22 rfl rfl rfl ?_
          refine g_tableIn (n := 67) (off := 44) hX dX7_told_23 (by rw [hxe]; decide) (by rw [hxe]; decide) (by rw [hxe]; rfl) (by decide) ?_
          refine g_aload_n (n := 68) hX dX7_told_67 rfl rfl rfl ?_
          refine g_pget (n := 71) ux_X5 rfl hX hU dX7_told_68 rfl (px12 hP n hu1 hu2).1 r12_15 8 rfl uf_X7_122 rfl ?_
          exact g_iret hX hR dX7_told_71 ⟨by rw [hS]; exact congrArg (fun z => some (Value.int z)) (hI.mk hu8).1.symm, by rw [hS]; exact RW_rd hQ (cor_F0 σ 0)⟩
  · have hS : S_told σ u x = (-2, sF σ 0 0) := by simp only [S_told, if_neg hu]
    have r0_16 : f (ad 0 0 0) = .inr (9, [.ref (ad 1 0 0), .ref (ad 2 0 0), .ref (ad 3 0 0), .ref (ad 8 0 0), .int (nI (nF σ 2))]) := (px0 hP).2.2
    refine g_aload_n (n := 1) hX dX7_told_0 rfl rfl rfl ?_
    refine g_iload_n (n := 2) hX dX7_told_1 rfl rfl rfl ?_
    refine g_pcallV (n := 5) (As := [.int u]) (rest := []) hX hE hU hY dX7_told_2 rfl yv_X7_findUnit um_X7_61 (r_findUnitN _ _ hP hI hu) ⟨rfl, rfl⟩ (rm_le hRm rfl rfl) rfl (px0 hP).1 r0_16 rfl rfl rfl (Nat.le_of_ble_eq_true rfl) ⟨Nat.zero_le _, Nat.zero_le _⟩ (fun v0 w0 hq0 => ?_)
    obtain ⟨rfl, rfl⟩ := hq0
    show G Γ (va_pl L f) 0 0 5 [(0, .ref (ad 0 0 0)), (1, .int u), (2, .int x)] [.null]
    refine g_astore_nN (lv' := [(3, .null), (0, .ref (ad 0 0 0)), (1, .int u), (2, .int x)]) (n := 6) hX dX7_told_5 rfl rfl (by rw [hnL]; rfl) rfl ?_
    refine g_aload_nN (n := 7) hX dX7_told_6 rfl rfl rfl ?_
    refine g_ifnonnullN (n := 10) hX dX7_told_7 rfl ?_
    refine g_bipush (n := 12) (v := (-2)) hX dX7_told_10 rfl rfl ?_
    exact g_iret hX hR dX7_told_12 ⟨by rw [hS], by rw [hS]; exact RW_rd hQ (cor_F0 σ 0)⟩

theorem mark_ret {K : Nat → ClassId} {L : List Nat} {f : Nat → va_E} {ad : AD} {κ : TG} {g : GX} {σ : MS} (hQ : RX K L f ad κ g σ 0) {n : Nat} (hu : 1 ≤ nI n ∧ nI n ≤ σ.2 2) (hu1 : 1 ≤ n) (hu2 : n ≤ nF σ 2) (hu8 : n ≤ 8) (x : Int32) : some (Value.int (if x < 0 then -1 else if nI (nA σ 19 n) ≤ x then -1 else gmk g n x.toNatClampNeg)) = some (.int (S_mark σ (nI n) x).1) ∧ RW K (ad 0 0 0) (S_mark σ (nI n) x).2 (va_pl L f) := by
  have hI := hQ.2.2
  have e1 : (nI n).toNatClampNeg = n := nI_clamp (by omega)
  have e19 := (hI.mk hu8).1
  by_cases h0 : x < 0
  · have hS : S_mark σ (nI n) x = (-1, sF σ 0 0) := by simp only [S_mark, if_pos hu, if_pos h0]
    rw [hS, if_pos h0]
    exact ⟨rfl, RW_rd hQ (cor_F0 σ 0)⟩
  · by_cases h1 : nI (nA σ 19 n) ≤ x
    · have hS : S_mark σ (nI n) x = (-1, sF σ 0 0) := by simp only [S_mark, if_pos hu, if_neg h0, e1, e19, if_pos h1]
      rw [hS, if_neg h0, if_pos h1]
      exact ⟨rfl, RW_rd hQ (cor_F0 σ 0)⟩
    · have hS : S_mark σ (nI n) x = (σ.1 21 (100 * n - 100 + x.toNatClampNeg), sF σ 0 0) := by simp only [S_mark, if_pos hu, if_neg h0, e1, e19, if_neg h1]
      obtain ⟨j, hj, rfl⟩ := nI_of h0
      have hj2 : j < nA σ 19 n := by
        have := (hI.mk hu8).2
        rcases Nat.lt_or_ge j (nA σ 19 n) with h9 | h9
        · exact h9
        · exact absurd (nI_le h9 hj) h1
      rw [hS, if_neg h0, if_neg h1, nI_clamp hj]
      exact ⟨congrArg (fun z => some (Value.int z)) (hQ.2.1.2.1 n hu1 hu2 j hj2), RW_rd hQ (cor_F0 σ 0)⟩

set_option maxHeartbeats 4000000 in
set_option maxRecDepth 100000 in
theorem F_mark (l : Launch) (D : va_G) (K : Nat → ClassId) (L : List Nat) (f : Nat → va_E) (ad : AD) (κ : TG) (g : GX) (σ : MS) (u x : Int32) (hQ : RX K L f ad κ g σ 0) : Mc l yX7_mark (wM yX7_mark cX7_mark 4 (some .int)) (rmL 1 0 0) D (yY K) [.ref (ad 0 0 0), .int u, .int x] (va_pl L f) (fun v w => v = some (.int (S_mark σ u x).1) ∧ RW K (ad 0 0 0) (S_mark σ u x).2 w) 0 0 := by
  refine m_start (lv := [(0, .ref (ad 0 0 0)), (1, .int u), (2, .int x)]) rfl (Nat.le_of_ble_eq_true rfl) rfl (fun Γ hX hRm hnL hY hDD hLa hR hI hE => ?_)
  have hU : ∀ w ∈ wU, w ∈ wM yX7_mark cX7_mark 4 (some .int) := fun w h => wM_in h
  subst hLa
  subst hDD
  have hP := hQ.1
  have hL := hQ.2.1
  have hI := hQ.2.2
  by_cases hu : 1 ≤ u ∧ u ≤ σ.2 2
  · obtain ⟨n, rfl, hu1, hu8, -, hu2⟩ := in1 hI.1.2.1 (by decide) hu
    have hu2 : n ≤ nF σ 2 := hu2
    have ehu : (nI n).toNatClampNeg = n := nI_clamp (by omega)
    have r0_17 : f (ad 0 0 0) = .inr (9, [.ref (ad 1 0 0), .ref (ad 2 0 0), .ref (ad 3 0 0), .ref (ad 8 0 0), .int (nI (nF σ 2))]) := (px0 hP).2.2
    have r12_18 : f (ad 12 n 0) = .inr (7, [.ref (ad 13 n 0), .ref (ad 14 n 0), .int (σ.1 12 n), .int (σ.1 13 n), .int (gfl g n), .int (geb g n), .int (σ.1 17 n), .int (σ.1 18 n), .int (nI (nA σ 19 n))]) := (px12 hP n hu1 hu2).2.2
    refine g_aload_n (n := 1) hX dX7_mark_0 rfl rfl rfl ?_
    refine g_iload_n (n := 2) hX dX7_mark_1 rfl rfl rfl ?_
    refine g_pcallV (n := 5) (As := [.int (nI n)]) (rest := []) hX hE hU hY dX7_mark_2 rfl yv_X7_findUnit um_X7_61 (r_findUnitY _ _ hP hI hu1 hu2) ⟨rfl, rfl⟩ (rm_le hRm rfl rfl) rfl (px0 hP).1 r0_17 rfl rfl rfl (Nat.le_of_ble_eq_true rfl) ⟨Nat.zero_le _, Nat.zero_le _⟩ (fun v0 w0 hq0 => ?_)
    obtain ⟨rfl, rfl⟩ := hq0
    show G Γ (va_pl L f) 0 0 5 [(0, .ref (ad 0 0 0)), (1, .int (nI n)), (2, .int x)] [.ref (ad 12 n 0)]
    refine g_astore_n (lv' := [(3, .ref (ad 12 n 0)), (0, .ref (ad 0 0 0)), (1, .int (nI n)), (2, .int x)]) (n := 6) hX dX7_mark_5 rfl rfl (by rw [hnL]; rfl) rfl ?_
    refine g_aload_n (n := 7) hX dX7_mark_6 rfl rfl rfl ?_
    refine g_ifnonnull (tgt := 14) hX dX7_mark_7 (by decide) ?_
    refine g_aload_n (n := 15) hX dX7_mark_14 rfl rfl rfl ?_
    refine g_iload_n (n := 16) hX dX7_mark_15 rfl rfl rfl ?_
    refine g_pcallV (n := 19) (As := [.int x]) (rest := []) hX hE hU hY dX7_mark_16 rfl yv_X5_markAt um_X7_125 (x_markAt _ _ K L f x (ad 12 n 0) (ad 13 n 0) (ad 14 n 0) (nA σ 19 n) (gmk g n) (σ.1 12 n) (σ.1 13 n) (gfl g n) (geb g n) (σ.1 17 n) (σ.1 18 n) (px12 hP n hu1 hu2).1 (px12 hP n hu1 hu2).2.2 (px14 hP n hu1 hu2).1 (px14 hP n hu1 hu2).2.2 (hI.mk hu8).2) ⟨rfl, rfl⟩ (rm_le hRm rfl rfl) rfl (px12 hP n hu1 hu2).1 r12_18 rfl rfl rfl (Nat.le_of_ble_eq_true rfl) ⟨Nat.zero_le _, Nat.zero_le _⟩ (fun v0 w0 hq0 => ?_)
    obtain ⟨rfl, rfl⟩ := hq0
    show G Γ (va_pl L f) 0 0 19 [(3, .ref (ad 12 n 0)), (0, .ref (ad 0 0 0)), (1, .int (nI n)), (2, .int x)] [.int (if x < 0 then -1 else if nI (nA σ 19 n) ≤ x then -1 else gmk g n x.toNatClampNeg)]
    exact g_iret hX hR dX7_mark_19 (mark_ret hQ hu hu1 hu2 hu8 x)
  · have hS : S_mark σ u x = (-1, sF σ 0 0) := by simp only [S_mark, if_neg hu]
    have r0_19 : f (ad 0 0 0) = .inr (9, [.ref (ad 1 0 0), .ref (ad 2 0 0), .ref (ad 3 0 0), .ref (ad 8 0 0), .int (nI (nF σ 2))]) := (px0 hP).2.2
    refine g_aload_n (n := 1) hX dX7_mark_0 rfl rfl rfl ?_
    refine g_iload_n (n := 2) hX dX7_mark_1 rfl rfl rfl ?_
    refine g_pcallV (n := 5) (As := [.int u]) (rest := []) hX hE hU hY dX7_mark_2 rfl yv_X7_findUnit um_X7_61 (r_findUnitN _ _ hP hI hu) ⟨rfl, rfl⟩ (rm_le hRm rfl rfl) rfl (px0 hP).1 r0_19 rfl rfl rfl (Nat.le_of_ble_eq_true rfl) ⟨Nat.zero_le _, Nat.zero_le _⟩ (fun v0 w0 hq0 => ?_)
    obtain ⟨rfl, rfl⟩ := hq0
    show G Γ (va_pl L f) 0 0 5 [(0, .ref (ad 0 0 0)), (1, .int u), (2, .int x)] [.null]
    refine g_astore_nN (lv' := [(3, .null), (0, .ref (ad 0 0 0)), (1, .int u), (2, .int x)]) (n := 6) hX dX7_mark_5 rfl rfl (by rw [hnL]; rfl) rfl ?_
    refine g_aload_nN (n := 7) hX dX7_mark_6 rfl rfl rfl ?_
    refine g_ifnonnullN (n := 10) hX dX7_mark_7 rfl ?_
    refine g_iconst (n := 11) (v := (-1)) hX dX7_mark_10 rfl rfl ?_
    refine g_goto (n := 19) hX dX7_mark_11 (by decide) ?_
    exact g_iret hX hR dX7_mark_19 ⟨by rw [hS], by rw [hS]; exact RW_rd hQ (cor_F0 σ 0)⟩

set_option maxHeartbeats 4000000 in
set_option maxRecDepth 100000 in
theorem F_state (l : Launch) (D : va_G) (K : Nat → ClassId) (L : List Nat) (f : Nat → va_E) (ad : AD) (κ : TG) (g : GX) (σ : MS) (x : Int32) (hQ : RX K L f ad κ g σ 0) : Mc l yX7_state (wM yX7_state cX7_state 3 (some .int)) (rmL 1 0 0) D (yY K) [.ref (ad 0 0 0), .int x] (va_pl L f) (fun v w => v = some (.int (S_state σ x).1) ∧ RW K (ad 0 0 0) (S_state σ x).2 w) 0 0 := by
  refine m_start (lv := [(0, .ref (ad 0 0 0)), (1, .int x)]) rfl (Nat.le_of_ble_eq_true rfl) rfl (fun Γ hX hRm hnL hY hDD hLa hR hI hE => ?_)
  have hU : ∀ w ∈ wU, w ∈ wM yX7_state cX7_state 3 (some .int) := fun w h => wM_in h
  subst hLa
  subst hDD
  have hP := hQ.1
  have hL := hQ.2.1
  have hI := hQ.2.2
  by_cases hc : 1 ≤ x ∧ x ≤ σ.2 3
  · obtain ⟨n, rfl, hc1, hc8, -, hc2⟩ := in1 hI.1.2.2.1 (by decide) hc
    have hc2 : n ≤ nF σ 3 := hc2
    have ehc : (nI n).toNatClampNeg = n := nI_clamp (by omega)
    by_cases h11 : σ.1 11 n = 0
    · by_cases h12 : σ.1 12 (nA σ 6 n) = 0
      · by_cases h9 : σ.1 9 n = 0
        · have hsd : gsd g n = σ.1 10 n := (hL.2.2.1 n hc1 hc2 ((hI.cls n hc1 hc2).2.2.2.resolve_right (fun h => absurd (h9.symm.trans h) (by decide)))).1
          by_cases h10 : σ.1 10 n = 0
          · have hS : S_state σ (nI n) = (0, sF σ 0 0) := by simp only [S_state, if_pos hc, ehc, if_pos h11, if_pos h12, if_pos h9, if_pos h10]
            have r0_20 : f (ad 0 0 0) = .inr (9, [.ref (ad 1 0 0), .ref (ad 2 0 0), .ref (ad 3 0 0), .ref (ad 8 0 0), .int (nI (nF σ 2))]) := (px0 hP).2.2
            have r1_21 : f (ad 1 0 0) = .inr (8, [.ref (ad 6 0 0), .ref (ad 7 0 0), .int (nI (nF σ 1)), .int (nI (nF σ 3))]) := (px1 hP).2.2
            have r15_22 : f (ad 15 n 0) = .inr (4, [.int (nI n), .ref (ad 12 (nA σ 6 n) 0), .ref (ad 9 (nA σ 7 n) 0), .int (nI (nA σ 8 n)), .ref (ad 16 n 0), va_rf (if gfa g n = true then some (ad 17 n 0) else none), .int (gsd g n), .int (σ.1 11 n), .int (σ.1 9 n)]) := (px15 hP n hc1 hc2).2.2
            have r12_23 : f (ad 12 (nA σ 6 n) 0) = .inr (7, [.ref (ad 13 (nA σ 6 n) 0), .ref (ad 14 (nA σ 6 n) 0), .int (σ.1 12 (nA σ 6 n)), .int (σ.1 13 (nA σ 6 n)), .int (gfl g (nA σ 6 n)), .int (geb g (nA σ 6 n)), .int (σ.1 17 (nA σ 6 n)), .int (σ.1 18 (nA σ 6 n)), .int (nI (nA σ 19 (nA σ 6 n)))]) := (px12 hP _ (hI.cls n hc1 hc2).1.1 (hI.cls n hc1 hc2).1.2).2.2
            refine g_aload_n (n := 1) hX dX7_state_0 rfl rfl rfl ?_
            refine g_pget (n := 4) ux_X7 rfl hX hU dX7_state_1 rfl (px0 hP).1 r0_20 0 rfl uf_X7_10 rfl ?_
            refine g_iload_n (n := 5) hX dX7_state_4 rfl rfl rfl ?_
            refine g_pcallV (n := 8) (As := [.int (nI n)]) (rest := []) hX hE hU hY dX7_state_5 rfl yv_X6_findClass um_X7_129 (r_findClassY _ _ hP hI hc1 hc2) ⟨rfl, rfl⟩ (rm_le hRm rfl rfl) rfl (px1 hP).1 r1_21 rfl rfl rfl (Nat.le_of_ble_eq_true rfl) ⟨Nat.zero_le _, Nat.zero_le _⟩ (fun v0 w0 hq0 => ?_)
            obtain ⟨rfl, rfl⟩ := hq0
            show G Γ (va_pl L f) 0 0 8 [(0, .ref (ad 0 0 0)), (1, .int (nI n))] [.ref (ad 15 n 0)]
            refine g_astore_n (lv' := [(2, .ref (ad 15 n 0)), (0, .ref (ad 0 0 0)), (1, .int (nI n))]) (n := 9) hX dX7_state_8 rfl rfl (by rw [hnL]; rfl) rfl ?_
            refine g_aload_n (n := 10) hX dX7_state_9 rfl rfl rfl ?_
            refine g_ifnonnull (tgt := 16) hX dX7_state_10 (by decide) ?_
            refine g_aload_n (n := 17) hX dX7_state_16 rfl rfl rfl ?_
            refine g_pget (n := 20) ux_X2 rfl hX hU dX7_state_17 rfl (px15 hP n hc1 hc2).1 r15_22 7 rfl uf_X7_163 rfl ?_
            refine g_if_eq (n := 23) (tgt := 25) hX dX7_state_20 rfl (by decide) (fun c20 => ?_) (fun c20 => absurd h11 c20)
            refine g_aload_n (n := 26) hX dX7_state_25 rfl rfl rfl ?_
            refine g_pget (n := 29) ux_X2 rfl hX hU dX7_state_26 rfl (px15 hP n hc1 hc2).1 r15_22 1 rfl uf_X7_166 rfl ?_
            refine g_pget (n := 32) ux_X5 rfl hX hU dX7_state_29 rfl (px12 hP _ (hI.cls n hc1 hc2).1.1 (hI.cls n hc1 hc2).1.2).1 r12_23 2 rfl uf_X7_65 rfl ?_
            refine g_if_eq (n := 35) (tgt := 37) hX dX7_state_32 rfl (by decide) (fun c32 => ?_) (fun c32 => absurd h12 c32)
            refine g_aload_n (n := 38) hX dX7_state_37 rfl rfl rfl ?_
            refine g_pget (n := 41) ux_X2 rfl hX hU dX7_state_38 rfl (px15 hP n hc1 hc2).1 r15_22 8 rfl uf_X7_170 rfl ?_
            refine g_if_eq (n := 44) (tgt := 46) hX dX7_state_41 rfl (by decide) (fun c41 => ?_) (fun c41 => absurd h9 c41)
            refine g_aload_n (n := 47) hX dX7_state_46 rfl rfl rfl ?_
            refine g_pget (n := 50) ux_X2 rfl hX hU dX7_state_47 rfl (px15 hP n hc1 hc2).1 r15_22 6 rfl uf_X7_92 rfl ?_
            refine g_if_eq (n := 53) (tgt := 57) hX dX7_state_50 rfl (by decide) (fun c50 => ?_) (fun c50 => absurd (hsd.trans h10) c50)
            refine g_iconst (n := 58) (v := 0) hX dX7_state_57 rfl rfl ?_
            exact g_iret hX hR dX7_state_58 ⟨by rw [hS], by rw [hS]; exact RW_rd hQ (cor_F0 σ 0)⟩
          · have hS : S_state σ (nI n) = (1, sF σ 0 0) := by simp only [S_state, if_pos hc, ehc, if_pos h11, if_pos h12, if_pos h9, if_neg h10]
            have r0_24 : f (ad 0 0 0) = .inr (9, [.ref (ad 1 0 0), .ref (ad 2 0 0), .ref (ad 3 0 0), .ref (ad 8 0 0), .int (nI (nF σ 2))]) := (px0 hP).2.2
            have r1_25 : f (ad 1 0 0) = .inr (8, [.ref (ad 6 0 0), .ref (ad 7 0 0), .int (nI (nF σ 1)), .int (nI (nF σ 3))]) := (px1 hP).2.2
            have r15_26 : f (ad 15 n 0) = .inr (4, [.int (nI n), .ref (ad 12 (nA σ 6 n) 0), .ref (ad 9 (nA σ 7 n) 0), .int (nI (nA σ 8 n)), .ref (ad 16 n 0), va_rf (if gfa g n = true then some (ad 17 n 0) else none), .int (gsd g n), .int (σ.1 11 n), .int (σ.1 9 n)]) := (px15 hP n hc1 hc2).2.2
            have r12_27 : f (ad 12 (nA σ 6 n) 0) = .inr (7, [.ref (ad 13 (nA σ 6 n) 0), .ref (ad 14 (nA σ 6 n) 0), .int (σ.1 12 (nA σ 6 n)), .int (σ.1 13 (nA σ 6 n)), .int (gfl g (nA σ 6 n)), .int (geb g (nA σ 6 n)), .int (σ.1 17 (nA σ 6 n)), .int (σ.1 18 (nA σ 6 n)), .int (nI (nA σ 19 (nA σ 6 n)))]) := (px12 hP _ (hI.cls n hc1 hc2).1.1 (hI.cls n hc1 hc2).1.2).2.2
            refine g_aload_n (n := 1) hX dX7_state_0 rfl rfl rfl ?_
            refine g_pget (n := 4) ux_X7 rfl hX hU dX7_state_1 rfl (px0 hP).1 r0_24 0 rfl uf_X7_10 rfl ?_
            refine g_iload_n (n := 5) hX dX7_state_4 rfl rfl rfl ?_
            refine g_pcallV (n := 8) (As := [.int (nI n)]) (rest := []) hX hE hU hY dX7_state_5 rfl yv_X6_findClass um_X7_129 (r_findClassY _ _ hP hI hc1 hc2) ⟨rfl, rfl⟩ (rm_le hRm rfl rfl) rfl (px1 hP).1 r1_25 rfl rfl rfl (Nat.le_of_ble_eq_true rfl) ⟨Nat.zero_le _, Nat.zero_le _⟩ (fun v0 w0 hq0 => ?_)
            obtain ⟨rfl, rfl⟩ := hq0
            show G Γ (va_pl L f) 0 0 8 [(0, .ref (ad 0 0 0)), (1, .int (nI n))] [.ref (ad 15 n 0)]
            refine g_astore_n (lv' := [(2, .ref (ad 15 n 0)), (0, .ref (ad 0 0 0)), (1, .int (nI n))]) (n := 9) hX dX7_state_8 rfl rfl (by rw [hnL]; rfl) rfl ?_
            refine g_aload_n (n := 10) hX dX7_state_9 rfl rfl rfl ?_
            refine g_ifnonnull (tgt := 16) hX dX7_state_10 (by decide) ?_
            refine g_aload_n (n := 17) hX dX7_state_16 rfl rfl rfl ?_
            refine g_pget (n := 20) ux_X2 rfl hX hU dX7_state_17 rfl (px15 hP n hc1 hc2).1 r15_26 7 rfl uf_X7_163 rfl ?_
            refine g_if_eq (n := 23) (tgt := 25) hX dX7_state_20 rfl (by decide) (fun c20 => ?_) (fun c20 => absurd h11 c20)
            refine g_aload_n (n := 26) hX dX7_state_25 rfl rfl rfl ?_
            refine g_pget (n := 29) ux_X2 rfl hX hU dX7_state_26 rfl (px15 hP n hc1 hc2).1 r15_26 1 rfl uf_X7_166 rfl ?_
            refine g_pget (n := 32) ux_X5 rfl hX hU dX7_state_29 rfl (px12 hP _ (hI.cls n hc1 hc2).1.1 (hI.cls n hc1 hc2).1.2).1 r12_27 2 rfl uf_X7_65 rfl ?_
            refine g_if_eq (n := 35) (tgt := 37) hX dX7_state_32 rfl (by decide) (fun c32 => ?_) (fun c32 => absurd h12 c32)
            refine g_aload_n (n := 38) hX dX7_state_37 rfl rfl rfl ?_
            refine g_pget (n := 41) ux_X2 rfl hX hU dX7_state_38 rfl (px15 hP n hc1 hc2).1 r15_26 8 rfl uf_X7_170 rfl ?_
            refine g_if_eq (n := 44) (tgt := 46) hX dX7_state_41 rfl (by decide) (fun c41 => ?_) (fun c41 => absurd h9 c41)
            refine g_aload_n (n := 47) hX dX7_state_46 rfl rfl rfl ?_
            refine g_pget (n := 50) ux_X2 rfl hX hU dX7_state_47 rfl (px15 hP n hc1 hc2).1 r15_26 6 rfl uf_X7_92 rfl ?_
            refine g_if_eq (n := 53) (tgt := 57) hX dX7_state_50 rfl (by decide) (fun c50 => absurd c50 (fun h8 => h10 (hsd.symm.trans h8))) (fun c50 => ?_)
            refine g_iconst (n := 54) (v := 1) hX dX7_state_53 rfl rfl ?_
            refine g_goto (n := 58) hX dX7_state_54 (by decide) ?_
            exact g_iret hX hR dX7_state_58 ⟨by rw [hS], by rw [hS]; exact RW_rd hQ (cor_F0 σ 0)⟩
        · have hS : S_state σ (nI n) = (3, sF σ 0 0) := by simp only [S_state, if_pos hc, ehc, if_pos h11, if_pos h12, if_neg h9]
          have r0_28 : f (ad 0 0 0) = .inr (9, [.ref (ad 1 0 0), .ref (ad 2 0 0), .ref (ad 3 0 0), .ref (ad 8 0 0), .int (nI (nF σ 2))]) := (px0 hP).2.2
          have r1_29 : f (ad 1 0 0) = .inr (8, [.ref (ad 6 0 0), .ref (ad 7 0 0), .int (nI (nF σ 1)), .int (nI (nF σ 3))]) := (px1 hP).2.2
          have r15_30 : f (ad 15 n 0) = .inr (4, [.int (nI n), .ref (ad 12 (nA σ 6 n) 0), .ref (ad 9 (nA σ 7 n) 0), .int (nI (nA σ 8 n)), .ref (ad 16 n 0), va_rf (if gfa g n = true then some (ad 17 n 0) else none), .int (gsd g n), .int (σ.1 11 n), .int (σ.1 9 n)]) := (px15 hP n hc1 hc2).2.2
          have r12_31 : f (ad 12 (nA σ 6 n) 0) = .inr (7, [.ref (ad 13 (nA σ 6 n) 0), .ref (ad 14 (nA σ 6 n) 0), .int (σ.1 12 (nA σ 6 n)), .int (σ.1 13 (nA σ 6 n)), .int (gfl g (nA σ 6 n)), .int (geb g (nA σ 6 n)), .int (σ.1 17 (nA σ 6 n)), .int (σ.1 18 (nA σ 6 n)), .int (nI (nA σ 19 (nA σ 6 n)))]) := (px12 hP _ (hI.cls n hc1 hc2).1.1 (hI.cls n hc1 hc2).1.2).2.2
          refine g_aload_n (n := 1) hX dX7_state_0 rfl rfl rfl ?_
          refine g_pget (n := 4) ux_X7 rfl hX hU dX7_state_1 rfl (px0 hP).1 r0_28 0 rfl uf_X7_10 rfl ?_
          refine g_iload_n (n := 5) hX dX7_state_4 rfl rfl rfl ?_
          refine g_pcallV (n := 8) (As := [.int (nI n)]) (rest := []) hX hE hU hY dX7_state_5 rfl yv_X6_findClass um_X7_129 (r_findClassY _ _ hP hI hc1 hc2) ⟨rfl, rfl⟩ (rm_le hRm rfl rfl) rfl (px1 hP).1 r1_29 rfl rfl rfl (Nat.le_of_ble_eq_true rfl) ⟨Nat.zero_le _, Nat.zero_le _⟩ (fun v0 w0 hq0 => ?_)
          obtain ⟨rfl, rfl⟩ := hq0
          show G Γ (va_pl L f) 0 0 8 [(0, .ref (ad 0 0 0)), (1, .int (nI n))] [.ref (ad 15 n 0)]
          refine g_astore_n (lv' := [(2, .ref (ad 15 n 0)), (0, .ref (ad 0 0 0)), (1, .int (nI n))]) (n := 9) hX dX7_state_8 rfl rfl (by rw [hnL]; rfl) rfl ?_
          refine g_aload_n (n := 10) hX dX7_state_9 rfl rfl rfl ?_
          refine g_ifnonnull (tgt := 16) hX dX7_state_10 (by decide) ?_
          refine g_aload_n (n := 17) hX dX7_state_16 rfl rfl rfl ?_
          refine g_pget (n := 20) ux_X2 rfl hX hU dX7_state_17 rfl (px15 hP n hc1 hc2).1 r15_30 7 rfl uf_X7_163 rfl ?_
          refine g_if_eq (n := 23) (tgt := 25) hX dX7_state_20 rfl (by decide) (fun c20 => ?_) (fun c20 => absurd h11 c20)
          refine g_aload_n (n := 26) hX dX7_state_25 rfl rfl rfl ?_
          refine g_pget (n := 29) ux_X2 rfl hX hU dX7_state_26 rfl (px15 hP n hc1 hc2).1 r15_30 1 rfl uf_X7_166 rfl ?_
          refine g_pget (n := 32) ux_X5 rfl hX hU dX7_state_29 rfl (px12 hP _ (hI.cls n hc1 hc2).1.1 (hI.cls n hc1 hc2).1.2).1 r12_31 2 rfl uf_X7_65 rfl ?_
          refine g_if_eq (n := 35) (tgt := 37) hX dX7_state_32 rfl (by decide) (fun c32 => ?_) (fun c32 => absurd h12 c32)
          refine g_aload_n (n := 38) hX dX7_state_37 rfl rfl rfl ?_
          refine g_pget (n := 41) ux_X2 rfl hX hU dX7_state_38 rfl (px15 hP n hc1 hc2).1 r15_30 8 rfl uf_X7_170 rfl ?_
          refine g_if_eq (n := 44) (tgt := 46) hX dX7_state_41 rfl (by decide) (fun c41 => absurd c41 h9) (fun c41 => ?_)
          refine g_iconst (n := 45) (v := 3) hX dX7_state_44 rfl rfl ?_
          exact g_iret hX hR dX7_state_45 ⟨by rw [hS], by rw [hS]; exact RW_rd hQ (cor_F0 σ 0)⟩
      · have hS : S_state σ (nI n) = (4, sF σ 0 0) := by simp only [S_state, if_pos hc, ehc, if_pos h11, if_neg h12]
        have r0_32 : f (ad 0 0 0) = .inr (9, [.ref (ad 1 0 0), .ref (ad 2 0 0), .ref (ad 3 0 0), .ref (ad 8 0 0), .int (nI (nF σ 2))]) := (px0 hP).2.2
        have r1_33 : f (ad 1 0 0) = .inr (8, [.ref (ad 6 0 0), .ref (ad 7 0 0), .int (nI (nF σ 1)), .int (nI (nF σ 3))]) := (px1 hP).2.2
        have r15_34 : f (ad 15 n 0) = .inr (4, [.int (nI n), .ref (ad 12 (nA σ 6 n) 0), .ref (ad 9 (nA σ 7 n) 0), .int (nI (nA σ 8 n)), .ref (ad 16 n 0), va_rf (if gfa g n = true then some (ad 17 n 0) else none), .int (gsd g n), .int (σ.1 11 n), .int (σ.1 9 n)]) := (px15 hP n hc1 hc2).2.2
        have r12_35 : f (ad 12 (nA σ 6 n) 0) = .inr (7, [.ref (ad 13 (nA σ 6 n) 0), .ref (ad 14 (nA σ 6 n) 0), .int (σ.1 12 (nA σ 6 n)), .int (σ.1 13 (nA σ 6 n)), .int (gfl g (nA σ 6 n)), .int (geb g (nA σ 6 n)), .int (σ.1 17 (nA σ 6 n)), .int (σ.1 18 (nA σ 6 n)), .int (nI (nA σ 19 (nA σ 6 n)))]) := (px12 hP _ (hI.cls n hc1 hc2).1.1 (hI.cls n hc1 hc2).1.2).2.2
        refine g_aload_n (n := 1) hX dX7_state_0 rfl rfl rfl ?_
        refine g_pget (n := 4) ux_X7 rfl hX hU dX7_state_1 rfl (px0 hP).1 r0_32 0 rfl uf_X7_10 rfl ?_
        refine g_iload_n (n := 5) hX dX7_state_4 rfl rfl rfl ?_
        refine g_pcallV (n := 8) (As := [.int (nI n)]) (rest := []) hX hE hU hY dX7_state_5 rfl yv_X6_findClass um_X7_129 (r_findClassY _ _ hP hI hc1 hc2) ⟨rfl, rfl⟩ (rm_le hRm rfl rfl) rfl (px1 hP).1 r1_33 rfl rfl rfl (Nat.le_of_ble_eq_true rfl) ⟨Nat.zero_le _, Nat.zero_le _⟩ (fun v0 w0 hq0 => ?_)
        obtain ⟨rfl, rfl⟩ := hq0
        show G Γ (va_pl L f) 0 0 8 [(0, .ref (ad 0 0 0)), (1, .int (nI n))] [.ref (ad 15 n 0)]
        refine g_astore_n (lv' := [(2, .ref (ad 15 n 0)), (0, .ref (ad 0 0 0)), (1, .int (nI n))]) (n := 9) hX dX7_state_8 rfl rfl (by rw [hnL]; rfl) rfl ?_
        refine g_aload_n (n := 10) hX dX7_state_9 rfl rfl rfl ?_
        refine g_ifnonnull (tgt := 16) hX dX7_state_10 (by decide) ?_
        refine g_aload_n (n := 17) hX dX7_state_16 rfl rfl rfl ?_
        refine g_pget (n := 20) ux_X2 rfl hX hU dX7_state_17 rfl (px15 hP n hc1 hc2).1 r15_34 7 rfl uf_X7_163 rfl ?_
        refine g_if_eq (n := 23) (tgt := 25) hX dX7_state_20 rfl (by decide) (fun c20 => ?_) (fun c20 => absurd h11 c20)
        refine g_aload_n (n := 26) hX dX7_state_25 rfl rfl rfl ?_
        refine g_pget (n := 29) ux_X2 rfl hX hU dX7_state_26 rfl (px15 hP n hc1 hc2).1 r15_34 1 rfl uf_X7_166 rfl ?_
        refine g_pget (n := 32) ux_X5 rfl hX hU dX7_state_29 rfl (px12 hP _ (hI.cls n hc1 hc2).1.1 (hI.cls n hc1 hc2).1.2).1 r12_35 2 rfl uf_X7_65 rfl ?_
        refine g_if_eq (n := 35) (tgt := 37) hX dX7_state_32 rfl (by decide) (fun c32 => absurd c32 h12) (fun c32 => ?_)
        refine g_iconst (n := 36) (v := 4) hX dX7_state_35 rfl rfl ?_
        exact g_iret hX hR dX7_state_36 ⟨by rw [hS], by rw [hS]; exact RW_rd hQ (cor_F0 σ 0)⟩
    · have hS : S_state σ (nI n) = (2, sF σ 0 0) := by simp only [S_state, if_pos hc, ehc, if_neg h11]
      have r0_36 : f (ad 0 0 0) = .inr (9, [.ref (ad 1 0 0), .ref (ad 2 0 0), .ref (ad 3 0 0), .ref (ad 8 0 0), .int (nI (nF σ 2))]) := (px0 hP).2.2
      have r1_37 : f (ad 1 0 0) = .inr (8, [.ref (ad 6 0 0), .ref (ad 7 0 0), .int (nI (nF σ 1)), .int (nI (nF σ 3))]) := (px1 hP).2.2
      have r15_38 : f (ad 15 n 0) = .inr (4, [.int (nI n), .ref (ad 12 (nA σ 6 n) 0), .ref (ad 9 (nA σ 7 n) 0), .int (nI (nA σ 8 n)), .ref (ad 16 n 0), va_rf (if gfa g n = true then some (ad 17 n 0) else none), .int (gsd g n), .int (σ.1 11 n), .int (σ.1 9 n)]) := (px15 hP n hc1 hc2).2.2
      have r12_39 : f (ad 12 (nA σ 6 n) 0) = .inr (7, [.ref (ad 13 (nA σ 6 n) 0), .ref (ad 14 (nA σ 6 n) 0), .int (σ.1 12 (nA σ 6 n)), .int (σ.1 13 (nA σ 6 n)), .int (gfl g (nA σ 6 n)), .int (geb g (nA σ 6 n)), .int (σ.1 17 (nA σ 6 n)), .int (σ.1 18 (nA σ 6 n)), .int (nI (nA σ 19 (nA σ 6 n)))]) := (px12 hP _ (hI.cls n hc1 hc2).1.1 (hI.cls n hc1 hc2).1.2).2.2
      refine g_aload_n (n := 1) hX dX7_state_0 rfl rfl rfl ?_
      refine g_pget (n := 4) ux_X7 rfl hX hU dX7_state_1 rfl (px0 hP).1 r0_36 0 rfl uf_X7_10 rfl ?_
      refine g_iload_n (n := 5) hX dX7_state_4 rfl rfl rfl ?_
      refine g_pcallV (n := 8) (As := [.int (nI n)]) (rest := []) hX hE hU hY dX7_state_5 rfl yv_X6_findClass um_X7_129 (r_findClassY _ _ hP hI hc1 hc2) ⟨rfl, rfl⟩ (rm_le hRm rfl rfl) rfl (px1 hP).1 r1_37 rfl rfl rfl (Nat.le_of_ble_eq_true rfl) ⟨Nat.zero_le _, Nat.zero_le _⟩ (fun v0 w0 hq0 => ?_)
      obtain ⟨rfl, rfl⟩ := hq0
      show G Γ (va_pl L f) 0 0 8 [(0, .ref (ad 0 0 0)), (1, .int (nI n))] [.ref (ad 15 n 0)]
      refine g_astore_n (lv' := [(2, .ref (ad 15 n 0)), (0, .ref (ad 0 0 0)), (1, .int (nI n))]) (n := 9) hX dX7_state_8 rfl rfl (by rw [hnL]; rfl) rfl ?_
      refine g_aload_n (n := 10) hX dX7_state_9 rfl rfl rfl ?_
      refine g_ifnonnull (tgt := 16) hX dX7_state_10 (by decide) ?_
      refine g_aload_n (n := 17) hX dX7_state_16 rfl rfl rfl ?_
      refine g_pget (n := 20) ux_X2 rfl hX hU dX7_state_17 rfl (px15 hP n hc1 hc2).1 r15_38 7 rfl uf_X7_163 rfl ?_
      refine g_if_eq (n := 23) (tgt := 25) hX dX7_state_20 rfl (by decide) (fun c20 => absurd c20 h11) (fun c20 => ?_)
      refine g_iconst (n := 24) (v := 2) hX dX7_state_23 rfl rfl ?_
      exact g_iret hX hR dX7_state_24 ⟨by rw [hS], by rw [hS]; exact RW_rd hQ (cor_F0 σ 0)⟩
  · have hS : S_state σ x = (-2, sF σ 0 0) := by simp only [S_state, if_neg hc]
    have r0_40 : f (ad 0 0 0) = .inr (9, [.ref (ad 1 0 0), .ref (ad 2 0 0), .ref (ad 3 0 0), .ref (ad 8 0 0), .int (nI (nF σ 2))]) := (px0 hP).2.2
    have r1_41 : f (ad 1 0 0) = .inr (8, [.ref (ad 6 0 0), .ref (ad 7 0 0), .int (nI (nF σ 1)), .int (nI (nF σ 3))]) := (px1 hP).2.2
    refine g_aload_n (n := 1) hX dX7_state_0 rfl rfl rfl ?_
    refine g_pget (n := 4) ux_X7 rfl hX hU dX7_state_1 rfl (px0 hP).1 r0_40 0 rfl uf_X7_10 rfl ?_
    refine g_iload_n (n := 5) hX dX7_state_4 rfl rfl rfl ?_
    refine g_pcallV (n := 8) (As := [.int x]) (rest := []) hX hE hU hY dX7_state_5 rfl yv_X6_findClass um_X7_129 (r_findClassN _ _ hP hI hc) ⟨rfl, rfl⟩ (rm_le hRm rfl rfl) rfl (px1 hP).1 r1_41 rfl rfl rfl (Nat.le_of_ble_eq_true rfl) ⟨Nat.zero_le _, Nat.zero_le _⟩ (fun v0 w0 hq0 => ?_)
    obtain ⟨rfl, rfl⟩ := hq0
    show G Γ (va_pl L f) 0 0 8 [(0, .ref (ad 0 0 0)), (1, .int x)] [.null]
    refine g_astore_nN (lv' := [(2, .null), (0, .ref (ad 0 0 0)), (1, .int x)]) (n := 9) hX dX7_state_8 rfl rfl (by rw [hnL]; rfl) rfl ?_
    refine g_aload_nN (n := 10) hX dX7_state_9 rfl rfl rfl ?_
    refine g_ifnonnullN (n := 13) hX dX7_state_10 rfl ?_
    refine g_bipush (n := 15) (v := (-2)) hX dX7_state_13 rfl rfl ?_
    exact g_iret hX hR dX7_state_15 ⟨by rw [hS], by rw [hS]; exact RW_rd hQ (cor_F0 σ 0)⟩

