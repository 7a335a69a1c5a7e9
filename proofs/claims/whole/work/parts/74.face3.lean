set_option maxHeartbeats 4000000 in
set_option maxRecDepth 100000 in
theorem F_unit (l : Launch) (D : va_G) (K : Nat → ClassId) (L : List Nat) (f : Nat → va_E) (ad : AD) (κ : TG) (g : GX) (σ : MS)  (hQ : RX K L f ad κ g σ 0) : Mc l yX7_unit (wM yX7_unit cX7_unit 1 (some .int)) (rmL 2 3 121) D (yY K) [.ref (ad 0 0 0)] (va_pl L f) (fun v w => v = some (.int (S_unit σ).1) ∧ RW K (ad 0 0 0) (S_unit σ).2 w) 3 121 := by
  refine m_start (lv := [(0, .ref (ad 0 0 0))]) rfl (Nat.le_of_ble_eq_true rfl) rfl (fun Γ hX hRm hnL hY hDD hLa hR hI hE => ?_)
  have hU : ∀ w ∈ wU, w ∈ wM yX7_unit cX7_unit 1 (some .int) := fun w h => wM_in h
  subst hLa
  subst hDD
  have hP := hQ.1
  have hL := hQ.2.1
  have hI := hQ.2.2
  by_cases hn : nF σ 2 < 8
  · have hS : S_unit σ = (nI (nF σ 2 + 1), sN σ) := by simp only [S_unit, if_neg (show ¬ nF σ 2 = 8 by omega), sN]
    have r0_1 : f (ad 0 0 0) = .inr (9, [.ref (ad 1 0 0), .ref (ad 2 0 0), .ref (ad 3 0 0), .ref (ad 8 0 0), .int (nI (nF σ 2))]) := (px0 hP).2.2
    have r8_2 : f (ad 8 0 0) = .inl (K 6, 8, rE (gun ad σ)) := (px8 hP).2.2
    refine g_aload_n (n := 1) hX dX7_unit_0 rfl rfl rfl ?_
    refine g_pget (n := 4) ux_X7 rfl hX hU dX7_unit_1 rfl (px0 hP).1 r0_1 4 rfl uf_X7_56 rfl ?_
    refine g_aload_n (n := 5) hX dX7_unit_4 rfl rfl rfl ?_
    refine g_pget (n := 8) ux_X7 rfl hX hU dX7_unit_5 rfl (px0 hP).1 r0_1 3 rfl uf_X7_34 rfl ?_
    refine g_palen (n := 9) (t0 := 6) (v := nI (8)) hX hY dX7_unit_8 rfl (px8 hP).1 r8_2 rfl rfl ?_
    refine g_icmp_lt (n := 12) (tgt := 14) hX dX7_unit_9 rfl (by decide) (fun c9 => ?_) (fun c9 => absurd (nI_lt (a := nF σ 2) (b := 8) hn (by decide)) c9)
    refine g_aload_n (n := 15) hX dX7_unit_14 rfl rfl rfl ?_
    refine g_pget (n := 18) ux_X7 rfl hX hU dX7_unit_15 rfl (px0 hP).1 r0_1 3 rfl uf_X7_34 rfl ?_
    refine g_aload_n (n := 19) hX dX7_unit_18 rfl rfl rfl ?_
    refine g_pget (n := 22) ux_X7 rfl hX hU dX7_unit_19 rfl (px0 hP).1 r0_1 4 rfl uf_X7_56 rfl ?_
    refine g_pnew (n := 25) (ci := 7) (fs := [.null, .null, .int 0, .int 0, .int 0, .int 0, .int 0, .int 0, .int 0]) tyX5 tyX5_ok ux_X5 rfl hX hU dX7_unit_22 rfl ul_X7_32 ut_X5 un_X5 (by decide) (by rw [hRm]; decide) (by rw [hRm]; decide) (fun q3 f3 hq3 ef3 => ?_)
    have had000_4 : f3 (ad 0 0 0) = .inr (9, [.ref (ad 1 0 0), .ref (ad 2 0 0), .ref (ad 3 0 0), .ref (ad 8 0 0), .int (nI (nF σ 2))]) := by rw [ef3, va_up_ne _ _ (ne_new (px0 hP).1 hq3)]; exact r0_1
    have had800_5 : f3 (ad 8 0 0) = .inl (K 6, 8, rE (gun ad σ)) := by rw [ef3, va_up_ne _ _ (ne_new (px8 hP).1 hq3)]; exact r8_2
    have hq3_6 : f3 q3 = .inr (7, [.null, .null, .int 0, .int 0, .int 0, .int 0, .int 0, .int 0, .int 0]) := by rw [ef3]; exact va_up_self _ _ _
    refine g_dup (n := 26) hX dX7_unit_25 rfl rfl ?_
    refine g_callI0 (n := 29) (As := []) (rest := [.ref q3, .int (nI (nF σ 2)), .ref (ad 8 0 0)]) hX hE hU hY dX7_unit_26 rfl yi_X5_init um_X7_60 (x_UnitInit _ _ K (L ++ [q3]) f3 q3 in_new hq3_6) ⟨rfl, rfl⟩ (rm_le hRm rfl rfl) rfl rfl (Nat.le_of_ble_eq_true rfl) (by rw [hRm]; decide) (fun v0 w0 hq0 => ?_)
    obtain ⟨rfl, qa7, qb7, hqa7, hqb7, f7, rfl, ef7⟩ := hq0
    show G Γ (va_pl (L ++ [q3] ++ [qa7] ++ [qb7]) f7) 3 121 29 [(0, .ref (ad 0 0 0))] [.ref q3, .int (nI (nF σ 2)), .ref (ad 8 0 0)]
    obtain ⟨fa8, ea8⟩ : ∃ g9 : Nat → va_E, g9 = va_up f3 qa7 (.inl (K 3, 12, rE (fun _ => none))) := ⟨_, rfl⟩
    obtain ⟨fb8, eb8⟩ : ∃ g9 : Nat → va_E, g9 = va_up fa8 qb7 (.inl (K 0, 100, .inl (fun _ => 0))) := ⟨_, rfl⟩
    rw [← ea8, ← eb8] at ef7
    have had000_9 : fa8 (ad 0 0 0) = .inr (9, [.ref (ad 1 0 0), .ref (ad 2 0 0), .ref (ad 3 0 0), .ref (ad 8 0 0), .int (nI (nF σ 2))]) := by rw [ea8, va_up_ne _ _ (ne_new (in_app (px0 hP).1) hqa7)]; exact had000_4
    have had800_10 : fa8 (ad 8 0 0) = .inl (K 6, 8, rE (gun ad σ)) := by rw [ea8, va_up_ne _ _ (ne_new (in_app (px8 hP).1) hqa7)]; exact had800_5
    have hq3_11 : fa8 q3 = .inr (7, [.null, .null, .int 0, .int 0, .int 0, .int 0, .int 0, .int 0, .int 0]) := by rw [ea8, va_up_ne _ _ (ne_new in_new hqa7)]; exact hq3_6
    have hqa7_12 : fa8 qa7 = .inl (K 3, 12, rE (fun _ => none)) := by rw [ea8]; exact va_up_self _ _ _
    have had000_13 : fb8 (ad 0 0 0) = .inr (9, [.ref (ad 1 0 0), .ref (ad 2 0 0), .ref (ad 3 0 0), .ref (ad 8 0 0), .int (nI (nF σ 2))]) := by rw [eb8, va_up_ne _ _ (ne_new (in_app (in_app (px0 hP).1)) hqb7)]; exact had000_9
    have had800_14 : fb8 (ad 8 0 0) = .inl (K 6, 8, rE (gun ad σ)) := by rw [eb8, va_up_ne _ _ (ne_new (in_app (in_app (px8 hP).1)) hqb7)]; exact had800_10
    have hq3_15 : fb8 q3 = .inr (7, [.null, .null, .int 0, .int 0, .int 0, .int 0, .int 0, .int 0, .int 0]) := by rw [eb8, va_up_ne _ _ (ne_new (in_app in_new) hqb7)]; exact hq3_11
    have hqa7_16 : fb8 qa7 = .inl (K 3, 12, rE (fun _ => none)) := by rw [eb8, va_up_ne _ _ (ne_new in_new hqb7)]; exact hqa7_12
    have hqb7_17 : fb8 qb7 = .inl (K 0, 100, .inl (fun _ => 0)) := by rw [eb8]; exact va_up_self _ _ _
    have had000_18 : f7 (ad 0 0 0) = .inr (9, [.ref (ad 1 0 0), .ref (ad 2 0 0), .ref (ad 3 0 0), .ref (ad 8 0 0), .int (nI (nF σ 2))]) := by rw [ef7, va_up_ne _ _ (ne_new (px0 hP).1 hq3)]; exact had000_13
    have had800_19 : f7 (ad 8 0 0) = .inl (K 6, 8, rE (gun ad σ)) := by rw [ef7, va_up_ne _ _ (ne_new (px8 hP).1 hq3)]; exact had800_14
    have hq3_20 : f7 q3 = .inr (7, [.ref qa7, .ref qb7, .int 0, .int 0, .int 0, .int 0, .int 0, .int 0, .int 0]) := by rw [ef7]; exact va_up_self _ _ _
    have hqa7_21 : f7 qa7 = .inl (K 3, 12, rE (fun _ => none)) := by rw [ef7, va_up_ne _ _ (Ne.symm (ne_new in_new hqa7))]; exact hqa7_16
    have hqb7_22 : f7 qb7 = .inl (K 0, 100, .inl (fun _ => 0)) := by rw [ef7, va_up_ne _ _ (Ne.symm (ne_new (in_app in_new) hqb7))]; exact hqb7_17
    refine g_past (n := 30) (i0 := nF σ 2) 6 hX hY dX7_unit_29 rfl (in_app (in_app (in_app (px8 hP).1))) had800_19 rfl (in_app (in_app in_new)) hq3_20 rfl (vp_in_nI (show nF σ 2 < 8 by omega) (by omega)) (nI_clamp (by omega)) (fun f23 ef23 => ?_)
    have had000_24 : f23 (ad 0 0 0) = .inr (9, [.ref (ad 1 0 0), .ref (ad 2 0 0), .ref (ad 3 0 0), .ref (ad 8 0 0), .int (nI (nF σ 2))]) := by rw [ef23, va_up_ne _ _ (ne_oa had000_18 had800_19)]; exact had000_18
    have had800_25 : f23 (ad 8 0 0) = .inl (K 6, 8, rE (va_up (gun ad σ) (nF σ 2) (some q3))) := by rw [ef23]; exact va_up_self _ _ _
    have hq3_26 : f23 q3 = .inr (7, [.ref qa7, .ref qb7, .int 0, .int 0, .int 0, .int 0, .int 0, .int 0, .int 0]) := by rw [ef23, va_up_ne _ _ (Ne.symm (ne_new (px8 hP).1 hq3))]; exact hq3_20
    have hqa7_27 : f23 qa7 = .inl (K 3, 12, rE (fun _ => none)) := by rw [ef23, va_up_ne _ _ (Ne.symm (ne_new (in_app (px8 hP).1) hqa7))]; exact hqa7_21
    have hqb7_28 : f23 qb7 = .inl (K 0, 100, .inl (fun _ => 0)) := by rw [ef23, va_up_ne _ _ (Ne.symm (ne_new (in_app (in_app (px8 hP).1)) hqb7))]; exact hqb7_22
    refine g_aload_n (n := 31) hX dX7_unit_30 rfl rfl rfl ?_
    refine g_dup (n := 32) hX dX7_unit_31 rfl rfl ?_
    refine g_pget (n := 35) ux_X7 rfl hX hU dX7_unit_32 rfl (in_app (in_app (in_app (px0 hP).1))) had000_24 4 rfl uf_X7_56 rfl ?_
    refine g_iconst (n := 36) (v := 1) hX dX7_unit_35 rfl rfl ?_
    refine g_iadd (n := 37) (v := nI (nF σ 2 + 1)) hX dX7_unit_36 rfl (nI_add (nF σ 2) (1)) ?_
    refine g_pput (n := 40) (fs' := [.ref (ad 1 0 0), .ref (ad 2 0 0), .ref (ad 3 0 0), .ref (ad 8 0 0), .int (nI (nF σ 2 + 1))]) tyX7 tyX7_ok nmX7 ux_X7 rfl hX hU dX7_unit_37 rfl (in_app (in_app (in_app (px0 hP).1))) had000_24 4 rfl uf_X7_56 rfl rfl rfl rfl rfl (fun f29 ef29 => ?_)
    have had000_30 : f29 (ad 0 0 0) = .inr (9, [.ref (ad 1 0 0), .ref (ad 2 0 0), .ref (ad 3 0 0), .ref (ad 8 0 0), .int (nI (nF σ 2 + 1))]) := by rw [ef29]; exact va_up_self _ _ _
    have had800_31 : f29 (ad 8 0 0) = .inl (K 6, 8, rE (va_up (gun ad σ) (nF σ 2) (some q3))) := by rw [ef29, va_up_ne _ _ (ne_ao had800_25 had000_24)]; exact had800_25
    have hq3_32 : f29 q3 = .inr (7, [.ref qa7, .ref qb7, .int 0, .int 0, .int 0, .int 0, .int 0, .int 0, .int 0]) := by rw [ef29, va_up_ne _ _ (Ne.symm (ne_new (px0 hP).1 hq3))]; exact hq3_26
    have hqa7_33 : f29 qa7 = .inl (K 3, 12, rE (fun _ => none)) := by rw [ef29, va_up_ne _ _ (Ne.symm (ne_new (in_app (px0 hP).1) hqa7))]; exact hqa7_27
    have hqb7_34 : f29 qb7 = .inl (K 0, 100, .inl (fun _ => 0)) := by rw [ef29, va_up_ne _ _ (Ne.symm (ne_new (in_app (in_app (px0 hP).1)) hqb7))]; exact hqb7_28
    refine g_aload_n (n := 41) hX dX7_unit_40 rfl rfl rfl ?_
    refine g_pget (n := 44) ux_X7 rfl hX hU dX7_unit_41 rfl (in_app (in_app (in_app (px0 hP).1))) had000_30 4 rfl uf_X7_56 rfl ?_
    exact g_iret hX hR dX7_unit_44 ⟨by rw [hS], by rw [hS]; simp only [ef3, ea8, eb8, ef7, ef23, ef29]; exact RW_mk (PX_newunit hP hI hq3 hqa7 hqb7 hn) (Lk_newunit hI hL hn) (Inv_newunit hI hn) (by rw [adS_t (tne (by decide)), adS_t (tne (by decide)), adS_t (tne (by decide))])⟩
  · have hS : S_unit σ = (-1, sF σ 0 0) := by simp only [S_unit, if_pos (show nF σ 2 = 8 by have := hI.nu.2; omega)]
    refine g_widen (kc' := 3) (ks' := 121) (by decide) (by decide) ?_
    have r0_35 : f (ad 0 0 0) = .inr (9, [.ref (ad 1 0 0), .ref (ad 2 0 0), .ref (ad 3 0 0), .ref (ad 8 0 0), .int (nI (nF σ 2))]) := (px0 hP).2.2
    have r8_36 : f (ad 8 0 0) = .inl (K 6, 8, rE (gun ad σ)) := (px8 hP).2.2
    refine g_aload_n (n := 1) hX dX7_unit_0 rfl rfl rfl ?_
    refine g_pget (n := 4) ux_X7 rfl hX hU dX7_unit_1 rfl (px0 hP).1 r0_35 4 rfl uf_X7_56 rfl ?_
    refine g_aload_n (n := 5) hX dX7_unit_4 rfl rfl rfl ?_
    refine g_pget (n := 8) ux_X7 rfl hX hU dX7_unit_5 rfl (px0 hP).1 r0_35 3 rfl uf_X7_34 rfl ?_
    refine g_palen (n := 9) (t0 := 6) (v := nI (8)) hX hY dX7_unit_8 rfl (px8 hP).1 r8_36 rfl rfl ?_
    refine g_icmp_lt (n := 12) (tgt := 14) hX dX7_unit_9 rfl (by decide) (fun c9 => absurd c9 (nI_nlt (a := nF σ 2) (b := 8) (by omega) (by have := hI.nu.2; omega))) (fun c9 => ?_)
    refine g_iconst (n := 13) (v := (-1)) hX dX7_unit_12 rfl rfl ?_
    exact g_iret hX hR dX7_unit_13 ⟨by rw [hS], by rw [hS]; exact RW_rd hQ (cor_F0 σ 0)⟩

theorem made_inv0 {σ : MS} (hI : Inv σ) {u p : Nat} (hu1 : 1 ≤ u) (hu2 : u ≤ nF σ 2) (hp1 : 1 ≤ p) (hp2 : p ≤ nF σ 1) (hlat : nA σ 14 (13 * u + p) = 0) (hnc : nF σ 3 < 40) : Inv (sM σ u p) := by
  have h := Inv_made (x9 := σ.1 9 0) (x10 := σ.1 10 0) hI hnc hu1 hu2 hp1 hp2 hlat.symm (fun h9 => absurd rfl h9) (fun _ => ⟨(hI.cz 0 (by decide) (Or.inl rfl)).2.1, (hI.cz 0 (by decide) (Or.inl rfl)).2.2.1⟩)
  rw [sMd_N] at h
  exact h
theorem made_inv1 {σ : MS} (hI : Inv σ) {u p c : Nat} (hu1 : 1 ≤ u) (hu2 : u ≤ nF σ 2) (hp1 : 1 ≤ p) (hp2 : p ≤ nF σ 1) (hlat : nA σ 14 (13 * u + p) = c) (hc : 1 ≤ c) (hnc : nF σ 3 < 40) : Inv (sMd σ u p c 1 0) :=
  Inv_made hI hnc hu1 hu2 hp1 hp2 hlat.symm (fun _ => rfl) (fun h9 => by omega)
set_option maxHeartbeats 4000000 in
set_option maxRecDepth 100000 in
theorem F_make (l : Launch) (D : va_G) (K : Nat → ClassId) (L : List Nat) (f : Nat → va_E) (ad : AD) (κ : TG) (g : GX) (σ : MS) (u p : Int32) (hQ : RX K L f ad κ g σ 0) : Mc l yX7_make (wM yX7_make cX7_make 6 (some .int)) (rmL 3 2 109) D (yY K) [.ref (ad 0 0 0), .int u, .int p] (va_pl L f) (fun v w => v = some (.int (S_make σ u p).1) ∧ RW K (ad 0 0 0) (S_make σ u p).2 w) 2 109 := by
  refine m_start (lv := [(0, .ref (ad 0 0 0)), (1, .int u), (2, .int p)]) rfl (Nat.le_of_ble_eq_true rfl) rfl (fun Γ hX hRm hnL hY hDD hLa hR hI hE => ?_)
  have hU : ∀ w ∈ wU, w ∈ wM yX7_make cX7_make 6 (some .int) := fun w h => wM_in h
  subst hLa
  subst hDD
  have hP := hQ.1
  have hL := hQ.2.1
  have hI := hQ.2.2
  by_cases hu : 1 ≤ u ∧ u ≤ σ.2 2
  · obtain ⟨n, rfl, hu1, hu8, -, hu2⟩ := in1 hI.1.2.1 (by decide) hu
    have hu2 : n ≤ nF σ 2 := hu2
    have ehu : (nI n).toNatClampNeg = n := nI_clamp (by omega)
    by_cases hp : 1 ≤ p ∧ p ≤ σ.2 1
    · obtain ⟨m, rfl, hp1, hp8, -, hp2⟩ := in1 hI.1.1 (by decide) hp
      have hp2 : m ≤ nF σ 1 := hp2
      have ehp : (nI m).toNatClampNeg = m := nI_clamp (by omega)
      by_cases h12 : σ.1 12 n = 0
      · have hS0 : S_make σ (nI n) (nI m) = S_made (sF σ 0 0) n m := by simp only [S_make, if_pos hu, if_pos hp, ehu, ehp, if_pos h12]
        have hQ1 := RX_F0 hQ 0
        have hu3 : n ≤ nF (sF σ 0 0) 2 := hu2
        have hp3 : m ≤ nF (sF σ 0 0) 1 := hp2
        have h13 : (sF σ 0 0).1 12 n = 0 := h12
        rw [hS0] at hR
        clear hS0
        obtain ⟨τ, hτ⟩ : ∃ τ, sF σ 0 0 = τ := ⟨_, rfl⟩
        rw [hτ] at hQ1 hu3 hp3 h13 hR
        have hP := hQ1.1
        have hL := hQ1.2.1
        have hI := hQ1.2.2
        have hu := rI_in hu1 hu3 (by have := hI.nu.2; omega)
        have h40 := hI.nc.2
        obtain ⟨c, hlat⟩ : ∃ c, nA τ 14 (13 * n + m) = c := ⟨_, rfl⟩
        by_cases hc0 : c = 0
        · subst hc0
          by_cases hnc : nF τ 3 < 40
          · have hS : S_made τ n m = (nI (nF τ 3 + 1), sM τ n m) := made_new hlat (by omega)
            have r0_37 : f (ad 0 0 0) = .inr (9, [.ref (ad 1 0 0), .ref (ad 2 0 0), .ref (ad 3 0 0), .ref (ad 8 0 0), .int (nI (nF τ 2))]) := (px0 hP).2.2
            have r1_38 : f (ad 1 0 0) = .inr (8, [.ref (ad 6 0 0), .ref (ad 7 0 0), .int (nI (nF τ 1)), .int (nI (nF τ 3))]) := (px1 hP).2.2
            have r12_39 : f (ad 12 n 0) = .inr (7, [.ref (ad 13 n 0), .ref (ad 14 n 0), .int (τ.1 12 n), .int (τ.1 13 n), .int (gfl g n), .int (geb g n), .int (τ.1 17 n), .int (τ.1 18 n), .int (nI (nA τ 19 n))]) := (px12 hP n hu1 hu3).2.2
            have r9_40 : f (ad 9 m 0) = .inr (5, [.int (nI m), .int (nI (nA τ 0 m)), .int (τ.1 5 m), .ref (ad 10 m 0), .int (nI (nA τ 1 m))]) := (px9 hP m hp1 hp3).2.2
            refine g_aload_n (n := 1) hX dX7_make_0 rfl rfl rfl ?_
            refine g_iload_n (n := 2) hX dX7_make_1 rfl rfl rfl ?_
            refine g_pcallV (n := 5) (As := [.int (nI n)]) (rest := []) hX hE hU hY dX7_make_2 rfl yv_X7_findUnit um_X7_61 (r_findUnitY _ _ hP hI hu1 hu3) ⟨rfl, rfl⟩ (rm_le hRm rfl rfl) rfl (px0 hP).1 r0_37 rfl rfl rfl (Nat.le_of_ble_eq_true rfl) ⟨Nat.zero_le _, Nat.zero_le _⟩ (fun v0 w0 hq0 => ?_)
            obtain ⟨rfl, rfl⟩ := hq0
            show G Γ (va_pl L f) 0 0 5 [(0, .ref (ad 0 0 0)), (1, .int (nI n)), (2, .int (nI m))] [.ref (ad 12 n 0)]
            refine g_astore_n (lv' := [(3, .ref (ad 12 n 0)), (0, .ref (ad 0 0 0)), (1, .int (nI n)), (2, .int (nI m))]) (n := 6) hX dX7_make_5 rfl rfl (by rw [hnL]; rfl) rfl ?_
            refine g_aload_n (n := 7) hX dX7_make_6 rfl rfl rfl ?_
            refine g_pget (n := 10) ux_X7 rfl hX hU dX7_make_7 rfl (px0 hP).1 r0_37 0 rfl uf_X7_10 rfl ?_
            refine g_iload_n (n := 11) hX dX7_make_10 rfl rfl rfl ?_
            refine g_pcallV (n := 14) (As := [.int (nI m)]) (rest := []) hX hE hU hY dX7_make_11 rfl yv_X6_findProgram um_X7_42 (r_findProgramY _ _ hP hI hp1 hp3) ⟨rfl, rfl⟩ (rm_le hRm rfl rfl) rfl (px1 hP).1 r1_38 rfl rfl rfl (Nat.le_of_ble_eq_true rfl) ⟨Nat.zero_le _, Nat.zero_le _⟩ (fun v0 w0 hq0 => ?_)
            obtain ⟨rfl, rfl⟩ := hq0
            show G Γ (va_pl L f) 0 0 14 [(3, .ref (ad 12 n 0)), (0, .ref (ad 0 0 0)), (1, .int (nI n)), (2, .int (nI m))] [.ref (ad 9 m 0)]
            refine g_astore (lv' := [(4, .ref (ad 9 m 0)), (3, .ref (ad 12 n 0)), (0, .ref (ad 0 0 0)), (1, .int (nI n)), (2, .int (nI m))]) (n := 16) hX dX7_make_14 rfl (by rw [hnL]; rfl) rfl ?_
            refine g_aload_n (n := 17) hX dX7_make_16 rfl rfl rfl ?_
            refine g_ifnull (n := 20) hX dX7_make_17 rfl ?_
            refine g_aload (n := 22) hX dX7_make_20 rfl rfl ?_
            refine g_ifnonnull (tgt := 28) hX dX7_make_22 (by decide) ?_
            refine g_aload_n (n := 29) hX dX7_make_28 rfl rfl rfl ?_
            refine g_pget (n := 32) ux_X5 rfl hX hU dX7_make_29 rfl (px12 hP n hu1 hu3).1 r12_39 2 rfl uf_X7_65 rfl ?_
            refine g_if_eq (n := 35) (tgt := 38) hX dX7_make_32 rfl (by decide) (fun c32 => ?_) (fun c32 => absurd h13 c32)
            refine g_aload_n (n := 39) hX dX7_make_38 rfl rfl rfl ?_
            refine g_pget (n := 42) ux_X7 rfl hX hU dX7_make_39 rfl (px0 hP).1 r0_37 0 rfl uf_X7_10 rfl ?_
            refine g_aload_n (n := 43) hX dX7_make_42 rfl rfl rfl ?_
            refine g_aload (n := 45) hX dX7_make_43 rfl rfl ?_
            refine g_pcallV (n := 48) (As := [.ref (ad 12 n 0), .ref (ad 9 m 0)]) (rest := []) hX hE hU hY dX7_make_45 rfl yv_X6_classFor um_X7_69 (r_classForN _ _ hP hI hu1 hu3 hp1 hp3 hL hlat hnc) ⟨rfl, rfl⟩ (rm_le hRm rfl rfl) rfl (px1 hP).1 r1_38 rfl rfl rfl (Nat.le_of_ble_eq_true rfl) (by rw [hRm]; decide) (fun v0 w0 hq0 => ?_)
            obtain ⟨L1, f1, ad1, κ1, g1, rfl, rfl, hP1, hL1, hEX, -, -⟩ := hq0
            show G Γ (va_pl L1 f1) 2 109 48 [(4, .ref (ad 9 m 0)), (3, .ref (ad 12 n 0)), (0, .ref (ad 0 0 0)), (1, .int (nI n)), (2, .int (nI m))] [.ref (ad1 15 (nF τ 3 + 1) 0)]
            have h15 := px15 hP1 (nF τ 3 + 1) (by omega) (by rw [show nF (sM τ n m) 3 = nF τ 3 + 1 from nF_of (show (sM τ n m).2 3 = nI (nF τ 3 + 1) from rfl) (by omega)]; exact Nat.le_refl _)
            refine g_astore (lv' := [(5, .ref (ad1 15 (nF τ 3 + 1) 0)), (4, .ref (ad 9 m 0)), (3, .ref (ad 12 n 0)), (0, .ref (ad 0 0 0)), (1, .int (nI n)), (2, .int (nI m))]) (n := 50) hX dX7_make_48 rfl (by rw [hnL]; rfl) rfl ?_
            refine g_aload (n := 52) hX dX7_make_50 rfl rfl ?_
            refine g_ifnonnull (tgt := 59) hX dX7_make_52 (by decide) ?_
            refine g_aload (n := 61) hX dX7_make_59 rfl rfl ?_
            refine g_pget (n := 64) ux_X2 rfl hX hU dX7_make_61 rfl h15.1 h15.2.2 0 rfl uf_X7_73 rfl ?_
            exact g_iret hX hR dX7_make_64 ⟨by rw [hS], by rw [hS]; exact RW_mk hP1 hL1 (made_inv0 hI hu1 hu3 hp1 hp3 hlat hnc) (hEX 0 0 0 (Or.inl ⟨by decide, by decide⟩))⟩
          · have hnc : nF τ 3 = 40 := by omega
            have hS : S_made τ n m = (-1, τ) := made_full hlat hnc
            have r0_41 : f (ad 0 0 0) = .inr (9, [.ref (ad 1 0 0), .ref (ad 2 0 0), .ref (ad 3 0 0), .ref (ad 8 0 0), .int (nI (nF τ 2))]) := (px0 hP).2.2
            have r1_42 : f (ad 1 0 0) = .inr (8, [.ref (ad 6 0 0), .ref (ad 7 0 0), .int (nI (nF τ 1)), .int (nI (nF τ 3))]) := (px1 hP).2.2
            have r12_43 : f (ad 12 n 0) = .inr (7, [.ref (ad 13 n 0), .ref (ad 14 n 0), .int (τ.1 12 n), .int (τ.1 13 n), .int (gfl g n), .int (geb g n), .int (τ.1 17 n), .int (τ.1 18 n), .int (nI (nA τ 19 n))]) := (px12 hP n hu1 hu3).2.2
            have r9_44 : f (ad 9 m 0) = .inr (5, [.int (nI m), .int (nI (nA τ 0 m)), .int (τ.1 5 m), .ref (ad 10 m 0), .int (nI (nA τ 1 m))]) := (px9 hP m hp1 hp3).2.2
            refine g_aload_n (n := 1) hX dX7_make_0 rfl rfl rfl ?_
            refine g_iload_n (n := 2) hX dX7_make_1 rfl rfl rfl ?_
            refine g_pcallV (n := 5) (As := [.int (nI n)]) (rest := []) hX hE hU hY dX7_make_2 rfl yv_X7_findUnit um_X7_61 (r_findUnitY _ _ hP hI hu1 hu3) ⟨rfl, rfl⟩ (rm_le hRm rfl rfl) rfl (px0 hP).1 r0_41 rfl rfl rfl (Nat.le_of_ble_eq_true rfl) ⟨Nat.zero_le _, Nat.zero_le _⟩ (fun v0 w0 hq0 => ?_)
            obtain ⟨rfl, rfl⟩ := hq0
            show G Γ (va_pl L f) 0 0 5 [(0, .ref (ad 0 0 0)), (1, .int (nI n)), (2, .int (nI m))] [.ref (ad 12 n 0)]
            refine g_astore_n (lv' := [(3, .ref (ad 12 n 0)), (0, .ref (ad 0 0 0)), (1, .int (nI n)), (2, .int (nI m))]) (n := 6) hX dX7_make_5 rfl rfl (by rw [hnL]; rfl) rfl ?_
            refine g_aload_n (n := 7) hX dX7_make_6 rfl rfl rfl ?_
            refine g_pget (n := 10) ux_X7 rfl hX hU dX7_make_7 rfl (px0 hP).1 r0_41 0 rfl uf_X7_10 rfl ?_
            refine g_iload_n (n := 11) hX dX7_make_10 rfl rfl rfl ?_
            refine g_pcallV (n := 14) (As := [.int (nI m)]) (rest := []) hX hE hU hY dX7_make_11 rfl yv_X6_findProgram um_X7_42 (r_findProgramY _ _ hP hI hp1 hp3) ⟨rfl, rfl⟩ (rm_le hRm rfl rfl) rfl (px1 hP).1 r1_42 rfl rfl rfl (Nat.le_of_ble_eq_true rfl) ⟨Nat.zero_le _, Nat.zero_le _⟩ (fun v0 w0 hq0 => ?_)
            obtain ⟨rfl, rfl⟩ := hq0
            show G Γ (va_pl L f) 0 0 14 [(3, .ref (ad 12 n 0)), (0, .ref (ad 0 0 0)), (1, .int (nI n)), (2, .int (nI m))] [.ref (ad 9 m 0)]
            refine g_astore (lv' := [(4, .ref (ad 9 m 0)), (3, .ref (ad 12 n 0)), (0, .ref (ad 0 0 0)), (1, .int (nI n)), (2, .int (nI m))]) (n := 16) hX dX7_make_14 rfl (by rw [hnL]; rfl) rfl ?_
            refine g_aload_n (n := 17) hX dX7_make_16 rfl rfl rfl ?_
            refine g_ifnull (n := 20) hX dX7_make_17 rfl ?_
            refine g_aload (n := 22) hX dX7_make_20 rfl rfl ?_
            refine g_ifnonnull (tgt := 28) hX dX7_make_22 (by decide) ?_
            refine g_aload_n (n := 29) hX dX7_make_28 rfl rfl rfl ?_
            refine g_pget (n := 32) ux_X5 rfl hX hU dX7_make_29 rfl (px12 hP n hu1 hu3).1 r12_43 2 rfl uf_X7_65 rfl ?_
            refine g_if_eq (n := 35) (tgt := 38) hX dX7_make_32 rfl (by decide) (fun c32 => ?_) (fun c32 => absurd h13 c32)
            refine g_aload_n (n := 39) hX dX7_make_38 rfl rfl rfl ?_
            refine g_pget (n := 42) ux_X7 rfl hX hU dX7_make_39 rfl (px0 hP).1 r0_41 0 rfl uf_X7_10 rfl ?_
            refine g_aload_n (n := 43) hX dX7_make_42 rfl rfl rfl ?_
            refine g_aload (n := 45) hX dX7_make_43 rfl rfl ?_
            refine g_pcallV (n := 48) (As := [.ref (ad 12 n 0), .ref (ad 9 m 0)]) (rest := []) hX hE hU hY dX7_make_45 rfl yv_X6_classFor um_X7_69 (r_classForF _ _ hP hI hu1 hu3 hp1 hp3 hlat hnc) ⟨rfl, rfl⟩ (rm_le hRm rfl rfl) rfl (px1 hP).1 r1_42 rfl rfl rfl (Nat.le_of_ble_eq_true rfl) (by rw [hRm]; decide) (fun v0 w0 hq0 => ?_)
            obtain ⟨rfl, rfl⟩ := hq0
            show G Γ (va_pl L f) 0 0 48 [(4, .ref (ad 9 m 0)), (3, .ref (ad 12 n 0)), (0, .ref (ad 0 0 0)), (1, .int (nI n)), (2, .int (nI m))] [.null]
            refine g_astoreN (lv' := [(5, .null), (4, .ref (ad 9 m 0)), (3, .ref (ad 12 n 0)), (0, .ref (ad 0 0 0)), (1, .int (nI n)), (2, .int (nI m))]) (n := 50) hX dX7_make_48 rfl (by rw [hnL]; rfl) rfl ?_
            refine g_aloadN (n := 52) hX dX7_make_50 rfl rfl ?_
            refine g_ifnonnullN (n := 55) hX dX7_make_52 rfl ?_
            refine g_iconst (n := 56) (v := (-1)) hX dX7_make_55 rfl rfl ?_
            refine g_goto (n := 64) hX dX7_make_56 (by decide) ?_
            refine g_widen (kc' := 2) (ks' := 109) (Nat.le_of_ble_eq_true rfl) (Nat.le_of_ble_eq_true rfl) ?_
            exact g_iret hX hR dX7_make_64 ⟨by rw [hS], by rw [hS]; exact RW_rd hQ1 rfl⟩
        · have hcl := (hI.lat n m hu1 hu8 hp1 hp8).resolve_left (by rw [hlat]; exact hc0)
          rw [hlat] at hcl
          have hc1 : 1 ≤ c := by omega
          have hc2 : c ≤ nF τ 3 := hcl.1
          have hpos : 0 < nA τ 14 (13 * n + m) := by omega
          by_cases heq : τ.1 8 c = τ.1 1 m
          · have hS : S_made τ n m = (nI c, τ) := by rw [made_same hpos (by rw [hlat]; exact heq), hlat]
            have r0_45 : f (ad 0 0 0) = .inr (9, [.ref (ad 1 0 0), .ref (ad 2 0 0), .ref (ad 3 0 0), .ref (ad 8 0 0), .int (nI (nF τ 2))]) := (px0 hP).2.2
            have r1_46 : f (ad 1 0 0) = .inr (8, [.ref (ad 6 0 0), .ref (ad 7 0 0), .int (nI (nF τ 1)), .int (nI (nF τ 3))]) := (px1 hP).2.2
            have r12_47 : f (ad 12 n 0) = .inr (7, [.ref (ad 13 n 0), .ref (ad 14 n 0), .int (τ.1 12 n), .int (τ.1 13 n), .int (gfl g n), .int (geb g n), .int (τ.1 17 n), .int (τ.1 18 n), .int (nI (nA τ 19 n))]) := (px12 hP n hu1 hu3).2.2
            have r9_48 : f (ad 9 m 0) = .inr (5, [.int (nI m), .int (nI (nA τ 0 m)), .int (τ.1 5 m), .ref (ad 10 m 0), .int (nI (nA τ 1 m))]) := (px9 hP m hp1 hp3).2.2
            have r15_49 : f (ad 15 c 0) = .inr (4, [.int (nI c), .ref (ad 12 (nA τ 6 c) 0), .ref (ad 9 (nA τ 7 c) 0), .int (nI (nA τ 8 c)), .ref (ad 16 c 0), va_rf (if gfa g c = true then some (ad 17 c 0) else none), .int (gsd g c), .int (τ.1 11 c), .int (τ.1 9 c)]) := (px15 hP c hc1 hc2).2.2
            refine g_aload_n (n := 1) hX dX7_make_0 rfl rfl rfl ?_
            refine g_iload_n (n := 2) hX dX7_make_1 rfl rfl rfl ?_
            refine g_pcallV (n := 5) (As := [.int (nI n)]) (rest := []) hX hE hU hY dX7_make_2 rfl yv_X7_findUnit um_X7_61 (r_findUnitY _ _ hP hI hu1 hu3) ⟨rfl, rfl⟩ (rm_le hRm rfl rfl) rfl (px0 hP).1 r0_45 rfl rfl rfl (Nat.le_of_ble_eq_true rfl) ⟨Nat.zero_le _, Nat.zero_le _⟩ (fun v0 w0 hq0 => ?_)
            obtain ⟨rfl, rfl⟩ := hq0
            show G Γ (va_pl L f) 0 0 5 [(0, .ref (ad 0 0 0)), (1, .int (nI n)), (2, .int (nI m))] [.ref (ad 12 n 0)]
            refine g_astore_n (lv' := [(3, .ref (ad 12 n 0)), (0, .ref (ad 0 0 0)), (1, .int (nI n)), (2, .int (nI m))]) (n := 6) hX dX7_make_5 rfl rfl (by rw [hnL]; rfl) rfl ?_
            refine g_aload_n (n := 7) hX dX7_make_6 rfl rfl rfl ?_
            refine g_pget (n := 10) ux_X7 rfl hX hU dX7_make_7 rfl (px0 hP).1 r0_45 0 rfl uf_X7_10 rfl ?_
            refine g_iload_n (n := 11) hX dX7_make_10 rfl rfl rfl ?_
            refine g_pcallV (n := 14) (As := [.int (nI m)]) (rest := []) hX hE hU hY dX7_make_11 rfl yv_X6_findProgram um_X7_42 (r_findProgramY _ _ hP hI hp1 hp3) ⟨rfl, rfl⟩ (rm_le hRm rfl rfl) rfl (px1 hP).1 r1_46 rfl rfl rfl (Nat.le_of_ble_eq_true rfl) ⟨Nat.zero_le _, Nat.zero_le _⟩ (fun v0 w0 hq0 => ?_)
            obtain ⟨rfl, rfl⟩ := hq0
            show G Γ (va_pl L f) 0 0 14 [(3, .ref (ad 12 n 0)), (0, .ref (ad 0 0 0)), (1, .int (nI n)), (2, .int (nI m))] [.ref (ad 9 m 0)]
            refine g_astore (lv' := [(4, .ref (ad 9 m 0)), (3, .ref (ad 12 n 0)), (0, .ref (ad 0 0 0)), (1, .int (nI n)), (2, .int (nI m))]) (n := 16) hX dX7_make_14 rfl (by rw [hnL]; rfl) rfl ?_
            refine g_aload_n (n := 17) hX dX7_make_16 rfl rfl rfl ?_
            refine g_ifnull (n := 20) hX dX7_make_17 rfl ?_
            refine g_aload (n := 22) hX dX7_make_20 rfl rfl ?_
            refine g_ifnonnull (tgt := 28) hX dX7_make_22 (by decide) ?_
            refine g_aload_n (n := 29) hX dX7_make_28 rfl rfl rfl ?_
            refine g_pget (n := 32) ux_X5 rfl hX hU dX7_make_29 rfl (px12 hP n hu1 hu3).1 r12_47 2 rfl uf_X7_65 rfl ?_
            refine g_if_eq (n := 35) (tgt := 38) hX dX7_make_32 rfl (by decide) (fun c32 => ?_) (fun c32 => absurd h13 c32)
            refine g_aload_n (n := 39) hX dX7_make_38 rfl rfl rfl ?_
            refine g_pget (n := 42) ux_X7 rfl hX hU dX7_make_39 rfl (px0 hP).1 r0_45 0 rfl uf_X7_10 rfl ?_
            refine g_aload_n (n := 43) hX dX7_make_42 rfl rfl rfl ?_
            refine g_aload (n := 45) hX dX7_make_43 rfl rfl ?_
            refine g_pcallV (n := 48) (As := [.ref (ad 12 n 0), .ref (ad 9 m 0)]) (rest := []) hX hE hU hY dX7_make_45 rfl yv_X6_classFor um_X7_69 (r_classForS _ _ hP hI hu1 hu3 hp1 hp3 hL hlat hc1 hc2) ⟨rfl, rfl⟩ (rm_le hRm rfl rfl) rfl (px1 hP).1 r1_46 rfl rfl rfl (Nat.le_of_ble_eq_true rfl) (by rw [hRm]; decide) (fun v0 w0 hq0 => ?_)
            obtain ⟨rfl, rfl⟩ : v0 = some (.ref (ad 15 c 0)) ∧ w0 = va_pl L f := by rcases hq0 with h9 | h9 | h9; exact h9.2; exact absurd heq h9.1; exact absurd heq h9.1
            show G Γ (va_pl L f) 2 109 48 [(4, .ref (ad 9 m 0)), (3, .ref (ad 12 n 0)), (0, .ref (ad 0 0 0)), (1, .int (nI n)), (2, .int (nI m))] [.ref (ad 15 c 0)]
            refine g_astore (lv' := [(5, .ref (ad 15 c 0)), (4, .ref (ad 9 m 0)), (3, .ref (ad 12 n 0)), (0, .ref (ad 0 0 0)), (1, .int (nI n)), (2, .int (nI m))]) (n := 50) hX dX7_make_48 rfl (by rw [hnL]; rfl) rfl ?_
            refine g_aload (n := 52) hX dX7_make_50 rfl rfl ?_
            refine g_ifnonnull (tgt := 59) hX dX7_make_52 (by decide) ?_
            refine g_aload (n := 61) hX dX7_make_59 rfl rfl ?_
            refine g_pget (n := 64) ux_X2 rfl hX hU dX7_make_61 rfl (px15 hP c hc1 hc2).1 r15_49 0 rfl uf_X7_73 rfl ?_
            exact g_iret hX hR dX7_make_64 ⟨by rw [hS], by rw [hS]; exact RW_rd hQ1 rfl⟩
          · by_cases hnc : nF τ 3 < 40
            · have hS : S_made τ n m = (nI (nF τ 3 + 1), sMd τ n m c 1 0) := by rw [made_old hpos (by rw [hlat]; exact heq) (by omega), hlat]
              have r0_50 : f (ad 0 0 0) = .inr (9, [.ref (ad 1 0 0), .ref (ad 2 0 0), .ref (ad 3 0 0), .ref (ad 8 0 0), .int (nI (nF τ 2))]) := (px0 hP).2.2
              have r1_51 : f (ad 1 0 0) = .inr (8, [.ref (ad 6 0 0), .ref (ad 7 0 0), .int (nI (nF τ 1)), .int (nI (nF τ 3))]) := (px1 hP).2.2
              have r12_52 : f (ad 12 n 0) = .inr (7, [.ref (ad 13 n 0), .ref (ad 14 n 0), .int (τ.1 12 n), .int (τ.1 13 n), .int (gfl g n), .int (geb g n), .int (τ.1 17 n), .int (τ.1 18 n), .int (nI (nA τ 19 n))]) := (px12 hP n hu1 hu3).2.2
              have r9_53 : f (ad 9 m 0) = .inr (5, [.int (nI m), .int (nI (nA τ 0 m)), .int (τ.1 5 m), .ref (ad 10 m 0), .int (nI (nA τ 1 m))]) := (px9 hP m hp1 hp3).2.2
              have r15_54 : f (ad 15 c 0) = .inr (4, [.int (nI c), .ref (ad 12 (nA τ 6 c) 0), .ref (ad 9 (nA τ 7 c) 0), .int (nI (nA τ 8 c)), .ref (ad 16 c 0), va_rf (if gfa g c = true then some (ad 17 c 0) else none), .int (gsd g c), .int (τ.1 11 c), .int (τ.1 9 c)]) := (px15 hP c hc1 hc2).2.2
              refine g_aload_n (n := 1) hX dX7_make_0 rfl rfl rfl ?_
              refine g_iload_n (n := 2) hX dX7_make_1 rfl rfl rfl ?_
              refine g_pcallV (n := 5) (As := [.int (nI n)]) (rest := []) hX hE hU hY dX7_make_2 rfl yv_X7_findUnit um_X7_61 (r_findUnitY _ _ hP hI hu1 hu3) ⟨rfl, rfl⟩ (rm_le hRm rfl rfl) rfl (px0 hP).1 r0_50 rfl rfl rfl (Nat.le_of_ble_eq_true rfl) ⟨Nat.zero_le _, Nat.zero_le _⟩ (fun v0 w0 hq0 => ?_)
              obtain ⟨rfl, rfl⟩ := hq0
              show G Γ (va_pl L f) 0 0 5 [(0, .ref (ad 0 0 0)), (1, .int (nI n)), (2, .int (nI m))] [.ref (ad 12 n 0)]
              refine g_astore_n (lv' := [(3, .ref (ad 12 n 0)), (0, .ref (ad 0 0 0)), (1, .int (nI n)), (2, .int (nI m))]) (n := 6) hX dX7_make_5 rfl rfl (by rw [hnL]; rfl) rfl ?_
              refine g_aload_n (n := 7) hX dX7_make_6 rfl rfl rfl ?_
              refine g_pget (n := 10) ux_X7 rfl hX hU dX7_make_7 rfl (px0 hP).1 r0_50 0 rfl uf_X7_10 rfl ?_
              refine g_iload_n (n := 11) hX dX7_make_10 rfl rfl rfl ?_
              refine g_pcallV (n := 14) (As := [.int (nI m)]) (rest := []) hX hE hU hY dX7_make_11 rfl yv_X6_findProgram um_X7_42 (r_findProgramY _ _ hP hI hp1 hp3) ⟨rfl, rfl⟩ (rm_le hRm rfl rfl) rfl (px1 hP).1 r1_51 rfl rfl rfl (Nat.le_of_ble_eq_true rfl) ⟨Nat.zero_le _, Nat.zero_le _⟩ (fun v0 w0 hq0 => ?_)
              obtain ⟨rfl, rfl⟩ := hq0
              show G Γ (va_pl L f) 0 0 14 [(3, .ref (ad 12 n 0)), (0, .ref (ad 0 0 0)), (1, .int (nI n)), (2, .int (nI m))] [.ref (ad 9 m 0)]
              refine g_astore (lv' := [(4, .ref (ad 9 m 0)), (3, .ref (ad 12 n 0)), (0, .ref (ad 0 0 0)), (1, .int (nI n)), (2, .int (nI m))]) (n := 16) hX dX7_make_14 rfl (by rw [hnL]; rfl) rfl ?_
              refine g_aload_n (n := 17) hX dX7_make_16 rfl rfl rfl ?_
              refine g_ifnull (n := 20) hX dX7_make_17 rfl ?_
              refine g_aload (n := 22) hX dX7_make_20 rfl rfl ?_
              refine g_ifnonnull (tgt := 28) hX dX7_make_22 (by decide) ?_
              refine g_aload_n (n := 29) hX dX7_make_28 rfl rfl rfl ?_
              refine g_pget (n := 32) ux_X5 rfl hX hU dX7_make_29 rfl (px12 hP n hu1 hu3).1 r12_52 2 rfl uf_X7_65 rfl ?_
              refine g_if_eq (n := 35) (tgt := 38) hX dX7_make_32 rfl (by decide) (fun c32 => ?_) (fun c32 => absurd h13 c32)
              refine g_aload_n (n := 39) hX dX7_make_38 rfl rfl rfl ?_
              refine g_pget (n := 42) ux_X7 rfl hX hU dX7_make_39 rfl (px0 hP).1 r0_50 0 rfl uf_X7_10 rfl ?_
              refine g_aload_n (n := 43) hX dX7_make_42 rfl rfl rfl ?_
              refine g_aload (n := 45) hX dX7_make_43 rfl rfl ?_
              refine g_pcallV (n := 48) (As := [.ref (ad 12 n 0), .ref (ad 9 m 0)]) (rest := []) hX hE hU hY dX7_make_45 rfl yv_X6_classFor um_X7_69 (r_classForS _ _ hP hI hu1 hu3 hp1 hp3 hL hlat hc1 hc2) ⟨rfl, rfl⟩ (rm_le hRm rfl rfl) rfl (px1 hP).1 r1_51 rfl rfl rfl (Nat.le_of_ble_eq_true rfl) (by rw [hRm]; decide) (fun v0 w0 hq0 => ?_)
              obtain ⟨L1, f1, ad1, κ1, g1, rfl, rfl, hP1, hL1, hEX, -, -⟩ : CFP K ad g τ (sMd τ n m c 1 0) 0 v0 w0 := by rcases hq0 with h9 | h9 | h9; exact absurd h9.1 heq; exact absurd h9.2.1 (by omega); exact h9.2.2
              show G Γ (va_pl L1 f1) 2 109 48 [(4, .ref (ad 9 m 0)), (3, .ref (ad 12 n 0)), (0, .ref (ad 0 0 0)), (1, .int (nI n)), (2, .int (nI m))] [.ref (ad1 15 (nF τ 3 + 1) 0)]
              have h15 := px15 hP1 (nF τ 3 + 1) (by omega) (by rw [sMd_nc hnc]; exact Nat.le_refl _)
              refine g_astore (lv' := [(5, .ref (ad1 15 (nF τ 3 + 1) 0)), (4, .ref (ad 9 m 0)), (3, .ref (ad 12 n 0)), (0, .ref (ad 0 0 0)), (1, .int (nI n)), (2, .int (nI m))]) (n := 50) hX dX7_make_48 rfl (by rw [hnL]; rfl) rfl ?_
              refine g_aload (n := 52) hX dX7_make_50 rfl rfl ?_
              refine g_ifnonnull (tgt := 59) hX dX7_make_52 (by decide) ?_
              refine g_aload (n := 61) hX dX7_make_59 rfl rfl ?_
              refine g_pget (n := 64) ux_X2 rfl hX hU dX7_make_61 rfl h15.1 h15.2.2 0 rfl uf_X7_73 rfl ?_
              exact g_iret hX hR dX7_make_64 ⟨by rw [hS], by rw [hS]; exact RW_mk hP1 hL1 (made_inv1 hI hu1 hu3 hp1 hp3 hlat hc1 hnc) (hEX 0 0 0 (Or.inl ⟨by decide, by decide⟩))⟩
            · have hS : S_made τ n m = (-1, τ) := made_full2 (by rw [hlat]; exact heq) (by omega)
              have r0_55 : f (ad 0 0 0) = .inr (9, [.ref (ad 1 0 0), .ref (ad 2 0 0), .ref (ad 3 0 0), .ref (ad 8 0 0), .int (nI (nF τ 2))]) := (px0 hP).2.2
              have r1_56 : f (ad 1 0 0) = .inr (8, [.ref (ad 6 0 0), .ref (ad 7 0 0), .int (nI (nF τ 1)), .int (nI (nF τ 3))]) := (px1 hP).2.2
              have r12_57 : f (ad 12 n 0) = .inr (7, [.ref (ad 13 n 0), .ref (ad 14 n 0), .int (τ.1 12 n), .int (τ.1 13 n), .int (gfl g n), .int (geb g n), .int (τ.1 17 n), .int (τ.1 18 n), .int (nI (nA τ 19 n))]) := (px12 hP n hu1 hu3).2.2
              have r9_58 : f (ad 9 m 0) = .inr (5, [.int (nI m), .int (nI (nA τ 0 m)), .int (τ.1 5 m), .ref (ad 10 m 0), .int (nI (nA τ 1 m))]) := (px9 hP m hp1 hp3).2.2
              have r15_59 : f (ad 15 c 0) = .inr (4, [.int (nI c), .ref (ad 12 (nA τ 6 c) 0), .ref (ad 9 (nA τ 7 c) 0), .int (nI (nA τ 8 c)), .ref (ad 16 c 0), va_rf (if gfa g c = true then some (ad 17 c 0) else none), .int (gsd g c), .int (τ.1 11 c), .int (τ.1 9 c)]) := (px15 hP c hc1 hc2).2.2
              refine g_aload_n (n := 1) hX dX7_make_0 rfl rfl rfl ?_
              refine g_iload_n (n := 2) hX dX7_make_1 rfl rfl rfl ?_
              refine g_pcallV (n := 5) (As := [.int (nI n)]) (rest := []) hX hE hU hY dX7_make_2 rfl yv_X7_findUnit um_X7_61 (r_findUnitY _ _ hP hI hu1 hu3) ⟨rfl, rfl⟩ (rm_le hRm rfl rfl) rfl (px0 hP).1 r0_55 rfl rfl rfl (Nat.le_of_ble_eq_true rfl) ⟨Nat.zero_le _, Nat.zero_le _⟩ (fun v0 w0 hq0 => ?_)
              obtain ⟨rfl, rfl⟩ := hq0
              show G Γ (va_pl L f) 0 0 5 [(0, .ref (ad 0 0 0)), (1, .int (nI n)), (2, .int (nI m))] [.ref (ad 12 n 0)]
              refine g_astore_n (lv' := [(3, .ref (ad 12 n 0)), (0, .ref (ad 0 0 0)), (1, .int (nI n)), (2, .int (nI m))]) (n := 6) hX dX7_make_5 rfl rfl (by rw [hnL]; rfl) rfl ?_
              refine g_aload_n (n := 7) hX dX7_make_6 rfl rfl rfl ?_
              refine g_pget (n := 10) ux_X7 rfl hX hU dX7_make_7 rfl (px0 hP).1 r0_55 0 rfl uf_X7_10 rfl ?_
              refine g_iload_n (n := 11) hX dX7_make_10 rfl rfl rfl ?_
              refine g_pcallV (n := 14) (As := [.int (nI m)]) (rest := []) hX hE hU hY dX7_make_11 rfl yv_X6_findProgram um_X7_42 (r_findProgramY _ _ hP hI hp1 hp3) ⟨rfl, rfl⟩ (rm_le hRm rfl rfl) rfl (px1 hP).1 r1_56 rfl rfl rfl (Nat.le_of_ble_eq_true rfl) ⟨Nat.zero_le _, Nat.zero_le _⟩ (fun v0 w0 hq0 => ?_)
              obtain ⟨rfl, rfl⟩ := hq0
              show G Γ (va_pl L f) 0 0 14 [(3, .ref (ad 12 n 0)), (0, .ref (ad 0 0 0)), (1, .int (nI n)), (2, .int (nI m))] [.ref (ad 9 m 0)]
              refine g_astore (lv' := [(4, .ref (ad 9 m 0)), (3, .ref (ad 12 n 0)), (0, .ref (ad 0 0 0)), (1, .int (nI n)), (2, .int (nI m))]) (n := 16) hX dX7_make_14 rfl (by rw [hnL]; rfl) rfl ?_
              refine g_aload_n (n := 17) hX dX7_make_16 rfl rfl rfl ?_
              refine g_ifnull (n := 20) hX dX7_make_17 rfl ?_
              refine g_aload (n := 22) hX dX7_make_20 rfl rfl ?_
              refine g_ifnonnull (tgt := 28) hX dX7_make_22 (by decide) ?_
              refine g_aload_n (n := 29) hX dX7_make_28 rfl rfl rfl ?_
              refine g_pget (n := 32) ux_X5 rfl hX hU dX7_make_29 rfl (px12 hP n hu1 hu3).1 r12_57 2 rfl uf_X7_65 rfl ?_
              refine g_if_eq (n := 35) (tgt := 38) hX dX7_make_32 rfl (by decide) (fun c32 => ?_) (fun c32 => absurd h13 c32)
              refine g_aload_n (n := 39) hX dX7_make_38 rfl rfl rfl ?_
              refine g_pget (n := 42) ux_X7 rfl hX hU dX7_make_39 rfl (px0 hP).1 r0_55 0 rfl uf_X7_10 rfl ?_
              refine g_aload_n (n := 43) hX dX7_make_42 rfl rfl rfl ?_
              refine g_aload (n := 45) hX dX7_make_43 rfl rfl ?_
              refine g_pcallV (n := 48) (As := [.ref (ad 12 n 0), .ref (ad 9 m 0)]) (rest := []) hX hE hU hY dX7_make_45 rfl yv_X6_classFor um_X7_69 (r_classForS _ _ hP hI hu1 hu3 hp1 hp3 hL hlat hc1 hc2) ⟨rfl, rfl⟩ (rm_le hRm rfl rfl) rfl (px1 hP).1 r1_56 rfl rfl rfl (Nat.le_of_ble_eq_true rfl) (by rw [hRm]; decide) (fun v0 w0 hq0 => ?_)
              obtain ⟨rfl, rfl⟩ : v0 = some .null ∧ w0 = va_pl L f := by rcases hq0 with h9 | h9 | h9; exact absurd h9.1 heq; exact h9.2.2; exact absurd h9.2.1 (by omega)
              show G Γ (va_pl L f) 2 109 48 [(4, .ref (ad 9 m 0)), (3, .ref (ad 12 n 0)), (0, .ref (ad 0 0 0)), (1, .int (nI n)), (2, .int (nI m))] [.null]
              refine g_astoreN (lv' := [(5, .null), (4, .ref (ad 9 m 0)), (3, .ref (ad 12 n 0)), (0, .ref (ad 0 0 0)), (1, .int (nI n)), (2, .int (nI m))]) (n := 50) hX dX7_make_48 rfl (by rw [hnL]; rfl) rfl ?_
              refine g_aloadN (n := 52) hX dX7_make_50 rfl rfl ?_
              refine g_ifnonnullN (n := 55) hX dX7_make_52 rfl ?_
              refine g_iconst (n := 56) (v := (-1)) hX dX7_make_55 rfl rfl ?_
              refine g_goto (n := 64) hX dX7_make_56 (by decide) ?_
              exact g_iret hX hR dX7_make_64 ⟨by rw [hS], by rw [hS]; exact RW_rd hQ1 rfl⟩
      · have hS : S_make σ (nI n) (nI m) = (-5, sF σ 0 0) := by simp only [S_make, if_pos hu, if_pos hp, ehu, ehp, if_neg h12]
        have r0_60 : f (ad 0 0 0) = .inr (9, [.ref (ad 1 0 0), .ref (ad 2 0 0), .ref (ad 3 0 0), .ref (ad 8 0 0), .int (nI (nF σ 2))]) := (px0 hP).2.2
        have r1_61 : f (ad 1 0 0) = .inr (8, [.ref (ad 6 0 0), .ref (ad 7 0 0), .int (nI (nF σ 1)), .int (nI (nF σ 3))]) := (px1 hP).2.2
        have r12_62 : f (ad 12 n 0) = .inr (7, [.ref (ad 13 n 0), .ref (ad 14 n 0), .int (σ.1 12 n), .int (σ.1 13 n), .int (gfl g n), .int (geb g n), .int (σ.1 17 n), .int (σ.1 18 n), .int (nI (nA σ 19 n))]) := (px12 hP n hu1 hu2).2.2
        have r9_63 : f (ad 9 m 0) = .inr (5, [.int (nI m), .int (nI (nA σ 0 m)), .int (σ.1 5 m), .ref (ad 10 m 0), .int (nI (nA σ 1 m))]) := (px9 hP m hp1 hp2).2.2
        refine g_aload_n (n := 1) hX dX7_make_0 rfl rfl rfl ?_
        refine g_iload_n (n := 2) hX dX7_make_1 rfl rfl rfl ?_
        refine g_pcallV (n := 5) (As := [.int (nI n)]) (rest := []) hX hE hU hY dX7_make_2 rfl yv_X7_findUnit um_X7_61 (r_findUnitY _ _ hP hI hu1 hu2) ⟨rfl, rfl⟩ (rm_le hRm rfl rfl) rfl (px0 hP).1 r0_60 rfl rfl rfl (Nat.le_of_ble_eq_true rfl) ⟨Nat.zero_le _, Nat.zero_le _⟩ (fun v0 w0 hq0 => ?_)
        obtain ⟨rfl, rfl⟩ := hq0
        show G Γ (va_pl L f) 0 0 5 [(0, .ref (ad 0 0 0)), (1, .int (nI n)), (2, .int (nI m))] [.ref (ad 12 n 0)]
        refine g_astore_n (lv' := [(3, .ref (ad 12 n 0)), (0, .ref (ad 0 0 0)), (1, .int (nI n)), (2, .int (nI m))]) (n := 6) hX dX7_make_5 rfl rfl (by rw [hnL]; rfl) rfl ?_
        refine g_aload_n (n := 7) hX dX7_make_6 rfl rfl rfl ?_
        refine g_pget (n := 10) ux_X7 rfl hX hU dX7_make_7 rfl (px0 hP).1 r0_60 0 rfl uf_X7_10 rfl ?_
        refine g_iload_n (n := 11) hX dX7_make_10 rfl rfl rfl ?_
        refine g_pcallV (n := 14) (As := [.int (nI m)]) (rest := []) hX hE hU hY dX7_make_11 rfl yv_X6_findProgram um_X7_42 (r_findProgramY _ _ hP hI hp1 hp2) ⟨rfl, rfl⟩ (rm_le hRm rfl rfl) rfl (px1 hP).1 r1_61 rfl rfl rfl (Nat.le_of_ble_eq_true rfl) ⟨Nat.zero_le _, Nat.zero_le _⟩ (fun v0 w0 hq0 => ?_)
        obtain ⟨rfl, rfl⟩ := hq0
        show G Γ (va_pl L f) 0 0 14 [(3, .ref (ad 12 n 0)), (0, .ref (ad 0 0 0)), (1, .int (nI n)), (2, .int (nI m))] [.ref (ad 9 m 0)]
        refine g_astore (lv' := [(4, .ref (ad 9 m 0)), (3, .ref (ad 12 n 0)), (0, .ref (ad 0 0 0)), (1, .int (nI n)), (2, .int (nI m))]) (n := 16) hX dX7_make_14 rfl (by rw [hnL]; rfl) rfl ?_
        refine g_aload_n (n := 17) hX dX7_make_16 rfl rfl rfl ?_
        refine g_ifnull (n := 20) hX dX7_make_17 rfl ?_
        refine g_aload (n := 22) hX dX7_make_20 rfl rfl ?_
        refine g_ifnonnull (tgt := 28) hX dX7_make_22 (by decide) ?_
        refine g_aload_n (n := 29) hX dX7_make_28 rfl rfl rfl ?_
        refine g_pget (n := 32) ux_X5 rfl hX hU dX7_make_29 rfl (px12 hP n hu1 hu2).1 r12_62 2 rfl uf_X7_65 rfl ?_
        refine g_if_eq (n := 35) (tgt := 38) hX dX7_make_32 rfl (by decide) (fun c32 => absurd c32 h12) (fun c32 => ?_)
        refine g_bipush (n := 37) (v := (-5)) hX dX7_make_35 rfl rfl ?_
        refine g_widen (kc' := 2) (ks' := 109) (Nat.le_of_ble_eq_true rfl) (Nat.le_of_ble_eq_true rfl) ?_
        exact g_iret hX hR dX7_make_37 ⟨by rw [hS], by rw [hS]; exact RW_rd hQ (cor_F0 σ 0)⟩
    · have hS : S_make σ (nI n) p = (-2, sF σ 0 0) := by simp only [S_make, if_pos hu, if_neg hp]
      have r0_64 : f (ad 0 0 0) = .inr (9, [.ref (ad 1 0 0), .ref (ad 2 0 0), .ref (ad 3 0 0), .ref (ad 8 0 0), .int (nI (nF σ 2))]) := (px0 hP).2.2
      have r1_65 : f (ad 1 0 0) = .inr (8, [.ref (ad 6 0 0), .ref (ad 7 0 0), .int (nI (nF σ 1)), .int (nI (nF σ 3))]) := (px1 hP).2.2
      have r12_66 : f (ad 12 n 0) = .inr (7, [.ref (ad 13 n 0), .ref (ad 14 n 0), .int (σ.1 12 n), .int (σ.1 13 n), .int (gfl g n), .int (geb g n), .int (σ.1 17 n), .int (σ.1 18 n), .int (nI (nA σ 19 n))]) := (px12 hP n hu1 hu2).2.2
      refine g_aload_n (n := 1) hX dX7_make_0 rfl rfl rfl ?_
      refine g_iload_n (n := 2) hX dX7_make_1 rfl rfl rfl ?_
      refine g_pcallV (n := 5) (As := [.int (nI n)]) (rest := []) hX hE hU hY dX7_make_2 rfl yv_X7_findUnit um_X7_61 (r_findUnitY _ _ hP hI hu1 hu2) ⟨rfl, rfl⟩ (rm_le hRm rfl rfl) rfl (px0 hP).1 r0_64 rfl rfl rfl (Nat.le_of_ble_eq_true rfl) ⟨Nat.zero_le _, Nat.zero_le _⟩ (fun v0 w0 hq0 => ?_)
      obtain ⟨rfl, rfl⟩ := hq0
      show G Γ (va_pl L f) 0 0 5 [(0, .ref (ad 0 0 0)), (1, .int (nI n)), (2, .int p)] [.ref (ad 12 n 0)]
      refine g_astore_n (lv' := [(3, .ref (ad 12 n 0)), (0, .ref (ad 0 0 0)), (1, .int (nI n)), (2, .int p)]) (n := 6) hX dX7_make_5 rfl rfl (by rw [hnL]; rfl) rfl ?_
      refine g_aload_n (n := 7) hX dX7_make_6 rfl rfl rfl ?_
      refine g_pget (n := 10) ux_X7 rfl hX hU dX7_make_7 rfl (px0 hP).1 r0_64 0 rfl uf_X7_10 rfl ?_
      refine g_iload_n (n := 11) hX dX7_make_10 rfl rfl rfl ?_
      refine g_pcallV (n := 14) (As := [.int p]) (rest := []) hX hE hU hY dX7_make_11 rfl yv_X6_findProgram um_X7_42 (r_findProgramN _ _ hP hI hp) ⟨rfl, rfl⟩ (rm_le hRm rfl rfl) rfl (px1 hP).1 r1_65 rfl rfl rfl (Nat.le_of_ble_eq_true rfl) ⟨Nat.zero_le _, Nat.zero_le _⟩ (fun v0 w0 hq0 => ?_)
      obtain ⟨rfl, rfl⟩ := hq0
      show G Γ (va_pl L f) 0 0 14 [(3, .ref (ad 12 n 0)), (0, .ref (ad 0 0 0)), (1, .int (nI n)), (2, .int p)] [.null]
      refine g_astoreN (lv' := [(4, .null), (3, .ref (ad 12 n 0)), (0, .ref (ad 0 0 0)), (1, .int (nI n)), (2, .int p)]) (n := 16) hX dX7_make_14 rfl (by rw [hnL]; rfl) rfl ?_
      refine g_aload_n (n := 17) hX dX7_make_16 rfl rfl rfl ?_
      refine g_ifnull (n := 20) hX dX7_make_17 rfl ?_
      refine g_aloadN (n := 22) hX dX7_make_20 rfl rfl ?_
      refine g_ifnonnullN (n := 25) hX dX7_make_22 rfl ?_
      refine g_bipush (n := 27) (v := (-2)) hX dX7_make_25 rfl rfl ?_
      refine g_widen (kc' := 2) (ks' := 109) (Nat.le_of_ble_eq_true rfl) (Nat.le_of_ble_eq_true rfl) ?_
      exact g_iret hX hR dX7_make_27 ⟨by rw [hS], by rw [hS]; exact RW_rd hQ (cor_F0 σ 0)⟩
  · have hS : S_make σ u p = (-2, sF σ 0 0) := by simp only [S_make, if_neg hu]
    by_cases hp : 1 ≤ p ∧ p ≤ σ.2 1
    · obtain ⟨m, rfl, hp1, hp8, -, hp2⟩ := in1 hI.1.1 (by decide) hp
      have r0_67 : f (ad 0 0 0) = .inr (9, [.ref (ad 1 0 0), .ref (ad 2 0 0), .ref (ad 3 0 0), .ref (ad 8 0 0), .int (nI (nF σ 2))]) := (px0 hP).2.2
      have r1_68 : f (ad 1 0 0) = .inr (8, [.ref (ad 6 0 0), .ref (ad 7 0 0), .int (nI (nF σ 1)), .int (nI (nF σ 3))]) := (px1 hP).2.2
      refine g_aload_n (n := 1) hX dX7_make_0 rfl rfl rfl ?_
      refine g_iload_n (n := 2) hX dX7_make_1 rfl rfl rfl ?_
      refine g_pcallV (n := 5) (As := [.int u]) (rest := []) hX hE hU hY dX7_make_2 rfl yv_X7_findUnit um_X7_61 (r_findUnitN _ _ hP hI hu) ⟨rfl, rfl⟩ (rm_le hRm rfl rfl) rfl (px0 hP).1 r0_67 rfl rfl rfl (Nat.le_of_ble_eq_true rfl) ⟨Nat.zero_le _, Nat.zero_le _⟩ (fun v0 w0 hq0 => ?_)
      obtain ⟨rfl, rfl⟩ := hq0
      show G Γ (va_pl L f) 0 0 5 [(0, .ref (ad 0 0 0)), (1, .int u), (2, .int (nI m))] [.null]
      refine g_astore_nN (lv' := [(3, .null), (0, .ref (ad 0 0 0)), (1, .int u), (2, .int (nI m))]) (n := 6) hX dX7_make_5 rfl rfl (by rw [hnL]; rfl) rfl ?_
      refine g_aload_n (n := 7) hX dX7_make_6 rfl rfl rfl ?_
      refine g_pget (n := 10) ux_X7 rfl hX hU dX7_make_7 rfl (px0 hP).1 r0_67 0 rfl uf_X7_10 rfl ?_
      refine g_iload_n (n := 11) hX dX7_make_10 rfl rfl rfl ?_
      refine g_pcallV (n := 14) (As := [.int (nI m)]) (rest := []) hX hE hU hY dX7_make_11 rfl yv_X6_findProgram um_X7_42 (r_findProgramY _ _ hP hI hp1 hp2) ⟨rfl, rfl⟩ (rm_le hRm rfl rfl) rfl (px1 hP).1 r1_68 rfl rfl rfl (Nat.le_of_ble_eq_true rfl) ⟨Nat.zero_le _, Nat.zero_le _⟩ (fun v0 w0 hq0 => ?_)
      obtain ⟨rfl, rfl⟩ := hq0
      show G Γ (va_pl L f) 0 0 14 [(3, .null), (0, .ref (ad 0 0 0)), (1, .int u), (2, .int (nI m))] [.ref (ad 9 m 0)]
      refine g_astore (lv' := [(4, .ref (ad 9 m 0)), (3, .null), (0, .ref (ad 0 0 0)), (1, .int u), (2, .int (nI m))]) (n := 16) hX dX7_make_14 rfl (by rw [hnL]; rfl) rfl ?_
      refine g_aload_nN (n := 17) hX dX7_make_16 rfl rfl rfl ?_
      refine g_ifnullN (tgt := 25) hX dX7_make_17 (by decide) ?_
      refine g_bipush (n := 27) (v := (-2)) hX dX7_make_25 rfl rfl ?_
      refine g_widen (kc' := 2) (ks' := 109) (Nat.le_of_ble_eq_true rfl) (Nat.le_of_ble_eq_true rfl) ?_
      exact g_iret hX hR dX7_make_27 ⟨by rw [hS], by rw [hS]; exact RW_rd hQ (cor_F0 σ 0)⟩
    · have r0_69 : f (ad 0 0 0) = .inr (9, [.ref (ad 1 0 0), .ref (ad 2 0 0), .ref (ad 3 0 0), .ref (ad 8 0 0), .int (nI (nF σ 2))]) := (px0 hP).2.2
      have r1_70 : f (ad 1 0 0) = .inr (8, [.ref (ad 6 0 0), .ref (ad 7 0 0), .int (nI (nF σ 1)), .int (nI (nF σ 3))]) := (px1 hP).2.2
      refine g_aload_n (n := 1) hX dX7_make_0 rfl rfl rfl ?_
      refine g_iload_n (n := 2) hX dX7_make_1 rfl rfl rfl ?_
      refine g_pcallV (n := 5) (As := [.int u]) (rest := []) hX hE hU hY dX7_make_2 rfl yv_X7_findUnit um_X7_61 (r_findUnitN _ _ hP hI hu) ⟨rfl, rfl⟩ (rm_le hRm rfl rfl) rfl (px0 hP).1 r0_69 rfl rfl rfl (Nat.le_of_ble_eq_true rfl) ⟨Nat.zero_le _, Nat.zero_le _⟩ (fun v0 w0 hq0 => ?_)
      obtain ⟨rfl, rfl⟩ := hq0
      show G Γ (va_pl L f) 0 0 5 [(0, .ref (ad 0 0 0)), (1, .int u), (2, .int p)] [.null]
      refine g_astore_nN (lv' := [(3, .null), (0, .ref (ad 0 0 0)), (1, .int u), (2, .int p)]) (n := 6) hX dX7_make_5 rfl rfl (by rw [hnL]; rfl) rfl ?_
      refine g_aload_n (n := 7) hX dX7_make_6 rfl rfl rfl ?_
      refine g_pget (n := 10) ux_X7 rfl hX hU dX7_make_7 rfl (px0 hP).1 r0_69 0 rfl uf_X7_10 rfl ?_
      refine g_iload_n (n := 11) hX dX7_make_10 rfl rfl rfl ?_
      refine g_pcallV (n := 14) (As := [.int p]) (rest := []) hX hE hU hY dX7_make_11 rfl yv_X6_findProgram um_X7_42 (r_findProgramN _ _ hP hI hp) ⟨rfl, rfl⟩ (rm_le hRm rfl rfl) rfl (px1 hP).1 r1_70 rfl rfl rfl (Nat.le_of_ble_eq_true rfl) ⟨Nat.zero_le _, Nat.zero_le _⟩ (fun v0 w0 hq0 => ?_)
      obtain ⟨rfl, rfl⟩ := hq0
      show G Γ (va_pl L f) 0 0 14 [(3, .null), (0, .ref (ad 0 0 0)), (1, .int u), (2, .int p)] [.null]
      refine g_astoreN (lv' := [(4, .null), (3, .null), (0, .ref (ad 0 0 0)), (1, .int u), (2, .int p)]) (n := 16) hX dX7_make_14 rfl (by rw [hnL]; rfl) rfl ?_
      refine g_aload_nN (n := 17) hX dX7_make_16 rfl rfl rfl ?_
      refine g_ifnullN (tgt := 25) hX dX7_make_17 (by decide) ?_
      refine g_bipush (n := 27) (v := (-2)) hX dX7_make_25 rfl rfl ?_
      refine g_widen (kc' := 2) (ks' := 109) (Nat.le_of_ble_eq_true rfl) (Nat.le_of_ble_eq_true rfl) ?_
      exact g_iret hX hR dX7_make_27 ⟨by rw [hS], by rw [hS]; exact RW_rd hQ (cor_F0 σ 0)⟩

theorem cor_fB (σ : MS) (bs : List Int32) (x : Int32) : cor (ap (sF (sF σ 0 x) 29 0) bs) = cor σ := (cor_ap (sF (sF σ 0 x) 29 0) bs).trans ((cor_F (σ := sF σ 0 x) (k := 29) (x := 0) (Or.inr (by decide))).trans (cor_F0 σ x))
theorem RW_fB {K : Nat → ClassId} {L : List Nat} {f : Nat → va_E} {ad : AD} {κ : TG} {g : GX} {σ : MS} {ax : Nat} (h : RX K L f ad κ g σ 0) (e : ad 0 0 0 = ax) (bs : List Int32) (x : Int32) : RW K ax (ap (sF (sF σ 0 x) 29 0) bs) (va_pl L f) := ⟨L, f, ad, κ, g, rfl, e, RX_cor h (cor_fB σ bs x)⟩
set_option maxHeartbeats 4000000 in
set_option maxRecDepth 100000 in
theorem F_count (l : Launch) (D : va_G) (K : Nat → ClassId) (L : List Nat) (f : Nat → va_E) (ad : AD) (κ : TG) (g : GX) (σ : MS) (x : Int32) (hQ : RX K L f ad κ g σ 0) : Mc l yX7_count (wM yX7_count cX7_count 3 (some .int)) (rmL 7 1 2048) D (yY K) [.ref (ad 0 0 0), .int x] (va_pl L f) (fun v w => v = some (.int (S_count σ x).1) ∧ RW K (ad 0 0 0) (S_count σ x).2 w) 1 2048 := by
  refine m_start (lv := [(0, .ref (ad 0 0 0)), (1, .int x)]) rfl (Nat.le_of_ble_eq_true rfl) rfl (fun Γ hX hRm hnL hY hDD hLa hR hI hE => ?_)
  have hU : ∀ w ∈ wU, w ∈ wM yX7_count cX7_count 3 (some .int) := fun w h => wM_in h
  subst hLa
  subst hDD
  have hP := hQ.1
  have hL := hQ.2.1
  have hI := hQ.2.2
  rcases sw_split x 0 3 with hsw | hsw
  · have hS : S_count σ x = (-1, sF σ 0 0) := by simp only [S_count, if_neg (fun h9 : x = 0 => by rw [h9] at hsw; revert hsw; decide), if_neg (fun h9 : x = 1 => by rw [h9] at hsw; revert hsw; decide), if_neg (fun h9 : x = 2 => by rw [h9] at hsw; revert hsw; decide), if_neg (fun h9 : x = 3 => by rw [h9] at hsw; revert hsw; decide)]
    have r0_71 : f (ad 0 0 0) = .inr (9, [.ref (ad 1 0 0), .ref (ad 2 0 0), .ref (ad 3 0 0), .ref (ad 8 0 0), .int (nI (nF σ 2))]) := (px0 hP).2.2
    have r1_72 : f (ad 1 0 0) = .inr (8, [.ref (ad 6 0 0), .ref (ad 7 0 0), .int (nI (nF σ 1)), .int (nI (nF σ 3))]) := (px1 hP).2.2
    refine g_iload_n (n := 1) hX dX7_count_0 rfl rfl rfl ?_
    refine g_tableOut (n := 86) hX dX7_count_1 hsw (by decide) ?_
    refine g_iconst (n := 87) (v := (-1)) hX dX7_count_86 rfl rfl ?_
    refine g_widen (kc' := 1) (ks' := 2048) (Nat.le_of_ble_eq_true rfl) (Nat.le_of_ble_eq_true rfl) ?_
    exact g_iret hX hR dX7_count_87 ⟨by rw [hS], by rw [hS]; exact RW_rd hQ (cor_F0 σ 0)⟩
  · obtain ⟨kz, hk1, hk2⟩ := hsw
    rcases (show kz = 0 ∨ kz = 1 ∨ kz = 2 ∨ kz = 3 by omega) with hkz | hkz | hkz | hkz
    · have hxe : x = (0 : Int32) := sw_val (hkz ▸ hk1) (by decide)
      have hS : S_count σ x = (σ.2 1, sF σ 0 0) := by subst hxe; rfl
      have r0_73 : f (ad 0 0 0) = .inr (9, [.ref (ad 1 0 0), .ref (ad 2 0 0), .ref (ad 3 0 0), .ref (ad 8 0 0), .int (nI (nF σ 2))]) := (px0 hP).2.2
      have r1_74 : f (ad 1 0 0) = .inr (8, [.ref (ad 6 0 0), .ref (ad 7 0 0), .int (nI (nF σ 1)), .int (nI (nF σ 3))]) := (px1 hP).2.2
      refine g_iload_n (n := 1) hX dX7_count_0 rfl rfl rfl ?_
      refine g_tableIn (n := 32) (off := 31) hX dX7_count_1 (by rw [hxe]; decide) (by rw [hxe]; decide) (by rw [hxe]; rfl) (by decide) ?_
      refine g_aload_n (n := 33) hX dX7_count_32 rfl rfl rfl ?_
      refine g_pget (n := 36) ux_X7 rfl hX hU dX7_count_33 rfl (px0 hP).1 r0_73 0 rfl uf_X7_10 rfl ?_
      refine g_pget (n := 39) ux_X6 rfl hX hU dX7_count_36 rfl (px1 hP).1 r1_74 2 rfl uf_X7_173 rfl ?_
      refine g_widen (kc' := 1) (ks' := 2048) (Nat.le_of_ble_eq_true rfl) (Nat.le_of_ble_eq_true rfl) ?_
      exact g_iret hX hR dX7_count_39 ⟨by rw [hS]; exact congrArg (fun z => some (Value.int z)) hI.np.1.symm, by rw [hS]; exact RW_rd hQ (cor_F0 σ 0)⟩
    · have hxe : x = (1 : Int32) := sw_val (hkz ▸ hk1) (by decide)
      have hS : S_count σ x = (σ.2 2, sF σ 0 0) := by subst hxe; rfl
      have r0_75 : f (ad 0 0 0) = .inr (9, [.ref (ad 1 0 0), .ref (ad 2 0 0), .ref (ad 3 0 0), .ref (ad 8 0 0), .int (nI (nF σ 2))]) := (px0 hP).2.2
      have r1_76 : f (ad 1 0 0) = .inr (8, [.ref (ad 6 0 0), .ref (ad 7 0 0), .int (nI (nF σ 1)), .int (nI (nF σ 3))]) := (px1 hP).2.2
      refine g_iload_n (n := 1) hX dX7_count_0 rfl rfl rfl ?_
      refine g_tableIn (n := 40) (off := 39) hX dX7_count_1 (by rw [hxe]; decide) (by rw [hxe]; decide) (by rw [hxe]; rfl) (by decide) ?_
      refine g_aload_n (n := 41) hX dX7_count_40 rfl rfl rfl ?_
      refine g_pget (n := 44) ux_X7 rfl hX hU dX7_count_41 rfl (px0 hP).1 r0_75 4 rfl uf_X7_56 rfl ?_
      refine g_widen (kc' := 1) (ks' := 2048) (Nat.le_of_ble_eq_true rfl) (Nat.le_of_ble_eq_true rfl) ?_
      exact g_iret hX hR dX7_count_44 ⟨by rw [hS]; exact congrArg (fun z => some (Value.int z)) hI.nu.1.symm, by rw [hS]; exact RW_rd hQ (cor_F0 σ 0)⟩
    · have hxe : x = (2 : Int32) := sw_val (hkz ▸ hk1) (by decide)
      have hS : S_count σ x = (σ.2 3, sF σ 0 0) := by subst hxe; rfl
      have r0_77 : f (ad 0 0 0) = .inr (9, [.ref (ad 1 0 0), .ref (ad 2 0 0), .ref (ad 3 0 0), .ref (ad 8 0 0), .int (nI (nF σ 2))]) := (px0 hP).2.2
      have r1_78 : f (ad 1 0 0) = .inr (8, [.ref (ad 6 0 0), .ref (ad 7 0 0), .int (nI (nF σ 1)), .int (nI (nF σ 3))]) := (px1 hP).2.2
      refine g_iload_n (n := 1) hX dX7_count_0 rfl rfl rfl ?_
      refine g_tableIn (n := 45) (off := 44) hX dX7_count_1 (by rw [hxe]; decide) (by rw [hxe]; decide) (by rw [hxe]; rfl) (by decide) ?_
      refine g_aload_n (n := 46) hX dX7_count_45 rfl rfl rfl ?_
      refine g_pget (n := 49) ux_X7 rfl hX hU dX7_count_46 rfl (px0 hP).1 r0_77 0 rfl uf_X7_10 rfl ?_
      refine g_pget (n := 52) ux_X6 rfl hX hU dX7_count_49 rfl (px1 hP).1 r1_78 3 rfl uf_X7_176 rfl ?_
      refine g_widen (kc' := 1) (ks' := 2048) (Nat.le_of_ble_eq_true rfl) (Nat.le_of_ble_eq_true rfl) ?_
      exact g_iret hX hR dX7_count_52 ⟨by rw [hS]; exact congrArg (fun z => some (Value.int z)) hI.nc.1.symm, by rw [hS]; exact RW_rd hQ (cor_F0 σ 0)⟩
    · have hxe : x = (3 : Int32) := sw_val (hkz ▸ hk1) (by decide)
      have h40 := hI.nc.2
      by_cases hc0 : nF σ 3 = 0
      · have hS : S_count σ x = (0, sF σ 0 0) := by subst hxe; show (if nF σ 3 = 0 then _ else _) = _; rw [if_pos hc0]
        have r0_79 : f (ad 0 0 0) = .inr (9, [.ref (ad 1 0 0), .ref (ad 2 0 0), .ref (ad 3 0 0), .ref (ad 8 0 0), .int (nI (nF σ 2))]) := (px0 hP).2.2
        have r1_80 : f (ad 1 0 0) = .inr (8, [.ref (ad 6 0 0), .ref (ad 7 0 0), .int (nI (nF σ 1)), .int (nI (nF σ 3))]) := (px1 hP).2.2
        refine g_iload_n (n := 1) hX dX7_count_0 rfl rfl rfl ?_
        refine g_tableIn (n := 53) (off := 52) hX dX7_count_1 (by rw [hxe]; decide) (by rw [hxe]; decide) (by rw [hxe]; rfl) (by decide) ?_
        refine g_aload_n (n := 54) hX dX7_count_53 rfl rfl rfl ?_
        refine g_pget (n := 57) ux_X7 rfl hX hU dX7_count_54 rfl (px0 hP).1 r0_79 0 rfl uf_X7_10 rfl ?_
        refine g_aload_n (n := 58) hX dX7_count_57 rfl rfl rfl ?_
        refine g_pget (n := 61) ux_X7 rfl hX hU dX7_count_58 rfl (px0 hP).1 r0_79 0 rfl uf_X7_10 rfl ?_
        refine g_pget (n := 64) ux_X6 rfl hX hU dX7_count_61 rfl (px1 hP).1 r1_80 3 rfl uf_X7_176 rfl ?_
        refine g_pcallV (n := 67) (As := [.int (nI (nF σ 3))]) (rest := []) hX hE hU hY dX7_count_64 rfl yv_X6_findClass um_X7_129 (r_findClassN _ _ hP hI (fun h9 => by rw [hc0] at h9; exact absurd h9.1 (by decide))) ⟨rfl, rfl⟩ (rm_le hRm rfl rfl) rfl (px1 hP).1 r1_80 rfl rfl rfl (Nat.le_of_ble_eq_true rfl) ⟨Nat.zero_le _, Nat.zero_le _⟩ (fun v0 w0 hq0 => ?_)
        obtain ⟨rfl, rfl⟩ := hq0
        show G Γ (va_pl L f) 0 0 67 [(0, .ref (ad 0 0 0)), (1, .int x)] [.null]
        refine g_astore_nN (lv' := [(2, .null), (0, .ref (ad 0 0 0)), (1, .int x)]) (n := 68) hX dX7_count_67 rfl rfl (by rw [hnL]; rfl) rfl ?_
        refine g_aload_nN (n := 69) hX dX7_count_68 rfl rfl rfl ?_
        refine g_ifnonnullN (n := 72) hX dX7_count_69 rfl ?_
        refine g_iconst (n := 73) (v := 0) hX dX7_count_72 rfl rfl ?_
        refine g_goto (n := 85) hX dX7_count_73 (by decide) ?_
        refine g_widen (kc' := 1) (ks' := 2048) (Nat.le_of_ble_eq_true rfl) (Nat.le_of_ble_eq_true rfl) ?_
        exact g_iret hX hR dX7_count_85 ⟨by rw [hS], by rw [hS]; exact RW_rd hQ (cor_F0 σ 0)⟩
      · have hc1 : 1 ≤ nF σ 3 := by omega
        have hS : S_count σ x = (nI (fB σ (nF σ 3)).length, ap (sF (sF σ 0 0) 29 0) (fB σ (nF σ 3))) := by subst hxe; show (if nF σ 3 = 0 then _ else _) = _; rw [if_neg hc0]
        obtain ⟨bs, hbs⟩ : ∃ bs, fB σ (nF σ 3) = bs := ⟨_, rfl⟩
        rw [hbs] at hS
        have r0_81 : f (ad 0 0 0) = .inr (9, [.ref (ad 1 0 0), .ref (ad 2 0 0), .ref (ad 3 0 0), .ref (ad 8 0 0), .int (nI (nF σ 2))]) := (px0 hP).2.2
        have r1_82 : f (ad 1 0 0) = .inr (8, [.ref (ad 6 0 0), .ref (ad 7 0 0), .int (nI (nF σ 1)), .int (nI (nF σ 3))]) := (px1 hP).2.2
        refine g_iload_n (n := 1) hX dX7_count_0 rfl rfl rfl ?_
        refine g_tableIn (n := 53) (off := 52) hX dX7_count_1 (by rw [hxe]; decide) (by rw [hxe]; decide) (by rw [hxe]; rfl) (by decide) ?_
        refine g_aload_n (n := 54) hX dX7_count_53 rfl rfl rfl ?_
        refine g_pget (n := 57) ux_X7 rfl hX hU dX7_count_54 rfl (px0 hP).1 r0_81 0 rfl uf_X7_10 rfl ?_
        refine g_aload_n (n := 58) hX dX7_count_57 rfl rfl rfl ?_
        refine g_pget (n := 61) ux_X7 rfl hX hU dX7_count_58 rfl (px0 hP).1 r0_81 0 rfl uf_X7_10 rfl ?_
        refine g_pget (n := 64) ux_X6 rfl hX hU dX7_count_61 rfl (px1 hP).1 r1_82 3 rfl uf_X7_176 rfl ?_
        refine g_pcallV (n := 67) (As := [.int (nI (nF σ 3))]) (rest := []) hX hE hU hY dX7_count_64 rfl yv_X6_findClass um_X7_129 (r_findClassY _ _ hP hI hc1 (Nat.le_refl _)) ⟨rfl, rfl⟩ (rm_le hRm rfl rfl) rfl (px1 hP).1 r1_82 rfl rfl rfl (Nat.le_of_ble_eq_true rfl) ⟨Nat.zero_le _, Nat.zero_le _⟩ (fun v0 w0 hq0 => ?_)
        obtain ⟨rfl, rfl⟩ := hq0
        show G Γ (va_pl L f) 0 0 67 [(0, .ref (ad 0 0 0)), (1, .int x)] [.ref (ad 15 (nF σ 3) 0)]
        refine g_astore_n (lv' := [(2, .ref (ad 15 (nF σ 3) 0)), (0, .ref (ad 0 0 0)), (1, .int x)]) (n := 68) hX dX7_count_67 rfl rfl (by rw [hnL]; rfl) rfl ?_
        refine g_aload_n (n := 69) hX dX7_count_68 rfl rfl rfl ?_
        refine g_ifnonnull (tgt := 76) hX dX7_count_69 (by decide) ?_
        refine g_aload_n (n := 77) hX dX7_count_76 rfl rfl rfl ?_
        refine g_pget (n := 80) ux_X7 rfl hX hU dX7_count_77 rfl (px0 hP).1 r0_81 2 rfl uf_X7_28 rfl ?_
        refine g_aload_n (n := 81) hX dX7_count_80 rfl rfl rfl ?_
        refine g_pcallV (n := 84) (As := [.ref (ad 15 (nF σ 3) 0)]) (rest := []) hX hE hU hY dX7_count_81 rfl yv_X0_fileOf um_X7_135 (r_fileOf _ _ hQ hc1 (Nat.le_refl _)) ⟨rfl, rfl⟩ (rm_le hRm rfl rfl) rfl (px3 hP).1 (px3 hP).2.2 rfl rfl rfl (Nat.le_of_ble_eq_true rfl) (by rw [hRm]; decide) (fun v0 w0 hq0 => ?_)
        obtain ⟨L1, f1, ad1, κ1, g1, rfl, rfl, hfa, he0, hQ1⟩ := hq0
        show G Γ (va_pl L1 f1) 1 2048 84 [(2, .ref (ad 15 (nF σ 3) 0)), (0, .ref (ad 0 0 0)), (1, .int x)] [.ref (ad1 17 (nF σ 3) 0)]
        have h17 := px17 hQ1.1 (nF σ 3) hc1 (Nat.le_refl _) hfa
        have h18 : f1 (ad1 17 (nF σ 3) 0) = .inl (K 0, bs.length, .inl (gfb g1 (nF σ 3))) := by rw [← hbs]; exact h17.2.2
        refine g_palen (n := 85) (t0 := 0) (v := nI (bs.length)) hX hY dX7_count_84 rfl h17.1 h18 rfl rfl ?_
        exact g_iret hX hR dX7_count_85 ⟨by rw [hS], by rw [hS]; exact RW_fB hQ1 he0 bs 0⟩

