theorem un_aC : Cond.initialized aC ∈ wU := by decide +kernel
theorem ul_aC : Cond.classLink RX7 145 aC ∈ wU := by decide +kernel
theorem fitA : Bundle.fit RJx00060 = true := by decide +kernel
theorem namA : ∀ n ∈ ["java/lang/IndexOutOfBoundsException", "java/lang/RuntimeException", "java/lang/Exception"], Bundle.fit n = true := by decide +kernel
theorem atwA : ∀ w ∈ (vx_atS RX7 103 RJx00060 ["java/lang/IndexOutOfBoundsException", "java/lang/RuntimeException", "java/lang/Exception"]).filter goodWord, w ∈ wU := by decide +kernel
theorem atbA : ∀ w ∈ (vx_atS RX7 103 RJx00060 ["java/lang/IndexOutOfBoundsException", "java/lang/RuntimeException", "java/lang/Exception"]).filter (fun w => !goodWord w), w ∈ tB := by decide +kernel
theorem gooA : ∀ w ∈ Cond.classLink RX7 99 RJx00060 :: Cond.initialized RJx00060 :: vx_atS RX7 103 RJx00060 ["java/lang/IndexOutOfBoundsException", "java/lang/RuntimeException", "java/lang/Exception"], vx_ot w = true := by decide +kernel
theorem fitZ : Bundle.fit aC = true := by decide +kernel
theorem namZ : ∀ n ∈ ["java/lang/RuntimeException", "java/lang/Exception"], Bundle.fit n = true := by decide +kernel
theorem atwZ : ∀ w ∈ (vx_atS RX7 149 aC ["java/lang/RuntimeException", "java/lang/Exception"]).filter goodWord, w ∈ wU := by decide +kernel
theorem atbZ : ∀ w ∈ (vx_atS RX7 149 aC ["java/lang/RuntimeException", "java/lang/Exception"]).filter (fun w => !goodWord w), w ∈ tB := by decide +kernel
theorem gooZ : ∀ w ∈ Cond.classLink RX7 145 aC :: Cond.initialized aC :: vx_atS RX7 149 aC ["java/lang/RuntimeException", "java/lang/Exception"], vx_ot w = true := by decide +kernel
theorem fitN : Bundle.fit RJxde1cd = true := by decide +kernel
theorem namN : ∀ n ∈ ["java/lang/RuntimeException", "java/lang/Exception"], Bundle.fit n = true := by decide +kernel
theorem atwN : ∀ w ∈ (vx_atS RX7 154 RJxde1cd ["java/lang/RuntimeException", "java/lang/Exception"]).filter goodWord, w ∈ wU := by decide +kernel
theorem atbN : ∀ w ∈ (vx_atS RX7 154 RJxde1cd ["java/lang/RuntimeException", "java/lang/Exception"]).filter (fun w => !goodWord w), w ∈ tB := by decide +kernel
theorem gooN : ∀ w ∈ Cond.classLink RX7 150 RJxde1cd :: Cond.initialized RJxde1cd :: vx_atS RX7 154 RJxde1cd ["java/lang/RuntimeException", "java/lang/Exception"], vx_ot w = true := by decide +kernel
set_option maxHeartbeats 4000000 in
set_option maxRecDepth 100000 in
theorem F_at (l : Launch) (D : va_G) (K : Nat → ClassId) (hst : l.stackTraces = false) (L : List Nat) (f : Nat → va_E) (ad : AD) (κ : TG) (g : GX) (σ : MS) (u p i : Int32) (hQ : RX K L f ad κ g σ 0) : McX l yX7_at (wM yX7_at cX7_at 7 (some .byte)) (rmL 7 1 6) D (yY K) [.ref (ad 0 0 0), .int u, .int p, .int i] (va_pl L f) (fun v w => (S_at σ u p i).2.2 0 = 0 ∧ v = some (.int (S_at σ u p i).1) ∧ RW K (ad 0 0 0) (S_at σ u p i).2 w) (fun E w => E = RJx00060 ∧ (S_at σ u p i).2.2 0 = 1 ∧ RW K (ad 0 0 0) (S_at σ u p i).2 w) 1 6 := by
  refine mx_start (lv := [(0, .ref (ad 0 0 0)), (1, .int u), (2, .int p), (3, .int i)]) rfl (Nat.le_of_ble_eq_true rfl) rfl (fun Γ hX hRm hnL hY hDD hLa hR hB hE hT => ?_)
  have hU : ∀ w ∈ wU, w ∈ wM yX7_at cX7_at 7 (some .byte) := fun w h => wM_in h
  subst hLa
  subst hDD
  have hP := hQ.1
  have hL := hQ.2.1
  have hI := hQ.2.2
  by_cases hu : 1 ≤ u ∧ u ≤ σ.2 2
  · obtain ⟨n, rfl, hu1, hu8, -, hu2⟩ := in1 hI.1.2.1 (by decide) hu
    have hu2 : n ≤ nF σ 2 := hu2
    have ehu : (nI n).toNatClampNeg = n := nI_clamp (by omega)
    by_cases hp : 1 ≤ p ∧ p ≤ σ.2 1
    · obtain ⟨m, rfl, hp1, hp8, -, hp2⟩ := in1 hI.1.1 (by decide) hp
      have hp2 : m ≤ nF σ 1 := hp2
      have ehp : (nI m).toNatClampNeg = m := nI_clamp (by omega)
      obtain ⟨c, hlat⟩ : ∃ c, nA σ 14 (13 * n + m) = c := ⟨_, rfl⟩
      by_cases hc0 : c = 0
      · subst hc0
        have hS : S_at σ (nI n) (nI m) i = (0, sF σ 0 1) := by simp only [S_at, if_pos hu, if_pos hp, ehu, ehp, if_pos hlat]
        have r0_1 : f (ad 0 0 0) = .inr (9, [.ref (ad 1 0 0), .ref (ad 2 0 0), .ref (ad 3 0 0), .ref (ad 8 0 0), .int (nI (nF σ 2))]) := (px0 hP).2.2
        have r1_2 : f (ad 1 0 0) = .inr (8, [.ref (ad 6 0 0), .ref (ad 7 0 0), .int (nI (nF σ 1)), .int (nI (nF σ 3))]) := (px1 hP).2.2
        have r12_3 : f (ad 12 n 0) = .inr (7, [.ref (ad 13 n 0), .ref (ad 14 n 0), .int (σ.1 12 n), .int (σ.1 13 n), .int (gfl g n), .int (geb g n), .int (σ.1 17 n), .int (σ.1 18 n), .int (nI (nA σ 19 n))]) := (px12 hP n hu1 hu2).2.2
        have r9_4 : f (ad 9 m 0) = .inr (5, [.int (nI m), .int (nI (nA σ 0 m)), .int (σ.1 5 m), .ref (ad 10 m 0), .int (nI (nA σ 1 m))]) := (px9 hP m hp1 hp2).2.2
        refine g_aload_n (n := 1) hX dX7_at_0 rfl rfl rfl ?_
        refine g_iload_n (n := 2) hX dX7_at_1 rfl rfl rfl ?_
        refine g_pcallV (n := 5) (As := [.int (nI n)]) (rest := []) hX hE hU hY dX7_at_2 rfl yv_X7_findUnit um_X7_61 (r_findUnitY _ _ hP hI hu1 hu2) ⟨rfl, rfl⟩ (rm_le hRm rfl rfl) rfl (px0 hP).1 r0_1 rfl rfl rfl (Nat.le_of_ble_eq_true rfl) ⟨Nat.zero_le _, Nat.zero_le _⟩ (fun v0 w0 hq0 => ?_)
        obtain ⟨rfl, rfl⟩ := hq0
        show G Γ (va_pl L f) 0 0 5 [(0, .ref (ad 0 0 0)), (1, .int (nI n)), (2, .int (nI m)), (3, .int i)] [.ref (ad 12 n 0)]
        refine g_astore (lv' := [(4, .ref (ad 12 n 0)), (0, .ref (ad 0 0 0)), (1, .int (nI n)), (2, .int (nI m)), (3, .int i)]) (n := 7) hX dX7_at_5 rfl (by rw [hnL]; rfl) rfl ?_
        refine g_aload_n (n := 8) hX dX7_at_7 rfl rfl rfl ?_
        refine g_pget (n := 11) ux_X7 rfl hX hU dX7_at_8 rfl (px0 hP).1 r0_1 0 rfl uf_X7_10 rfl ?_
        refine g_iload_n (n := 12) hX dX7_at_11 rfl rfl rfl ?_
        refine g_pcallV (n := 15) (As := [.int (nI m)]) (rest := []) hX hE hU hY dX7_at_12 rfl yv_X6_findProgram um_X7_42 (r_findProgramY _ _ hP hI hp1 hp2) ⟨rfl, rfl⟩ (rm_le hRm rfl rfl) rfl (px1 hP).1 r1_2 rfl rfl rfl (Nat.le_of_ble_eq_true rfl) ⟨Nat.zero_le _, Nat.zero_le _⟩ (fun v0 w0 hq0 => ?_)
        obtain ⟨rfl, rfl⟩ := hq0
        show G Γ (va_pl L f) 0 0 15 [(4, .ref (ad 12 n 0)), (0, .ref (ad 0 0 0)), (1, .int (nI n)), (2, .int (nI m)), (3, .int i)] [.ref (ad 9 m 0)]
        refine g_astore (lv' := [(5, .ref (ad 9 m 0)), (4, .ref (ad 12 n 0)), (0, .ref (ad 0 0 0)), (1, .int (nI n)), (2, .int (nI m)), (3, .int i)]) (n := 17) hX dX7_at_15 rfl (by rw [hnL]; rfl) rfl ?_
        refine g_aload (n := 19) hX dX7_at_17 rfl rfl ?_
        refine g_ifnull (n := 22) hX dX7_at_19 rfl ?_
        refine g_aload (n := 24) hX dX7_at_22 rfl rfl ?_
        refine g_ifnonnull (tgt := 31) hX dX7_at_24 (by decide) ?_
        refine g_aload (n := 33) hX dX7_at_31 rfl rfl ?_
        refine g_aload (n := 35) hX dX7_at_33 rfl rfl ?_
        refine g_pcallV (n := 38) (As := [.ref (ad 9 m 0)]) (rest := []) hX hE hU hY dX7_at_35 rfl yv_X5_latestOf um_X7_78 (r_latestN _ _ hP hI hu1 hu2 hp1 hp2 hlat) ⟨rfl, rfl⟩ (rm_le hRm rfl rfl) rfl (px12 hP n hu1 hu2).1 r12_3 rfl rfl rfl (Nat.le_of_ble_eq_true rfl) ⟨Nat.zero_le _, Nat.zero_le _⟩ (fun v0 w0 hq0 => ?_)
        obtain ⟨rfl, rfl⟩ := hq0
        show G Γ (va_pl L f) 0 0 38 [(5, .ref (ad 9 m 0)), (4, .ref (ad 12 n 0)), (0, .ref (ad 0 0 0)), (1, .int (nI n)), (2, .int (nI m)), (3, .int i)] [.null]
        refine g_astoreN (lv' := [(6, .null), (5, .ref (ad 9 m 0)), (4, .ref (ad 12 n 0)), (0, .ref (ad 0 0 0)), (1, .int (nI n)), (2, .int (nI m)), (3, .int i)]) (n := 40) hX dX7_at_38 rfl (by rw [hnL]; rfl) rfl ?_
        refine g_aloadN (n := 42) hX dX7_at_40 rfl rfl ?_
        refine g_ifnullN (tgt := 62) hX dX7_at_42 (by decide) ?_
        exact gx_throw (cls := RJx00060) (names := ["java/lang/IndexOutOfBoundsException", "java/lang/RuntimeException", "java/lang/Exception"]) 13 hX hU hst hE hT hR hB rfl fitA namA ul_X7_99 un_Jx00060 atwA atbA gooA dX7_at_62 dX7_at_65 dX7_at_66 dX7_at_68 dX7_at_71 (by rw [hRm]; decide) (by rw [hRm]; decide) (by rw [hRm]; decide) (by rw [hRm]; decide) (by decide) (by decide) ⟨rfl, by rw [hS]; rfl, by rw [hS]; exact RW_rd hQ (cor_F0 σ 1)⟩
      · have hcl := (hI.lat n m hu1 hu8 hp1 hp8).resolve_left (by rw [hlat]; exact hc0)
        rw [hlat] at hcl
        have hc1 : 1 ≤ c := by omega
        have hc2 : c ≤ nF σ 3 := hcl.1
        have hlk := hL.2.2.1 c hc1 hc2 (by rw [hcl.2.1, hcl.2.2]; exact hlat)
        have h40 := hI.nc.2
        have hz := hI.sz hp8
        by_cases h10 : σ.1 10 c = 0
        · have hS : S_at σ (nI n) (nI m) i = (0, sF σ 0 1) := by simp only [S_at, if_pos hu, if_pos hp, ehu, ehp, hlat, if_neg hc0, if_pos h10]
          have r0_5 : f (ad 0 0 0) = .inr (9, [.ref (ad 1 0 0), .ref (ad 2 0 0), .ref (ad 3 0 0), .ref (ad 8 0 0), .int (nI (nF σ 2))]) := (px0 hP).2.2
          have r1_6 : f (ad 1 0 0) = .inr (8, [.ref (ad 6 0 0), .ref (ad 7 0 0), .int (nI (nF σ 1)), .int (nI (nF σ 3))]) := (px1 hP).2.2
          have r12_7 : f (ad 12 n 0) = .inr (7, [.ref (ad 13 n 0), .ref (ad 14 n 0), .int (σ.1 12 n), .int (σ.1 13 n), .int (gfl g n), .int (geb g n), .int (σ.1 17 n), .int (σ.1 18 n), .int (nI (nA σ 19 n))]) := (px12 hP n hu1 hu2).2.2
          have r9_8 : f (ad 9 m 0) = .inr (5, [.int (nI m), .int (nI (nA σ 0 m)), .int (σ.1 5 m), .ref (ad 10 m 0), .int (nI (nA σ 1 m))]) := (px9 hP m hp1 hp2).2.2
          have r15_9 : f (ad 15 c 0) = .inr (4, [.int (nI c), .ref (ad 12 (nA σ 6 c) 0), .ref (ad 9 (nA σ 7 c) 0), .int (nI (nA σ 8 c)), .ref (ad 16 c 0), va_rf (if gfa g c = true then some (ad 17 c 0) else none), .int (gsd g c), .int (σ.1 11 c), .int (σ.1 9 c)]) := (px15 hP c hc1 hc2).2.2
          have r16_10 : f (ad 16 c 0) = .inl (K 0, nA σ 0 (nA σ 7 c), .inl (gW g c)) := (px16 hP c hc1 hc2).2.2
          refine g_aload_n (n := 1) hX dX7_at_0 rfl rfl rfl ?_
          refine g_iload_n (n := 2) hX dX7_at_1 rfl rfl rfl ?_
          refine g_pcallV (n := 5) (As := [.int (nI n)]) (rest := []) hX hE hU hY dX7_at_2 rfl yv_X7_findUnit um_X7_61 (r_findUnitY _ _ hP hI hu1 hu2) ⟨rfl, rfl⟩ (rm_le hRm rfl rfl) rfl (px0 hP).1 r0_5 rfl rfl rfl (Nat.le_of_ble_eq_true rfl) ⟨Nat.zero_le _, Nat.zero_le _⟩ (fun v0 w0 hq0 => ?_)
          obtain ⟨rfl, rfl⟩ := hq0
          show G Γ (va_pl L f) 0 0 5 [(0, .ref (ad 0 0 0)), (1, .int (nI n)), (2, .int (nI m)), (3, .int i)] [.ref (ad 12 n 0)]
          refine g_astore (lv' := [(4, .ref (ad 12 n 0)), (0, .ref (ad 0 0 0)), (1, .int (nI n)), (2, .int (nI m)), (3, .int i)]) (n := 7) hX dX7_at_5 rfl (by rw [hnL]; rfl) rfl ?_
          refine g_aload_n (n := 8) hX dX7_at_7 rfl rfl rfl ?_
          refine g_pget (n := 11) ux_X7 rfl hX hU dX7_at_8 rfl (px0 hP).1 r0_5 0 rfl uf_X7_10 rfl ?_
          refine g_iload_n (n := 12) hX dX7_at_11 rfl rfl rfl ?_
          refine g_pcallV (n := 15) (As := [.int (nI m)]) (rest := []) hX hE hU hY dX7_at_12 rfl yv_X6_findProgram um_X7_42 (r_findProgramY _ _ hP hI hp1 hp2) ⟨rfl, rfl⟩ (rm_le hRm rfl rfl) rfl (px1 hP).1 r1_6 rfl rfl rfl (Nat.le_of_ble_eq_true rfl) ⟨Nat.zero_le _, Nat.zero_le _⟩ (fun v0 w0 hq0 => ?_)
          obtain ⟨rfl, rfl⟩ := hq0
          show G Γ (va_pl L f) 0 0 15 [(4, .ref (ad 12 n 0)), (0, .ref (ad 0 0 0)), (1, .int (nI n)), (2, .int (nI m)), (3, .int i)] [.ref (ad 9 m 0)]
          refine g_astore (lv' := [(5, .ref (ad 9 m 0)), (4, .ref (ad 12 n 0)), (0, .ref (ad 0 0 0)), (1, .int (nI n)), (2, .int (nI m)), (3, .int i)]) (n := 17) hX dX7_at_15 rfl (by rw [hnL]; rfl) rfl ?_
          refine g_aload (n := 19) hX dX7_at_17 rfl rfl ?_
          refine g_ifnull (n := 22) hX dX7_at_19 rfl ?_
          refine g_aload (n := 24) hX dX7_at_22 rfl rfl ?_
          refine g_ifnonnull (tgt := 31) hX dX7_at_24 (by decide) ?_
          refine g_aload (n := 33) hX dX7_at_31 rfl rfl ?_
          refine g_aload (n := 35) hX dX7_at_33 rfl rfl ?_
          refine g_pcallV (n := 38) (As := [.ref (ad 9 m 0)]) (rest := []) hX hE hU hY dX7_at_35 rfl yv_X5_latestOf um_X7_78 (r_latestY _ _ hP hI hu1 hu2 hp1 hp2 hlat hc0) ⟨rfl, rfl⟩ (rm_le hRm rfl rfl) rfl (px12 hP n hu1 hu2).1 r12_7 rfl rfl rfl (Nat.le_of_ble_eq_true rfl) ⟨Nat.zero_le _, Nat.zero_le _⟩ (fun v0 w0 hq0 => ?_)
          obtain ⟨rfl, rfl⟩ := hq0
          show G Γ (va_pl L f) 0 0 38 [(5, .ref (ad 9 m 0)), (4, .ref (ad 12 n 0)), (0, .ref (ad 0 0 0)), (1, .int (nI n)), (2, .int (nI m)), (3, .int i)] [.ref (ad 15 c 0)]
          refine g_astore (lv' := [(6, .ref (ad 15 c 0)), (5, .ref (ad 9 m 0)), (4, .ref (ad 12 n 0)), (0, .ref (ad 0 0 0)), (1, .int (nI n)), (2, .int (nI m)), (3, .int i)]) (n := 40) hX dX7_at_38 rfl (by rw [hnL]; rfl) rfl ?_
          refine g_aload (n := 42) hX dX7_at_40 rfl rfl ?_
          refine g_ifnull (n := 45) hX dX7_at_42 rfl ?_
          refine g_aload (n := 47) hX dX7_at_45 rfl rfl ?_
          refine g_pget (n := 50) ux_X2 rfl hX hU dX7_at_47 rfl (px15 hP c hc1 hc2).1 r15_9 6 rfl uf_X7_92 rfl ?_
          refine g_if_eq (n := 53) (tgt := 62) hX dX7_at_50 rfl (by decide) (fun c50 => ?_) (fun c50 => absurd (hlk.1.trans h10) c50)
          exact gx_throw (cls := RJx00060) (names := ["java/lang/IndexOutOfBoundsException", "java/lang/RuntimeException", "java/lang/Exception"]) 13 hX hU hst hE hT hR hB rfl fitA namA ul_X7_99 un_Jx00060 atwA atbA gooA dX7_at_62 dX7_at_65 dX7_at_66 dX7_at_68 dX7_at_71 (by rw [hRm]; decide) (by rw [hRm]; decide) (by rw [hRm]; decide) (by rw [hRm]; decide) (by decide) (by decide) ⟨rfl, by rw [hS]; rfl, by rw [hS]; exact RW_rd hQ (cor_F0 σ 1)⟩
        · by_cases hin : 0 ≤ i ∧ i < nI (nA σ 0 (nA σ 7 c))
          · obtain ⟨j, hj, rfl⟩ := nI_of (Int32.not_lt.mpr hin.1)
            have hjz : j < nA σ 0 (nA σ 7 c) := (nI_ltI hj (by rw [hcl.2.2]; omega)).mp hin.2
            have hjm : j < nA σ 0 m := by rw [hcl.2.2] at hjz; exact hjz
            have hS : S_at σ (nI n) (nI m) (nI j) = (σ.1 20 (wk n m j), sF σ 0 0) := by
              simp only [S_at, if_pos hu, if_pos hp, ehu, ehp, hlat, if_neg hc0, if_neg h10]
              rw [if_neg (nI_pos hj), hz.1, if_neg (nI_ge (a := j) (b := nA σ 0 m) hjm (by omega)), nI_clamp hj]
            have hw : gW g c j = σ.1 20 (wk n m j) := by rw [hlk.2 h10 j hjz, hcl.2.1, hcl.2.2]
            have hby : narrow .byte (.int (gW g c j)) = .int (gW g c j) := by rw [hw, ← hI.2.1 (wk n m j) (by unfold wk; omega)]; exact pk_nb _
            have r0_11 : f (ad 0 0 0) = .inr (9, [.ref (ad 1 0 0), .ref (ad 2 0 0), .ref (ad 3 0 0), .ref (ad 8 0 0), .int (nI (nF σ 2))]) := (px0 hP).2.2
            have r1_12 : f (ad 1 0 0) = .inr (8, [.ref (ad 6 0 0), .ref (ad 7 0 0), .int (nI (nF σ 1)), .int (nI (nF σ 3))]) := (px1 hP).2.2
            have r12_13 : f (ad 12 n 0) = .inr (7, [.ref (ad 13 n 0), .ref (ad 14 n 0), .int (σ.1 12 n), .int (σ.1 13 n), .int (gfl g n), .int (geb g n), .int (σ.1 17 n), .int (σ.1 18 n), .int (nI (nA σ 19 n))]) := (px12 hP n hu1 hu2).2.2
            have r9_14 : f (ad 9 m 0) = .inr (5, [.int (nI m), .int (nI (nA σ 0 m)), .int (σ.1 5 m), .ref (ad 10 m 0), .int (nI (nA σ 1 m))]) := (px9 hP m hp1 hp2).2.2
            have r15_15 : f (ad 15 c 0) = .inr (4, [.int (nI c), .ref (ad 12 (nA σ 6 c) 0), .ref (ad 9 (nA σ 7 c) 0), .int (nI (nA σ 8 c)), .ref (ad 16 c 0), va_rf (if gfa g c = true then some (ad 17 c 0) else none), .int (gsd g c), .int (σ.1 11 c), .int (σ.1 9 c)]) := (px15 hP c hc1 hc2).2.2
            have r16_16 : f (ad 16 c 0) = .inl (K 0, nA σ 0 (nA σ 7 c), .inl (gW g c)) := (px16 hP c hc1 hc2).2.2
            refine g_aload_n (n := 1) hX dX7_at_0 rfl rfl rfl ?_
            refine g_iload_n (n := 2) hX dX7_at_1 rfl rfl rfl ?_
            refine g_pcallV (n := 5) (As := [.int (nI n)]) (rest := []) hX hE hU hY dX7_at_2 rfl yv_X7_findUnit um_X7_61 (r_findUnitY _ _ hP hI hu1 hu2) ⟨rfl, rfl⟩ (rm_le hRm rfl rfl) rfl (px0 hP).1 r0_11 rfl rfl rfl (Nat.le_of_ble_eq_true rfl) ⟨Nat.zero_le _, Nat.zero_le _⟩ (fun v0 w0 hq0 => ?_)
            obtain ⟨rfl, rfl⟩ := hq0
            show G Γ (va_pl L f) 0 0 5 [(0, .ref (ad 0 0 0)), (1, .int (nI n)), (2, .int (nI m)), (3, .int (nI j))] [.ref (ad 12 n 0)]
            refine g_astore (lv' := [(4, .ref (ad 12 n 0)), (0, .ref (ad 0 0 0)), (1, .int (nI n)), (2, .int (nI m)), (3, .int (nI j))]) (n := 7) hX dX7_at_5 rfl (by rw [hnL]; rfl) rfl ?_
            refine g_aload_n (n := 8) hX dX7_at_7 rfl rfl rfl ?_
            refine g_pget (n := 11) ux_X7 rfl hX hU dX7_at_8 rfl (px0 hP).1 r0_11 0 rfl uf_X7_10 rfl ?_
            refine g_iload_n (n := 12) hX dX7_at_11 rfl rfl rfl ?_
            refine g_pcallV (n := 15) (As := [.int (nI m)]) (rest := []) hX hE hU hY dX7_at_12 rfl yv_X6_findProgram um_X7_42 (r_findProgramY _ _ hP hI hp1 hp2) ⟨rfl, rfl⟩ (rm_le hRm rfl rfl) rfl (px1 hP).1 r1_12 rfl rfl rfl (Nat.le_of_ble_eq_true rfl) ⟨Nat.zero_le _, Nat.zero_le _⟩ (fun v0 w0 hq0 => ?_)
            obtain ⟨rfl, rfl⟩ := hq0
            show G Γ (va_pl L f) 0 0 15 [(4, .ref (ad 12 n 0)), (0, .ref (ad 0 0 0)), (1, .int (nI n)), (2, .int (nI m)), (3, .int (nI j))] [.ref (ad 9 m 0)]
            refine g_astore (lv' := [(5, .ref (ad 9 m 0)), (4, .ref (ad 12 n 0)), (0, .ref (ad 0 0 0)), (1, .int (nI n)), (2, .int (nI m)), (3, .int (nI j))]) (n := 17) hX dX7_at_15 rfl (by rw [hnL]; rfl) rfl ?_
            refine g_aload (n := 19) hX dX7_at_17 rfl rfl ?_
            refine g_ifnull (n := 22) hX dX7_at_19 rfl ?_
            refine g_aload (n := 24) hX dX7_at_22 rfl rfl ?_
            refine g_ifnonnull (tgt := 31) hX dX7_at_24 (by decide) ?_
            refine g_aload (n := 33) hX dX7_at_31 rfl rfl ?_
            refine g_aload (n := 35) hX dX7_at_33 rfl rfl ?_
            refine g_pcallV (n := 38) (As := [.ref (ad 9 m 0)]) (rest := []) hX hE hU hY dX7_at_35 rfl yv_X5_latestOf um_X7_78 (r_latestY _ _ hP hI hu1 hu2 hp1 hp2 hlat hc0) ⟨rfl, rfl⟩ (rm_le hRm rfl rfl) rfl (px12 hP n hu1 hu2).1 r12_13 rfl rfl rfl (Nat.le_of_ble_eq_true rfl) ⟨Nat.zero_le _, Nat.zero_le _⟩ (fun v0 w0 hq0 => ?_)
            obtain ⟨rfl, rfl⟩ := hq0
            show G Γ (va_pl L f) 0 0 38 [(5, .ref (ad 9 m 0)), (4, .ref (ad 12 n 0)), (0, .ref (ad 0 0 0)), (1, .int (nI n)), (2, .int (nI m)), (3, .int (nI j))] [.ref (ad 15 c 0)]
            refine g_astore (lv' := [(6, .ref (ad 15 c 0)), (5, .ref (ad 9 m 0)), (4, .ref (ad 12 n 0)), (0, .ref (ad 0 0 0)), (1, .int (nI n)), (2, .int (nI m)), (3, .int (nI j))]) (n := 40) hX dX7_at_38 rfl (by rw [hnL]; rfl) rfl ?_
            refine g_aload (n := 42) hX dX7_at_40 rfl rfl ?_
            refine g_ifnull (n := 45) hX dX7_at_42 rfl ?_
            refine g_aload (n := 47) hX dX7_at_45 rfl rfl ?_
            refine g_pget (n := 50) ux_X2 rfl hX hU dX7_at_47 rfl (px15 hP c hc1 hc2).1 r15_15 6 rfl uf_X7_92 rfl ?_
            refine g_if_eq (n := 53) (tgt := 62) hX dX7_at_50 rfl (by decide) (fun c50 => absurd c50 (fun h9 => h10 (hlk.1.symm.trans h9))) (fun c50 => ?_)
            refine g_aload (n := 55) hX dX7_at_53 rfl rfl ?_
            refine g_iload_n (n := 56) hX dX7_at_55 rfl rfl rfl ?_
            refine g_pcallV (n := 59) (As := [.int (nI j)]) (rest := []) hX hE hU hY dX7_at_56 rfl yv_X2_hasByte um_X7_95 (x_hasByte _ _ K L f (nI j) (ad 15 c 0) (nA σ 0 (nA σ 7 c)) (gW g c) (ad 12 (nA σ 6 c) 0) (ad 9 (nA σ 7 c) 0) (ad 16 c 0) (if gfa g c = true then some (ad 17 c 0) else none) (nI c) (nI (nA σ 8 c)) (gsd g c) (σ.1 11 c) (σ.1 9 c) (px15 hP c hc1 hc2).1 (px15 hP c hc1 hc2).2.2 (px16 hP c hc1 hc2).1 (px16 hP c hc1 hc2).2.2) ⟨rfl, rfl⟩ (rm_le hRm rfl rfl) rfl (px15 hP c hc1 hc2).1 r15_15 rfl rfl rfl (Nat.le_of_ble_eq_true rfl) ⟨Nat.zero_le _, Nat.zero_le _⟩ (fun v0 w0 hq0 => ?_)
            obtain ⟨rfl, rfl⟩ := hq0
            show G Γ (va_pl L f) 0 0 59 [(6, .ref (ad 15 c 0)), (5, .ref (ad 9 m 0)), (4, .ref (ad 12 n 0)), (0, .ref (ad 0 0 0)), (1, .int (nI n)), (2, .int (nI m)), (3, .int (nI j))] [.int (bI (0 ≤ nI j ∧ nI j < nI (nA σ 0 (nA σ 7 c))))]
            refine g_if_ne (n := 62) (tgt := 72) hX dX7_at_59 rfl (by decide) (fun c59 => ?_) (fun c59 => absurd c59 (by rw [bI_t hin]; decide))
            refine g_aload (n := 74) hX dX7_at_72 rfl rfl ?_
            refine g_pget (n := 77) ux_X2 rfl hX hU dX7_at_74 rfl (px15 hP c hc1 hc2).1 r15_15 4 rfl uf_X7_106 rfl ?_
            refine g_iload_n (n := 78) hX dX7_at_77 rfl rfl rfl ?_
            refine g_pbld (n := 79) (v := gW g c j) hX hY dX7_at_78 rfl (px16 hP c hc1 hc2).1 r16_16 (vp_in_nI hjz (by rw [hcl.2.2]; omega)) (by rw [nI_clamp hj]) ?_
            refine g_widen (kc' := 1) (ks' := 6) (Nat.le_of_ble_eq_true rfl) (Nat.le_of_ble_eq_true rfl) ?_
            exact gx_zret hX hR dX7_at_79 hby ⟨by rw [hS]; rfl, by rw [hS, hw], by rw [hS]; exact RW_rd hQ (cor_F0 σ 0)⟩
          · have hS : S_at σ (nI n) (nI m) i = (0, sF σ 0 1) := by
              simp only [S_at, if_pos hu, if_pos hp, ehu, ehp, hlat, if_neg hc0, if_neg h10]
              by_cases h0 : i < 0
              · rw [if_pos h0]
              · rw [if_neg h0, if_pos]
                rw [hz.1]
                exact Int32.not_lt.mp (fun h8 => hin ⟨Int32.not_lt.mp h0, by rw [hcl.2.2]; exact h8⟩)
            have r0_17 : f (ad 0 0 0) = .inr (9, [.ref (ad 1 0 0), .ref (ad 2 0 0), .ref (ad 3 0 0), .ref (ad 8 0 0), .int (nI (nF σ 2))]) := (px0 hP).2.2
            have r1_18 : f (ad 1 0 0) = .inr (8, [.ref (ad 6 0 0), .ref (ad 7 0 0), .int (nI (nF σ 1)), .int (nI (nF σ 3))]) := (px1 hP).2.2
            have r12_19 : f (ad 12 n 0) = .inr (7, [.ref (ad 13 n 0), .ref (ad 14 n 0), .int (σ.1 12 n), .int (σ.1 13 n), .int (gfl g n), .int (geb g n), .int (σ.1 17 n), .int (σ.1 18 n), .int (nI (nA σ 19 n))]) := (px12 hP n hu1 hu2).2.2
            have r9_20 : f (ad 9 m 0) = .inr (5, [.int (nI m), .int (nI (nA σ 0 m)), .int (σ.1 5 m), .ref (ad 10 m 0), .int (nI (nA σ 1 m))]) := (px9 hP m hp1 hp2).2.2
            have r15_21 : f (ad 15 c 0) = .inr (4, [.int (nI c), .ref (ad 12 (nA σ 6 c) 0), .ref (ad 9 (nA σ 7 c) 0), .int (nI (nA σ 8 c)), .ref (ad 16 c 0), va_rf (if gfa g c = true then some (ad 17 c 0) else none), .int (gsd g c), .int (σ.1 11 c), .int (σ.1 9 c)]) := (px15 hP c hc1 hc2).2.2
            have r16_22 : f (ad 16 c 0) = .inl (K 0, nA σ 0 (nA σ 7 c), .inl (gW g c)) := (px16 hP c hc1 hc2).2.2
            refine g_aload_n (n := 1) hX dX7_at_0 rfl rfl rfl ?_
            refine g_iload_n (n := 2) hX dX7_at_1 rfl rfl rfl ?_
            refine g_pcallV (n := 5) (As := [.int (nI n)]) (rest := []) hX hE hU hY dX7_at_2 rfl yv_X7_findUnit um_X7_61 (r_findUnitY _ _ hP hI hu1 hu2) ⟨rfl, rfl⟩ (rm_le hRm rfl rfl) rfl (px0 hP).1 r0_17 rfl rfl rfl (Nat.le_of_ble_eq_true rfl) ⟨Nat.zero_le _, Nat.zero_le _⟩ (fun v0 w0 hq0 => ?_)
            obtain ⟨rfl, rfl⟩ := hq0
            show G Γ (va_pl L f) 0 0 5 [(0, .ref (ad 0 0 0)), (1, .int (nI n)), (2, .int (nI m)), (3, .int i)] [.ref (ad 12 n 0)]
            refine g_astore (lv' := [(4, .ref (ad 12 n 0)), (0, .ref (ad 0 0 0)), (1, .int (nI n)), (2, .int (nI m)), (3, .int i)]) (n := 7) hX dX7_at_5 rfl (by rw [hnL]; rfl) rfl ?_
            refine g_aload_n (n := 8) hX dX7_at_7 rfl rfl rfl ?_
            refine g_pget (n := 11) ux_X7 rfl hX hU dX7_at_8 rfl (px0 hP).1 r0_17 0 rfl uf_X7_10 rfl ?_
            refine g_iload_n (n := 12) hX dX7_at_11 rfl rfl rfl ?_
            refine g_pcallV (n := 15) (As := [.int (nI m)]) (rest := []) hX hE hU hY dX7_at_12 rfl yv_X6_findProgram um_X7_42 (r_findProgramY _ _ hP hI hp1 hp2) ⟨rfl, rfl⟩ (rm_le hRm rfl rfl) rfl (px1 hP).1 r1_18 rfl rfl rfl (Nat.le_of_ble_eq_true rfl) ⟨Nat.zero_le _, Nat.zero_le _⟩ (fun v0 w0 hq0 => ?_)
            obtain ⟨rfl, rfl⟩ := hq0
            show G Γ (va_pl L f) 0 0 15 [(4, .ref (ad 12 n 0)), (0, .ref (ad 0 0 0)), (1, .int (nI n)), (2, .int (nI m)), (3, .int i)] [.ref (ad 9 m 0)]
            refine g_astore (lv' := [(5, .ref (ad 9 m 0)), (4, .ref (ad 12 n 0)), (0, .ref (ad 0 0 0)), (1, .int (nI n)), (2, .int (nI m)), (3, .int i)]) (n := 17) hX dX7_at_15 rfl (by rw [hnL]; rfl) rfl ?_
            refine g_aload (n := 19) hX dX7_at_17 rfl rfl ?_
            refine g_ifnull (n := 22) hX dX7_at_19 rfl ?_
            refine g_aload (n := 24) hX dX7_at_22 rfl rfl ?_
            refine g_ifnonnull (tgt := 31) hX dX7_at_24 (by decide) ?_
            refine g_aload (n := 33) hX dX7_at_31 rfl rfl ?_
            refine g_aload (n := 35) hX dX7_at_33 rfl rfl ?_
            refine g_pcallV (n := 38) (As := [.ref (ad 9 m 0)]) (rest := []) hX hE hU hY dX7_at_35 rfl yv_X5_latestOf um_X7_78 (r_latestY _ _ hP hI hu1 hu2 hp1 hp2 hlat hc0) ⟨rfl, rfl⟩ (rm_le hRm rfl rfl) rfl (px12 hP n hu1 hu2).1 r12_19 rfl rfl rfl (Nat.le_of_ble_eq_true rfl) ⟨Nat.zero_le _, Nat.zero_le _⟩ (fun v0 w0 hq0 => ?_)
            obtain ⟨rfl, rfl⟩ := hq0
            show G Γ (va_pl L f) 0 0 38 [(5, .ref (ad 9 m 0)), (4, .ref (ad 12 n 0)), (0, .ref (ad 0 0 0)), (1, .int (nI n)), (2, .int (nI m)), (3, .int i)] [.ref (ad 15 c 0)]
            refine g_astore (lv' := [(6, .ref (ad 15 c 0)), (5, .ref (ad 9 m 0)), (4, .ref (ad 12 n 0)), (0, .ref (ad 0 0 0)), (1, .int (nI n)), (2, .int (nI m)), (3, .int i)]) (n := 40) hX dX7_at_38 rfl (by rw [hnL]; rfl) rfl ?_
            refine g_aload (n := 42) hX dX7_at_40 rfl rfl ?_
            refine g_ifnull (n := 45) hX dX7_at_42 rfl ?_
            refine g_aload (n := 47) hX dX7_at_45 rfl rfl ?_
            refine g_pget (n := 50) ux_X2 rfl hX hU dX7_at_47 rfl (px15 hP c hc1 hc2).1 r15_21 6 rfl uf_X7_92 rfl ?_
            refine g_if_eq (n := 53) (tgt := 62) hX dX7_at_50 rfl (by decide) (fun c50 => absurd c50 (fun h9 => h10 (hlk.1.symm.trans h9))) (fun c50 => ?_)
            refine g_aload (n := 55) hX dX7_at_53 rfl rfl ?_
            refine g_iload_n (n := 56) hX dX7_at_55 rfl rfl rfl ?_
            refine g_pcallV (n := 59) (As := [.int i]) (rest := []) hX hE hU hY dX7_at_56 rfl yv_X2_hasByte um_X7_95 (x_hasByte _ _ K L f i (ad 15 c 0) (nA σ 0 (nA σ 7 c)) (gW g c) (ad 12 (nA σ 6 c) 0) (ad 9 (nA σ 7 c) 0) (ad 16 c 0) (if gfa g c = true then some (ad 17 c 0) else none) (nI c) (nI (nA σ 8 c)) (gsd g c) (σ.1 11 c) (σ.1 9 c) (px15 hP c hc1 hc2).1 (px15 hP c hc1 hc2).2.2 (px16 hP c hc1 hc2).1 (px16 hP c hc1 hc2).2.2) ⟨rfl, rfl⟩ (rm_le hRm rfl rfl) rfl (px15 hP c hc1 hc2).1 r15_21 rfl rfl rfl (Nat.le_of_ble_eq_true rfl) ⟨Nat.zero_le _, Nat.zero_le _⟩ (fun v0 w0 hq0 => ?_)
            obtain ⟨rfl, rfl⟩ := hq0
            show G Γ (va_pl L f) 0 0 59 [(6, .ref (ad 15 c 0)), (5, .ref (ad 9 m 0)), (4, .ref (ad 12 n 0)), (0, .ref (ad 0 0 0)), (1, .int (nI n)), (2, .int (nI m)), (3, .int i)] [.int (bI (0 ≤ i ∧ i < nI (nA σ 0 (nA σ 7 c))))]
            refine g_if_ne (n := 62) (tgt := 72) hX dX7_at_59 rfl (by decide) (fun c59 => absurd (bI_f hin) c59) (fun c59 => ?_)
            exact gx_throw (cls := RJx00060) (names := ["java/lang/IndexOutOfBoundsException", "java/lang/RuntimeException", "java/lang/Exception"]) 13 hX hU hst hE hT hR hB rfl fitA namA ul_X7_99 un_Jx00060 atwA atbA gooA dX7_at_62 dX7_at_65 dX7_at_66 dX7_at_68 dX7_at_71 (by rw [hRm]; decide) (by rw [hRm]; decide) (by rw [hRm]; decide) (by rw [hRm]; decide) (by decide) (by decide) ⟨rfl, by rw [hS]; rfl, by rw [hS]; exact RW_rd hQ (cor_F0 σ 1)⟩
    · have hS : S_at σ (nI n) p i = (0, sF σ 0 1) := by simp only [S_at, if_pos hu, if_neg hp]
      have r0_23 : f (ad 0 0 0) = .inr (9, [.ref (ad 1 0 0), .ref (ad 2 0 0), .ref (ad 3 0 0), .ref (ad 8 0 0), .int (nI (nF σ 2))]) := (px0 hP).2.2
      have r1_24 : f (ad 1 0 0) = .inr (8, [.ref (ad 6 0 0), .ref (ad 7 0 0), .int (nI (nF σ 1)), .int (nI (nF σ 3))]) := (px1 hP).2.2
      have r12_25 : f (ad 12 n 0) = .inr (7, [.ref (ad 13 n 0), .ref (ad 14 n 0), .int (σ.1 12 n), .int (σ.1 13 n), .int (gfl g n), .int (geb g n), .int (σ.1 17 n), .int (σ.1 18 n), .int (nI (nA σ 19 n))]) := (px12 hP n hu1 hu2).2.2
      refine g_aload_n (n := 1) hX dX7_at_0 rfl rfl rfl ?_
      refine g_iload_n (n := 2) hX dX7_at_1 rfl rfl rfl ?_
      refine g_pcallV (n := 5) (As := [.int (nI n)]) (rest := []) hX hE hU hY dX7_at_2 rfl yv_X7_findUnit um_X7_61 (r_findUnitY _ _ hP hI hu1 hu2) ⟨rfl, rfl⟩ (rm_le hRm rfl rfl) rfl (px0 hP).1 r0_23 rfl rfl rfl (Nat.le_of_ble_eq_true rfl) ⟨Nat.zero_le _, Nat.zero_le _⟩ (fun v0 w0 hq0 => ?_)
      obtain ⟨rfl, rfl⟩ := hq0
      show G Γ (va_pl L f) 0 0 5 [(0, .ref (ad 0 0 0)), (1, .int (nI n)), (2, .int p), (3, .int i)] [.ref (ad 12 n 0)]
      refine g_astore (lv' := [(4, .ref (ad 12 n 0)), (0, .ref (ad 0 0 0)), (1, .int (nI n)), (2, .int p), (3, .int i)]) (n := 7) hX dX7_at_5 rfl (by rw [hnL]; rfl) rfl ?_
      refine g_aload_n (n := 8) hX dX7_at_7 rfl rfl rfl ?_
      refine g_pget (n := 11) ux_X7 rfl hX hU dX7_at_8 rfl (px0 hP).1 r0_23 0 rfl uf_X7_10 rfl ?_
      refine g_iload_n (n := 12) hX dX7_at_11 rfl rfl rfl ?_
      refine g_pcallV (n := 15) (As := [.int p]) (rest := []) hX hE hU hY dX7_at_12 rfl yv_X6_findProgram um_X7_42 (r_findProgramN _ _ hP hI hp) ⟨rfl, rfl⟩ (rm_le hRm rfl rfl) rfl (px1 hP).1 r1_24 rfl rfl rfl (Nat.le_of_ble_eq_true rfl) ⟨Nat.zero_le _, Nat.zero_le _⟩ (fun v0 w0 hq0 => ?_)
      obtain ⟨rfl, rfl⟩ := hq0
      show G Γ (va_pl L f) 0 0 15 [(4, .ref (ad 12 n 0)), (0, .ref (ad 0 0 0)), (1, .int (nI n)), (2, .int p), (3, .int i)] [.null]
      refine g_astoreN (lv' := [(5, .null), (4, .ref (ad 12 n 0)), (0, .ref (ad 0 0 0)), (1, .int (nI n)), (2, .int p), (3, .int i)]) (n := 17) hX dX7_at_15 rfl (by rw [hnL]; rfl) rfl ?_
      refine g_aload (n := 19) hX dX7_at_17 rfl rfl ?_
      refine g_ifnull (n := 22) hX dX7_at_19 rfl ?_
      refine g_aloadN (n := 24) hX dX7_at_22 rfl rfl ?_
      refine g_ifnonnullN (n := 27) hX dX7_at_24 rfl ?_
      refine g_null (n := 28) hX dX7_at_27 rfl ?_
      refine g_goto (n := 38) hX dX7_at_28 (by decide) ?_
      refine g_astoreN (lv' := [(6, .null), (5, .null), (4, .ref (ad 12 n 0)), (0, .ref (ad 0 0 0)), (1, .int (nI n)), (2, .int p), (3, .int i)]) (n := 40) hX dX7_at_38 rfl (by rw [hnL]; rfl) rfl ?_
      refine g_aloadN (n := 42) hX dX7_at_40 rfl rfl ?_
      refine g_ifnullN (tgt := 62) hX dX7_at_42 (by decide) ?_
      exact gx_throw (cls := RJx00060) (names := ["java/lang/IndexOutOfBoundsException", "java/lang/RuntimeException", "java/lang/Exception"]) 13 hX hU hst hE hT hR hB rfl fitA namA ul_X7_99 un_Jx00060 atwA atbA gooA dX7_at_62 dX7_at_65 dX7_at_66 dX7_at_68 dX7_at_71 (by rw [hRm]; decide) (by rw [hRm]; decide) (by rw [hRm]; decide) (by rw [hRm]; decide) (by decide) (by decide) ⟨rfl, by rw [hS]; rfl, by rw [hS]; exact RW_rd hQ (cor_F0 σ 1)⟩
  · have hS : S_at σ u p i = (0, sF σ 0 1) := by simp only [S_at, if_neg hu]
    by_cases hp : 1 ≤ p ∧ p ≤ σ.2 1
    · obtain ⟨m, rfl, hp1, hp8, -, hp2⟩ := in1 hI.1.1 (by decide) hp
      have r0_26 : f (ad 0 0 0) = .inr (9, [.ref (ad 1 0 0), .ref (ad 2 0 0), .ref (ad 3 0 0), .ref (ad 8 0 0), .int (nI (nF σ 2))]) := (px0 hP).2.2
      have r1_27 : f (ad 1 0 0) = .inr (8, [.ref (ad 6 0 0), .ref (ad 7 0 0), .int (nI (nF σ 1)), .int (nI (nF σ 3))]) := (px1 hP).2.2
      refine g_aload_n (n := 1) hX dX7_at_0 rfl rfl rfl ?_
      refine g_iload_n (n := 2) hX dX7_at_1 rfl rfl rfl ?_
      refine g_pcallV (n := 5) (As := [.int u]) (rest := []) hX hE hU hY dX7_at_2 rfl yv_X7_findUnit um_X7_61 (r_findUnitN _ _ hP hI hu) ⟨rfl, rfl⟩ (rm_le hRm rfl rfl) rfl (px0 hP).1 r0_26 rfl rfl rfl (Nat.le_of_ble_eq_true rfl) ⟨Nat.zero_le _, Nat.zero_le _⟩ (fun v0 w0 hq0 => ?_)
      obtain ⟨rfl, rfl⟩ := hq0
      show G Γ (va_pl L f) 0 0 5 [(0, .ref (ad 0 0 0)), (1, .int u), (2, .int (nI m)), (3, .int i)] [.null]
      refine g_astoreN (lv' := [(4, .null), (0, .ref (ad 0 0 0)), (1, .int u), (2, .int (nI m)), (3, .int i)]) (n := 7) hX dX7_at_5 rfl (by rw [hnL]; rfl) rfl ?_
      refine g_aload_n (n := 8) hX dX7_at_7 rfl rfl rfl ?_
      refine g_pget (n := 11) ux_X7 rfl hX hU dX7_at_8 rfl (px0 hP).1 r0_26 0 rfl uf_X7_10 rfl ?_
      refine g_iload_n (n := 12) hX dX7_at_11 rfl rfl rfl ?_
      refine g_pcallV (n := 15) (As := [.int (nI m)]) (rest := []) hX hE hU hY dX7_at_12 rfl yv_X6_findProgram um_X7_42 (r_findProgramY _ _ hP hI hp1 hp2) ⟨rfl, rfl⟩ (rm_le hRm rfl rfl) rfl (px1 hP).1 r1_27 rfl rfl rfl (Nat.le_of_ble_eq_true rfl) ⟨Nat.zero_le _, Nat.zero_le _⟩ (fun v0 w0 hq0 => ?_)
      obtain ⟨rfl, rfl⟩ := hq0
      show G Γ (va_pl L f) 0 0 15 [(4, .null), (0, .ref (ad 0 0 0)), (1, .int u), (2, .int (nI m)), (3, .int i)] [.ref (ad 9 m 0)]
      refine g_astore (lv' := [(5, .ref (ad 9 m 0)), (4, .null), (0, .ref (ad 0 0 0)), (1, .int u), (2, .int (nI m)), (3, .int i)]) (n := 17) hX dX7_at_15 rfl (by rw [hnL]; rfl) rfl ?_
      refine g_aloadN (n := 19) hX dX7_at_17 rfl rfl ?_
      refine g_ifnullN (tgt := 27) hX dX7_at_19 (by decide) ?_
      refine g_null (n := 28) hX dX7_at_27 rfl ?_
      refine g_goto (n := 38) hX dX7_at_28 (by decide) ?_
      refine g_astoreN (lv' := [(6, .null), (5, .ref (ad 9 m 0)), (4, .null), (0, .ref (ad 0 0 0)), (1, .int u), (2, .int (nI m)), (3, .int i)]) (n := 40) hX dX7_at_38 rfl (by rw [hnL]; rfl) rfl ?_
      refine g_aloadN (n := 42) hX dX7_at_40 rfl rfl ?_
      refine g_ifnullN (tgt := 62) hX dX7_at_42 (by decide) ?_
      exact gx_throw (cls := RJx00060) (names := ["java/lang/IndexOutOfBoundsException", "java/lang/RuntimeException", "java/lang/Exception"]) 13 hX hU hst hE hT hR hB rfl fitA namA ul_X7_99 un_Jx00060 atwA atbA gooA dX7_at_62 dX7_at_65 dX7_at_66 dX7_at_68 dX7_at_71 (by rw [hRm]; decide) (by rw [hRm]; decide) (by rw [hRm]; decide) (by rw [hRm]; decide) (by decide) (by decide) ⟨rfl, by rw [hS]; rfl, by rw [hS]; exact RW_rd hQ (cor_F0 σ 1)⟩
    · have r0_28 : f (ad 0 0 0) = .inr (9, [.ref (ad 1 0 0), .ref (ad 2 0 0), .ref (ad 3 0 0), .ref (ad 8 0 0), .int (nI (nF σ 2))]) := (px0 hP).2.2
      have r1_29 : f (ad 1 0 0) = .inr (8, [.ref (ad 6 0 0), .ref (ad 7 0 0), .int (nI (nF σ 1)), .int (nI (nF σ 3))]) := (px1 hP).2.2
      refine g_aload_n (n := 1) hX dX7_at_0 rfl rfl rfl ?_
      refine g_iload_n (n := 2) hX dX7_at_1 rfl rfl rfl ?_
      refine g_pcallV (n := 5) (As := [.int u]) (rest := []) hX hE hU hY dX7_at_2 rfl yv_X7_findUnit um_X7_61 (r_findUnitN _ _ hP hI hu) ⟨rfl, rfl⟩ (rm_le hRm rfl rfl) rfl (px0 hP).1 r0_28 rfl rfl rfl (Nat.le_of_ble_eq_true rfl) ⟨Nat.zero_le _, Nat.zero_le _⟩ (fun v0 w0 hq0 => ?_)
      obtain ⟨rfl, rfl⟩ := hq0
      show G Γ (va_pl L f) 0 0 5 [(0, .ref (ad 0 0 0)), (1, .int u), (2, .int p), (3, .int i)] [.null]
      refine g_astoreN (lv' := [(4, .null), (0, .ref (ad 0 0 0)), (1, .int u), (2, .int p), (3, .int i)]) (n := 7) hX dX7_at_5 rfl (by rw [hnL]; rfl) rfl ?_
      refine g_aload_n (n := 8) hX dX7_at_7 rfl rfl rfl ?_
      refine g_pget (n := 11) ux_X7 rfl hX hU dX7_at_8 rfl (px0 hP).1 r0_28 0 rfl uf_X7_10 rfl ?_
      refine g_iload_n (n := 12) hX dX7_at_11 rfl rfl rfl ?_
      refine g_pcallV (n := 15) (As := [.int p]) (rest := []) hX hE hU hY dX7_at_12 rfl yv_X6_findProgram um_X7_42 (r_findProgramN _ _ hP hI hp) ⟨rfl, rfl⟩ (rm_le hRm rfl rfl) rfl (px1 hP).1 r1_29 rfl rfl rfl (Nat.le_of_ble_eq_true rfl) ⟨Nat.zero_le _, Nat.zero_le _⟩ (fun v0 w0 hq0 => ?_)
      obtain ⟨rfl, rfl⟩ := hq0
      show G Γ (va_pl L f) 0 0 15 [(4, .null), (0, .ref (ad 0 0 0)), (1, .int u), (2, .int p), (3, .int i)] [.null]
      refine g_astoreN (lv' := [(5, .null), (4, .null), (0, .ref (ad 0 0 0)), (1, .int u), (2, .int p), (3, .int i)]) (n := 17) hX dX7_at_15 rfl (by rw [hnL]; rfl) rfl ?_
      refine g_aloadN (n := 19) hX dX7_at_17 rfl rfl ?_
      refine g_ifnullN (tgt := 27) hX dX7_at_19 (by decide) ?_
      refine g_null (n := 28) hX dX7_at_27 rfl ?_
      refine g_goto (n := 38) hX dX7_at_28 (by decide) ?_
      refine g_astoreN (lv' := [(6, .null), (5, .null), (4, .null), (0, .ref (ad 0 0 0)), (1, .int u), (2, .int p), (3, .int i)]) (n := 40) hX dX7_at_38 rfl (by rw [hnL]; rfl) rfl ?_
      refine g_aloadN (n := 42) hX dX7_at_40 rfl rfl ?_
      refine g_ifnullN (tgt := 62) hX dX7_at_42 (by decide) ?_
      exact gx_throw (cls := RJx00060) (names := ["java/lang/IndexOutOfBoundsException", "java/lang/RuntimeException", "java/lang/Exception"]) 13 hX hU hst hE hT hR hB rfl fitA namA ul_X7_99 un_Jx00060 atwA atbA gooA dX7_at_62 dX7_at_65 dX7_at_66 dX7_at_68 dX7_at_71 (by rw [hRm]; decide) (by rw [hRm]; decide) (by rw [hRm]; decide) (by rw [hRm]; decide) (by decide) (by decide) ⟨rfl, by rw [hS]; rfl, by rw [hS]; exact RW_rd hQ (cor_F0 σ 1)⟩

theorem RW_fB2 {K : Nat → ClassId} {L : List Nat} {f : Nat → va_E} {ad : AD} {κ : TG} {g : GX} {σ : MS} {ax : Nat} (h : RX K L f ad κ g σ 0) (e : ad 0 0 0 = ax) (bs : List Int32) (x z : Int32) : RW K ax (sF (ap (sF (sF σ 0 x) 29 0) bs) 0 z) (va_pl L f) := ⟨L, f, ad, κ, g, rfl, e, RX_cor h ((cor_F0 _ z).trans (cor_fB σ bs x))⟩
theorem and255 (v : Int32) : (v &&& 255).toInt8.toInt32 = v.toInt8.toInt32 := by
  have h : (v &&& 255).toInt8 = v.toInt8 := by
    apply Int8.toBitVec_inj.mp
    show (v.toBitVec &&& 255#32).signExtend 8 = v.toBitVec.signExtend 8
    apply BitVec.eq_of_getLsbD_eq
    intro i hi
    have h1 : ∀ j, j < 8 → (255#32).getLsbD j = true := by decide
    rw [BitVec.getLsbD_signExtend, BitVec.getLsbD_signExtend]
    simp [hi, h1 i hi, show i < 32 by omega]
  rw [h]
set_option maxHeartbeats 4000000 in
set_option maxRecDepth 100000 in
theorem F_octet (l : Launch) (D : va_G) (K : Nat → ClassId) (hst : l.stackTraces = false) (L : List Nat) (f : Nat → va_E) (ad : AD) (κ : TG) (g : GX) (σ : MS) (c i : Int32) (hQ : RX K L f ad κ g σ 0) : McX l yX7_octet (wM yX7_octet cX7_octet 5 (some .byte)) (rmL 7 2 2054) D (yY K) [.ref (ad 0 0 0), .int c, .int i] (va_pl L f) (fun v w => (S_octet σ c i).2.2 0 = 0 ∧ v = some (.int (S_octet σ c i).1) ∧ RW K (ad 0 0 0) (S_octet σ c i).2 w) (fun E w => E = RJx00060 ∧ (S_octet σ c i).2.2 0 = 1 ∧ RW K (ad 0 0 0) (S_octet σ c i).2 w) 2 2054 := by
  refine mx_start (lv := [(0, .ref (ad 0 0 0)), (1, .int c), (2, .int i)]) rfl (Nat.le_of_ble_eq_true rfl) rfl (fun Γ hX hRm hnL hY hDD hLa hR hB hE hT => ?_)
  have hU : ∀ w ∈ wU, w ∈ wM yX7_octet cX7_octet 5 (some .byte) := fun w h => wM_in h
  subst hLa
  subst hDD
  have hP := hQ.1
  have hL := hQ.2.1
  have hI := hQ.2.2
  by_cases hc : 1 ≤ c ∧ c ≤ σ.2 3
  · obtain ⟨n, rfl, hc1, hc8, -, hc2⟩ := in1 hI.1.2.2.1 (by decide) hc
    have hc2 : n ≤ nF σ 3 := hc2
    have ehc : (nI n).toNatClampNeg = n := nI_clamp (by omega)
    obtain ⟨bs, hbs⟩ : ∃ bs, fB σ n = bs := ⟨_, rfl⟩
    have hbl : bs.length < 2048 := by rw [← hbs]; exact bFile_len2 _ _ _ _ _ (Nat.le_trans (hI.cls n hc1 hc2).2.1.2 hI.np.2) (hI.cr hc8).2
    by_cases h0 : i < 0
    · have hS : S_octet σ (nI n) i = (0, sF (ap (sF (sF σ 0 1) 29 0) bs) 0 1) := by simp only [S_octet, if_pos hc, ehc, hbs, if_pos h0]
      have r0_30 : f (ad 0 0 0) = .inr (9, [.ref (ad 1 0 0), .ref (ad 2 0 0), .ref (ad 3 0 0), .ref (ad 8 0 0), .int (nI (nF σ 2))]) := (px0 hP).2.2
      have r1_31 : f (ad 1 0 0) = .inr (8, [.ref (ad 6 0 0), .ref (ad 7 0 0), .int (nI (nF σ 1)), .int (nI (nF σ 3))]) := (px1 hP).2.2
      refine g_aload_n (n := 1) hX dX7_octet_0 rfl rfl rfl ?_
      refine g_pget (n := 4) ux_X7 rfl hX hU dX7_octet_1 rfl (px0 hP).1 r0_30 0 rfl uf_X7_10 rfl ?_
      refine g_iload_n (n := 5) hX dX7_octet_4 rfl rfl rfl ?_
      refine g_pcallV (n := 8) (As := [.int (nI n)]) (rest := []) hX hE hU hY dX7_octet_5 rfl yv_X6_findClass um_X7_129 (r_findClassY _ _ hP hI hc1 hc2) ⟨rfl, rfl⟩ (rm_le hRm rfl rfl) rfl (px1 hP).1 r1_31 rfl rfl rfl (Nat.le_of_ble_eq_true rfl) ⟨Nat.zero_le _, Nat.zero_le _⟩ (fun v0 w0 hq0 => ?_)
      obtain ⟨rfl, rfl⟩ := hq0
      show G Γ (va_pl L f) 0 0 8 [(0, .ref (ad 0 0 0)), (1, .int (nI n)), (2, .int i)] [.ref (ad 15 n 0)]
      refine g_astore_n (lv' := [(3, .ref (ad 15 n 0)), (0, .ref (ad 0 0 0)), (1, .int (nI n)), (2, .int i)]) (n := 9) hX dX7_octet_8 rfl rfl (by rw [hnL]; rfl) rfl ?_
      refine g_aload_n (n := 10) hX dX7_octet_9 rfl rfl rfl ?_
      refine g_ifnonnull (tgt := 23) hX dX7_octet_10 (by decide) ?_
      refine g_aload_n (n := 24) hX dX7_octet_23 rfl rfl rfl ?_
      refine g_pget (n := 27) ux_X7 rfl hX hU dX7_octet_24 rfl (px0 hP).1 r0_30 2 rfl uf_X7_28 rfl ?_
      refine g_aload_n (n := 28) hX dX7_octet_27 rfl rfl rfl ?_
      refine g_pcallV (n := 31) (As := [.ref (ad 15 n 0)]) (rest := []) hX hE hU hY dX7_octet_28 rfl yv_X0_fileOf um_X7_135 (r_fileOf _ _ hQ hc1 hc2) ⟨rfl, rfl⟩ (rm_le hRm rfl rfl) rfl (px3 hP).1 (px3 hP).2.2 rfl rfl rfl (Nat.le_of_ble_eq_true rfl) (by rw [hRm]; decide) (fun v0 w0 hq0 => ?_)
      obtain ⟨L1, f1, ad1, κ1, g1, rfl, rfl, hfa, he0, hQ1⟩ := hq0
      show G Γ (va_pl L1 f1) 1 2048 31 [(3, .ref (ad 15 n 0)), (0, .ref (ad 0 0 0)), (1, .int (nI n)), (2, .int i)] [.ref (ad1 17 n 0)]
      have h17 := px17 hQ1.1 n hc1 hc2 hfa
      have h18 : f1 (ad1 17 n 0) = .inl (K 0, bs.length, .inl (gfb g1 n)) := by rw [← hbs]; exact h17.2.2
      have hfb := hQ1.2.1.2.2.2 n hc1 hc2 hfa
      rw [hbs] at hfb
      refine g_astore (lv' := [(4, .ref (ad1 17 n 0)), (3, .ref (ad 15 n 0)), (0, .ref (ad 0 0 0)), (1, .int (nI n)), (2, .int i)]) (n := 33) hX dX7_octet_31 rfl (by rw [hnL]; rfl) rfl ?_
      refine g_iload_n (n := 34) hX dX7_octet_33 rfl rfl rfl ?_
      refine g_if_lt (n := 37) (tgt := 44) hX dX7_octet_34 rfl (by decide) (fun c34 => ?_) (fun c34 => absurd h0 c34)
      exact gx_throw (cls := RJx00060) (names := ["java/lang/IndexOutOfBoundsException", "java/lang/RuntimeException", "java/lang/Exception"]) 15 hX hU hst hE hT hR hB rfl fitA namA ul_X7_99 un_Jx00060 atwA atbA gooA dX7_octet_44 dX7_octet_47 dX7_octet_48 dX7_octet_50 dX7_octet_53 (by rw [hRm]; decide) (by rw [hRm]; decide) (by rw [hRm]; decide) (by rw [hRm]; decide) (by decide) (by decide) ⟨rfl, by rw [hS]; rfl, by rw [hS]; exact RW_fB2 hQ1 he0 bs 1 1⟩
    · by_cases h1 : nI bs.length ≤ i
      · have hS : S_octet σ (nI n) i = (0, sF (ap (sF (sF σ 0 1) 29 0) bs) 0 1) := by simp only [S_octet, if_pos hc, ehc, hbs, if_neg h0, if_pos h1]
        have r0_33 : f (ad 0 0 0) = .inr (9, [.ref (ad 1 0 0), .ref (ad 2 0 0), .ref (ad 3 0 0), .ref (ad 8 0 0), .int (nI (nF σ 2))]) := (px0 hP).2.2
        have r1_34 : f (ad 1 0 0) = .inr (8, [.ref (ad 6 0 0), .ref (ad 7 0 0), .int (nI (nF σ 1)), .int (nI (nF σ 3))]) := (px1 hP).2.2
        refine g_aload_n (n := 1) hX dX7_octet_0 rfl rfl rfl ?_
        refine g_pget (n := 4) ux_X7 rfl hX hU dX7_octet_1 rfl (px0 hP).1 r0_33 0 rfl uf_X7_10 rfl ?_
        refine g_iload_n (n := 5) hX dX7_octet_4 rfl rfl rfl ?_
        refine g_pcallV (n := 8) (As := [.int (nI n)]) (rest := []) hX hE hU hY dX7_octet_5 rfl yv_X6_findClass um_X7_129 (r_findClassY _ _ hP hI hc1 hc2) ⟨rfl, rfl⟩ (rm_le hRm rfl rfl) rfl (px1 hP).1 r1_34 rfl rfl rfl (Nat.le_of_ble_eq_true rfl) ⟨Nat.zero_le _, Nat.zero_le _⟩ (fun v0 w0 hq0 => ?_)
        obtain ⟨rfl, rfl⟩ := hq0
        show G Γ (va_pl L f) 0 0 8 [(0, .ref (ad 0 0 0)), (1, .int (nI n)), (2, .int i)] [.ref (ad 15 n 0)]
        refine g_astore_n (lv' := [(3, .ref (ad 15 n 0)), (0, .ref (ad 0 0 0)), (1, .int (nI n)), (2, .int i)]) (n := 9) hX dX7_octet_8 rfl rfl (by rw [hnL]; rfl) rfl ?_
        refine g_aload_n (n := 10) hX dX7_octet_9 rfl rfl rfl ?_
        refine g_ifnonnull (tgt := 23) hX dX7_octet_10 (by decide) ?_
        refine g_aload_n (n := 24) hX dX7_octet_23 rfl rfl rfl ?_
        refine g_pget (n := 27) ux_X7 rfl hX hU dX7_octet_24 rfl (px0 hP).1 r0_33 2 rfl uf_X7_28 rfl ?_
        refine g_aload_n (n := 28) hX dX7_octet_27 rfl rfl rfl ?_
        refine g_pcallV (n := 31) (As := [.ref (ad 15 n 0)]) (rest := []) hX hE hU hY dX7_octet_28 rfl yv_X0_fileOf um_X7_135 (r_fileOf _ _ hQ hc1 hc2) ⟨rfl, rfl⟩ (rm_le hRm rfl rfl) rfl (px3 hP).1 (px3 hP).2.2 rfl rfl rfl (Nat.le_of_ble_eq_true rfl) (by rw [hRm]; decide) (fun v0 w0 hq0 => ?_)
        obtain ⟨L1, f1, ad1, κ1, g1, rfl, rfl, hfa, he0, hQ1⟩ := hq0
        show G Γ (va_pl L1 f1) 1 2048 31 [(3, .ref (ad 15 n 0)), (0, .ref (ad 0 0 0)), (1, .int (nI n)), (2, .int i)] [.ref (ad1 17 n 0)]
        have h17 := px17 hQ1.1 n hc1 hc2 hfa
        have h18 : f1 (ad1 17 n 0) = .inl (K 0, bs.length, .inl (gfb g1 n)) := by rw [← hbs]; exact h17.2.2
        have hfb := hQ1.2.1.2.2.2 n hc1 hc2 hfa
        rw [hbs] at hfb
        refine g_astore (lv' := [(4, .ref (ad1 17 n 0)), (3, .ref (ad 15 n 0)), (0, .ref (ad 0 0 0)), (1, .int (nI n)), (2, .int i)]) (n := 33) hX dX7_octet_31 rfl (by rw [hnL]; rfl) rfl ?_
        refine g_iload_n (n := 34) hX dX7_octet_33 rfl rfl rfl ?_
        refine g_if_lt (n := 37) (tgt := 44) hX dX7_octet_34 rfl (by decide) (fun c34 => absurd c34 h0) (fun c34 => ?_)
        refine g_iload_n (n := 38) hX dX7_octet_37 rfl rfl rfl ?_
        refine g_aload (n := 40) hX dX7_octet_38 rfl rfl ?_
        refine g_palen (n := 41) (t0 := 0) (v := nI (bs.length)) hX hY dX7_octet_40 rfl h17.1 h18 rfl rfl ?_
        refine g_icmp_lt (n := 44) (tgt := 54) hX dX7_octet_41 rfl (by decide) (fun c41 => absurd c41 (Int32.not_lt.mpr h1)) (fun c41 => ?_)
        exact gx_throw (cls := RJx00060) (names := ["java/lang/IndexOutOfBoundsException", "java/lang/RuntimeException", "java/lang/Exception"]) 15 hX hU hst hE hT hR hB rfl fitA namA ul_X7_99 un_Jx00060 atwA atbA gooA dX7_octet_44 dX7_octet_47 dX7_octet_48 dX7_octet_50 dX7_octet_53 (by rw [hRm]; decide) (by rw [hRm]; decide) (by rw [hRm]; decide) (by rw [hRm]; decide) (by decide) (by decide) ⟨rfl, by rw [hS]; rfl, by rw [hS]; exact RW_fB2 hQ1 he0 bs 1 1⟩
      · obtain ⟨j, hj, rfl⟩ := nI_of h0
        have hjb : j < bs.length := (nI_ltI hj (by omega)).mp (Int32.not_le.mp h1)
        have hS : S_octet σ (nI n) (nI j) = ((bs.getD j 0).toInt8.toInt32, sF (ap (sF (sF σ 0 1) 29 0) bs) 0 0) := by simp only [S_octet, if_pos hc, ehc, hbs, if_neg h0, if_neg h1, nI_clamp hj, and255]
        have r0_36 : f (ad 0 0 0) = .inr (9, [.ref (ad 1 0 0), .ref (ad 2 0 0), .ref (ad 3 0 0), .ref (ad 8 0 0), .int (nI (nF σ 2))]) := (px0 hP).2.2
        have r1_37 : f (ad 1 0 0) = .inr (8, [.ref (ad 6 0 0), .ref (ad 7 0 0), .int (nI (nF σ 1)), .int (nI (nF σ 3))]) := (px1 hP).2.2
        refine g_aload_n (n := 1) hX dX7_octet_0 rfl rfl rfl ?_
        refine g_pget (n := 4) ux_X7 rfl hX hU dX7_octet_1 rfl (px0 hP).1 r0_36 0 rfl uf_X7_10 rfl ?_
        refine g_iload_n (n := 5) hX dX7_octet_4 rfl rfl rfl ?_
        refine g_pcallV (n := 8) (As := [.int (nI n)]) (rest := []) hX hE hU hY dX7_octet_5 rfl yv_X6_findClass um_X7_129 (r_findClassY _ _ hP hI hc1 hc2) ⟨rfl, rfl⟩ (rm_le hRm rfl rfl) rfl (px1 hP).1 r1_37 rfl rfl rfl (Nat.le_of_ble_eq_true rfl) ⟨Nat.zero_le _, Nat.zero_le _⟩ (fun v0 w0 hq0 => ?_)
        obtain ⟨rfl, rfl⟩ := hq0
        show G Γ (va_pl L f) 0 0 8 [(0, .ref (ad 0 0 0)), (1, .int (nI n)), (2, .int (nI j))] [.ref (ad 15 n 0)]
        refine g_astore_n (lv' := [(3, .ref (ad 15 n 0)), (0, .ref (ad 0 0 0)), (1, .int (nI n)), (2, .int (nI j))]) (n := 9) hX dX7_octet_8 rfl rfl (by rw [hnL]; rfl) rfl ?_
        refine g_aload_n (n := 10) hX dX7_octet_9 rfl rfl rfl ?_
        refine g_ifnonnull (tgt := 23) hX dX7_octet_10 (by decide) ?_
        refine g_aload_n (n := 24) hX dX7_octet_23 rfl rfl rfl ?_
        refine g_pget (n := 27) ux_X7 rfl hX hU dX7_octet_24 rfl (px0 hP).1 r0_36 2 rfl uf_X7_28 rfl ?_
        refine g_aload_n (n := 28) hX dX7_octet_27 rfl rfl rfl ?_
        refine g_pcallV (n := 31) (As := [.ref (ad 15 n 0)]) (rest := []) hX hE hU hY dX7_octet_28 rfl yv_X0_fileOf um_X7_135 (r_fileOf _ _ hQ hc1 hc2) ⟨rfl, rfl⟩ (rm_le hRm rfl rfl) rfl (px3 hP).1 (px3 hP).2.2 rfl rfl rfl (Nat.le_of_ble_eq_true rfl) (by rw [hRm]; decide) (fun v0 w0 hq0 => ?_)
        obtain ⟨L1, f1, ad1, κ1, g1, rfl, rfl, hfa, he0, hQ1⟩ := hq0
        show G Γ (va_pl L1 f1) 1 2048 31 [(3, .ref (ad 15 n 0)), (0, .ref (ad 0 0 0)), (1, .int (nI n)), (2, .int (nI j))] [.ref (ad1 17 n 0)]
        have h17 := px17 hQ1.1 n hc1 hc2 hfa
        have h18 : f1 (ad1 17 n 0) = .inl (K 0, bs.length, .inl (gfb g1 n)) := by rw [← hbs]; exact h17.2.2
        have hfb := hQ1.2.1.2.2.2 n hc1 hc2 hfa
        rw [hbs] at hfb
        refine g_astore (lv' := [(4, .ref (ad1 17 n 0)), (3, .ref (ad 15 n 0)), (0, .ref (ad 0 0 0)), (1, .int (nI n)), (2, .int (nI j))]) (n := 33) hX dX7_octet_31 rfl (by rw [hnL]; rfl) rfl ?_
        refine g_iload_n (n := 34) hX dX7_octet_33 rfl rfl rfl ?_
        refine g_if_lt (n := 37) (tgt := 44) hX dX7_octet_34 rfl (by decide) (fun c34 => absurd c34 h0) (fun c34 => ?_)
        refine g_iload_n (n := 38) hX dX7_octet_37 rfl rfl rfl ?_
        refine g_aload (n := 40) hX dX7_octet_38 rfl rfl ?_
        refine g_palen (n := 41) (t0 := 0) (v := nI (bs.length)) hX hY dX7_octet_40 rfl h17.1 h18 rfl rfl ?_
        refine g_icmp_lt (n := 44) (tgt := 54) hX dX7_octet_41 rfl (by decide) (fun c41 => ?_) (fun c41 => absurd (Int32.not_le.mp h1) c41)
        refine g_aload (n := 56) hX dX7_octet_54 rfl rfl ?_
        refine g_iload_n (n := 57) hX dX7_octet_56 rfl rfl rfl ?_
        refine g_pbld (n := 58) (v := (bs.getD j 0).toInt8.toInt32) hX hY dX7_octet_57 rfl h17.1 h18 (vp_in_nI hjb (by omega)) (by rw [nI_clamp hj]; exact hfb j hjb) ?_
        refine g_widen (kc' := 2) (ks' := 2054) (Nat.le_of_ble_eq_true rfl) (Nat.le_of_ble_eq_true rfl) ?_
        exact gx_zret hX hR dX7_octet_58 (pk_nb _) ⟨by rw [hS]; rfl, by rw [hS], by rw [hS]; exact RW_fB2 hQ1 he0 bs 1 0⟩
  · have hS : S_octet σ c i = (0, sF σ 0 1) := by simp only [S_octet, if_neg hc]
    have r0_39 : f (ad 0 0 0) = .inr (9, [.ref (ad 1 0 0), .ref (ad 2 0 0), .ref (ad 3 0 0), .ref (ad 8 0 0), .int (nI (nF σ 2))]) := (px0 hP).2.2
    have r1_40 : f (ad 1 0 0) = .inr (8, [.ref (ad 6 0 0), .ref (ad 7 0 0), .int (nI (nF σ 1)), .int (nI (nF σ 3))]) := (px1 hP).2.2
    refine g_aload_n (n := 1) hX dX7_octet_0 rfl rfl rfl ?_
    refine g_pget (n := 4) ux_X7 rfl hX hU dX7_octet_1 rfl (px0 hP).1 r0_39 0 rfl uf_X7_10 rfl ?_
    refine g_iload_n (n := 5) hX dX7_octet_4 rfl rfl rfl ?_
    refine g_pcallV (n := 8) (As := [.int c]) (rest := []) hX hE hU hY dX7_octet_5 rfl yv_X6_findClass um_X7_129 (r_findClassN _ _ hP hI hc) ⟨rfl, rfl⟩ (rm_le hRm rfl rfl) rfl (px1 hP).1 r1_40 rfl rfl rfl (Nat.le_of_ble_eq_true rfl) ⟨Nat.zero_le _, Nat.zero_le _⟩ (fun v0 w0 hq0 => ?_)
    obtain ⟨rfl, rfl⟩ := hq0
    show G Γ (va_pl L f) 0 0 8 [(0, .ref (ad 0 0 0)), (1, .int c), (2, .int i)] [.null]
    refine g_astore_nN (lv' := [(3, .null), (0, .ref (ad 0 0 0)), (1, .int c), (2, .int i)]) (n := 9) hX dX7_octet_8 rfl rfl (by rw [hnL]; rfl) rfl ?_
    refine g_aload_nN (n := 10) hX dX7_octet_9 rfl rfl rfl ?_
    refine g_ifnonnullN (n := 13) hX dX7_octet_10 rfl ?_
    exact gx_throw (cls := RJx00060) (names := ["java/lang/IndexOutOfBoundsException", "java/lang/RuntimeException", "java/lang/Exception"]) 14 hX hU hst hE hT hR hB rfl fitA namA ul_X7_99 un_Jx00060 atwA atbA gooA dX7_octet_13 dX7_octet_16 dX7_octet_17 dX7_octet_19 dX7_octet_22 (by rw [hRm]; decide) (by rw [hRm]; decide) (by rw [hRm]; decide) (by rw [hRm]; decide) (by decide) (by decide) ⟨rfl, by rw [hS]; rfl, by rw [hS]; exact RW_rd hQ (cor_F0 σ 1)⟩

