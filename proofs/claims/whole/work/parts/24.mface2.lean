set_option maxHeartbeats 4000000 in
set_option maxRecDepth 100000 in
theorem m_latestOf (l : Launch) (D : va_G) (K : Nat → ClassId) (am : Nat) (A : Nat → Nat) (σ : MS) (u p : Nat) (hu : u ≤ 8) (hp : p ≤ 12) : Mc l yX8_latestOf (wM yX8_latestOf cX8_latestOf 3 (some .int)) (rmL 0 0 0) D (yY K) [.ref am, .int (nI u), .int (nI p)] (mW K am A σ) (fun v w => v = some (.int (σ.1 14 (13 * u + p))) ∧ w = mW K am A σ) 0 0 := by
  refine m_start (lv := [(0, .ref am), (1, .int (nI u)), (2, .int (nI p))]) rfl (Nat.le_of_ble_eq_true rfl) rfl (fun Γ hX hRm hnL hY hDD hLa hR hI hE => ?_)
  have hU : ∀ w ∈ wU, w ∈ wM yX8_latestOf cX8_latestOf 3 (some .int) := fun w h => wM_in h
  subst hLa
  subst hDD
  refine g_aload_n (n := 1) hX dX8_latestOf_0 rfl rfl rfl ?_
  refine g_mget (n := 4) 18 (v := .ref (A 14)) hX hU dX8_latestOf_1 rfl uf_X8_53 rfl rfl rfl ?_
  refine g_bipush (n := 6) (v := 13) hX dX8_latestOf_4 rfl rfl ?_
  refine g_iload_n (n := 7) hX dX8_latestOf_6 rfl rfl rfl ?_
  refine g_imul (n := 8) (v := nI (13 * u)) hX dX8_latestOf_7 rfl (pk_mul (13) (u)) ?_
  refine g_iload_n (n := 9) hX dX8_latestOf_8 rfl rfl rfl ?_
  refine g_iadd (n := 10) (v := nI (13 * u + p)) hX dX8_latestOf_9 rfl (nI_add (13 * u) (p)) ?_
  refine g_mild (n := 11) 14 (v := σ.1 14 (13 * u + p)) hX hY dX8_latestOf_10 rfl rfl rfl (vp_in_nI (show 13 * u + p < mN 14 by show 13 * u + p < 130; omega) (by decide)) (by rw [nI_clamp (by omega)] <;> rfl) ?_
  exact g_iret hX hR dX8_latestOf_11 ⟨rfl, rfl⟩

set_option maxHeartbeats 4000000 in
set_option maxRecDepth 100000 in
theorem m_code (l : Launch) (D : va_G) (K : Nat → ClassId) (am : Nat) (A : Nat → Nat) (σ : MS) (pp o a b : Int32) (hg : rg σ) : Mc l yX8_code (wM yX8_code cX8_code 6 (some .int)) (rmL 2 0 0) D (yY K) [.ref am, .int pp, .int o, .int a, .int b] (mW K am A σ) (fun v w => v = some (.int (S_code σ pp o a b).1) ∧ w = mW K am A (S_code σ pp o a b).2) 0 0 := by
  refine m_start (lv := [(0, .ref am), (1, .int pp), (2, .int o), (3, .int a), (4, .int b)]) rfl (Nat.le_of_ble_eq_true rfl) rfl (fun Γ hX hRm hnL hY hDD hLa hR hI hE => ?_)
  have hU : ∀ w ∈ wU, w ∈ wM yX8_code cX8_code 6 (some .int) := fun w h => wM_in h
  subst hLa
  subst hDD
  obtain ⟨np, hnp, hnp2⟩ := hg.1
  by_cases hP : 1 ≤ pp ∧ pp ≤ σ.2 1
  · obtain ⟨p, rfl, hp1, hp2, -, -⟩ := in1 hg.1 (by decide) hP
    obtain ⟨rw0, hrw, hrw2⟩ := hg.2.2.2.2.1 p hp2
    have ecl : (nI p).toNatClampNeg = p := nI_clamp (by omega)
    have enr : nA σ 1 p = rw0 := nA_of hrw (by omega)
    by_cases h60 : rw0 = 60
    · refine g_aload_n (n := 1) hX dX8_code_0 rfl rfl rfl ?_
      refine g_iconst (n := 2) (v := 0) hX dX8_code_1 rfl rfl ?_
      refine g_mput (n := 5) 0 hX hU dX8_code_2 rfl uf_X8_87 rfl rfl rfl rfl rfl ?_
      refine g_aload_n (n := 6) hX dX8_code_5 rfl rfl rfl ?_
      refine g_iload_n (n := 7) hX dX8_code_6 rfl rfl rfl ?_
      refine g_callV0 (n := 10) (As := [.int (nI p)]) (rest := []) hX hE hU hY dX8_code_7 rfl yv_X8_isProgram um_X8_101 (m_isProgram _ _ K am A (sF σ 0 0) (nI p)) ⟨rfl, rfl⟩ (rm_le hRm rfl rfl) rfl (ci := 10) (q0 := 0) rfl rfl rfl rfl (Nat.le_of_ble_eq_true rfl) ⟨Nat.zero_le _, Nat.zero_le _⟩ (fun v0 w0 hq0 => ?_)
      obtain ⟨rfl, rfl⟩ := hq0
      show G Γ (mW K am A (sF σ 0 0)) 0 0 10 [(0, .ref am), (1, .int (nI p)), (2, .int o), (3, .int a), (4, .int b)] [.int (bI (1 ≤ (nI p) ∧ (nI p) ≤ σ.2 1))]
      refine g_if_ne (n := 13) (tgt := 16) hX dX8_code_10 rfl (by decide) (fun c10 => ?_) (fun c10 => absurd c10 (fun h9 => bI_z.mp h9 hP))
      refine g_aload_n (n := 17) hX dX8_code_16 rfl rfl rfl ?_
      refine g_iload_n (n := 18) hX dX8_code_17 rfl rfl rfl ?_
      refine g_iload_n (n := 19) hX dX8_code_18 rfl rfl rfl ?_
      refine g_iload_n (n := 20) hX dX8_code_19 rfl rfl rfl ?_
      refine g_iload (n := 22) hX dX8_code_20 rfl rfl ?_
      refine g_callV0 (n := 25) (As := [.int (nI p), .int o, .int a, .int b]) (rest := []) hX hE hU hY dX8_code_22 rfl yv_X8_isRow um_X8_105 (m_isRow _ _ K am A (sF σ 0 0) p o a b (by omega)) ⟨rfl, rfl⟩ (rm_le hRm rfl rfl) rfl (ci := 10) (q0 := 0) rfl rfl rfl rfl (Nat.le_of_ble_eq_true rfl) ⟨Nat.zero_le _, Nat.zero_le _⟩ (fun v0 w0 hq0 => ?_)
      obtain ⟨rfl, rfl⟩ := hq0
      show G Γ (mW K am A (sF σ 0 0)) 0 0 25 [(0, .ref am), (1, .int (nI p)), (2, .int o), (3, .int a), (4, .int b)] [.int (okB (σ.1 0 p) o a b)]
      refine g_if_ne (n := 28) (tgt := 31) hX dX8_code_25 rfl (by decide) (fun c25 => ?_) (fun c25 => ?_)
      · refine g_aload_n (n := 32) hX dX8_code_31 rfl rfl rfl ?_
        refine g_mget (n := 35) 5 (v := .ref (A 1)) hX hU dX8_code_32 rfl uf_X8_13 rfl rfl rfl ?_
        refine g_iload_n (n := 36) hX dX8_code_35 rfl rfl rfl ?_
        refine g_mild (n := 37) 1 (v := nI rw0) hX hY dX8_code_36 rfl rfl rfl (vp_in_nI (show p < mN 1 by show p < 13; omega) (by decide)) (by rw [nI_clamp (by omega)]; exact hrw) ?_
        refine g_bipush (n := 39) (v := 60) hX dX8_code_37 rfl rfl ?_
        refine g_icmp_ne (n := 42) (tgt := 44) hX dX8_code_39 rfl (by decide) (fun c39 => absurd (by rw [h60] <;> rfl) c39) (fun c39 => ?_)
        refine g_iconst (n := 43) (v := (-1)) hX dX8_code_42 rfl rfl ?_
        exact g_iret hX hR dX8_code_43 (by rw [S_code, if_pos hP, ecl, enr, if_neg c25, if_pos h60]; exact ⟨rfl, rfl⟩)
      · refine g_bipush (n := 30) (v := (-4)) hX dX8_code_28 rfl rfl ?_
        exact g_iret hX hR dX8_code_30 (by rw [S_code, if_pos hP, ecl, enr, if_pos c25]; exact ⟨rfl, rfl⟩)
    · refine g_aload_n (n := 1) hX dX8_code_0 rfl rfl rfl ?_
      refine g_iconst (n := 2) (v := 0) hX dX8_code_1 rfl rfl ?_
      refine g_mput (n := 5) 0 hX hU dX8_code_2 rfl uf_X8_87 rfl rfl rfl rfl rfl ?_
      refine g_aload_n (n := 6) hX dX8_code_5 rfl rfl rfl ?_
      refine g_iload_n (n := 7) hX dX8_code_6 rfl rfl rfl ?_
      refine g_callV0 (n := 10) (As := [.int (nI p)]) (rest := []) hX hE hU hY dX8_code_7 rfl yv_X8_isProgram um_X8_101 (m_isProgram _ _ K am A (sF σ 0 0) (nI p)) ⟨rfl, rfl⟩ (rm_le hRm rfl rfl) rfl (ci := 10) (q0 := 0) rfl rfl rfl rfl (Nat.le_of_ble_eq_true rfl) ⟨Nat.zero_le _, Nat.zero_le _⟩ (fun v0 w0 hq0 => ?_)
      obtain ⟨rfl, rfl⟩ := hq0
      show G Γ (mW K am A (sF σ 0 0)) 0 0 10 [(0, .ref am), (1, .int (nI p)), (2, .int o), (3, .int a), (4, .int b)] [.int (bI (1 ≤ (nI p) ∧ (nI p) ≤ σ.2 1))]
      refine g_if_ne (n := 13) (tgt := 16) hX dX8_code_10 rfl (by decide) (fun c10 => ?_) (fun c10 => absurd c10 (fun h9 => bI_z.mp h9 hP))
      refine g_aload_n (n := 17) hX dX8_code_16 rfl rfl rfl ?_
      refine g_iload_n (n := 18) hX dX8_code_17 rfl rfl rfl ?_
      refine g_iload_n (n := 19) hX dX8_code_18 rfl rfl rfl ?_
      refine g_iload_n (n := 20) hX dX8_code_19 rfl rfl rfl ?_
      refine g_iload (n := 22) hX dX8_code_20 rfl rfl ?_
      refine g_callV0 (n := 25) (As := [.int (nI p), .int o, .int a, .int b]) (rest := []) hX hE hU hY dX8_code_22 rfl yv_X8_isRow um_X8_105 (m_isRow _ _ K am A (sF σ 0 0) p o a b (by omega)) ⟨rfl, rfl⟩ (rm_le hRm rfl rfl) rfl (ci := 10) (q0 := 0) rfl rfl rfl rfl (Nat.le_of_ble_eq_true rfl) ⟨Nat.zero_le _, Nat.zero_le _⟩ (fun v0 w0 hq0 => ?_)
      obtain ⟨rfl, rfl⟩ := hq0
      show G Γ (mW K am A (sF σ 0 0)) 0 0 25 [(0, .ref am), (1, .int (nI p)), (2, .int o), (3, .int a), (4, .int b)] [.int (okB (σ.1 0 p) o a b)]
      refine g_if_ne (n := 28) (tgt := 31) hX dX8_code_25 rfl (by decide) (fun c25 => ?_) (fun c25 => ?_)
      · refine g_aload_n (n := 32) hX dX8_code_31 rfl rfl rfl ?_
        refine g_mget (n := 35) 5 (v := .ref (A 1)) hX hU dX8_code_32 rfl uf_X8_13 rfl rfl rfl ?_
        refine g_iload_n (n := 36) hX dX8_code_35 rfl rfl rfl ?_
        refine g_mild (n := 37) 1 (v := nI rw0) hX hY dX8_code_36 rfl rfl rfl (vp_in_nI (show p < mN 1 by show p < 13; omega) (by decide)) (by rw [nI_clamp (by omega)]; exact hrw) ?_
        refine g_bipush (n := 39) (v := 60) hX dX8_code_37 rfl rfl ?_
        refine g_icmp_ne (n := 42) (tgt := 44) hX dX8_code_39 rfl (by decide) (fun c39 => ?_) (fun c39 => absurd c39 (fun h9 => h60 ((nI_eq (by omega) (by decide)).mp (h9 : nI rw0 = nI 60))))
        refine g_aload_n (n := 45) hX dX8_code_44 rfl rfl rfl ?_
        refine g_mget (n := 48) 5 (v := .ref (A 1)) hX hU dX8_code_45 rfl uf_X8_13 rfl rfl rfl ?_
        refine g_iload_n (n := 49) hX dX8_code_48 rfl rfl rfl ?_
        refine g_dup2 (n := 50) hX dX8_code_49 rfl rfl rfl ?_
        refine g_mild (n := 51) 1 (v := nI rw0) hX hY dX8_code_50 rfl rfl rfl (vp_in_nI (show p < mN 1 by show p < 13; omega) (by decide)) (by rw [nI_clamp (by omega)]; exact hrw) ?_
        refine g_iconst (n := 52) (v := 1) hX dX8_code_51 rfl rfl ?_
        refine g_iadd (n := 53) (v := nI (rw0 + 1)) hX dX8_code_52 rfl (nI_add (rw0) (1)) ?_
        refine g_mist (n := 54) 1 (i0 := p) hX hY dX8_code_53 rfl rfl rfl (vp_in_nI (show p < mN 1 by show p < 13; omega) (by decide)) (nI_clamp (by omega)) ?_
        refine g_bipush (n := 56) (v := 60) hX dX8_code_54 rfl rfl ?_
        refine g_iload_n (n := 57) hX dX8_code_56 rfl rfl rfl ?_
        refine g_imul (n := 58) (v := nI (60 * p)) hX dX8_code_57 rfl (pk_mul (60) (p)) ?_
        refine g_aload_n (n := 59) hX dX8_code_58 rfl rfl rfl ?_
        refine g_mget (n := 62) 5 (v := .ref (A 1)) hX hU dX8_code_59 rfl uf_X8_13 rfl rfl rfl ?_
        refine g_iload_n (n := 63) hX dX8_code_62 rfl rfl rfl ?_
        refine g_mild (n := 64) 1 (v := nI (rw0 + 1)) hX hY dX8_code_63 rfl rfl rfl (vp_in_nI (show p < mN 1 by show p < 13; omega) (by decide)) (by rw [nI_clamp (by omega)]; exact pk_us) ?_
        refine g_iadd (n := 65) (v := nI (60 * p + rw0 + 1)) hX dX8_code_64 rfl (nI_add (60 * p) (rw0 + 1)) ?_
        refine g_istore (lv' := [(5, .int (nI (60 * p + rw0 + 1))), (0, .ref am), (1, .int (nI p)), (2, .int o), (3, .int a), (4, .int b)]) (n := 67) hX dX8_code_65 rfl (by rw [hnL]; rfl) rfl ?_
        refine g_aload_n (n := 68) hX dX8_code_67 rfl rfl rfl ?_
        refine g_mget (n := 71) 6 (v := .ref (A 2)) hX hU dX8_code_68 rfl uf_X8_16 rfl rfl rfl ?_
        refine g_iload (n := 73) hX dX8_code_71 rfl rfl ?_
        refine g_iload_n (n := 74) hX dX8_code_73 rfl rfl rfl ?_
        refine g_mist (n := 75) 2 (i0 := 60 * p + rw0 + 1) hX hY dX8_code_74 rfl rfl rfl (vp_in_nI (show 60 * p + rw0 + 1 < mN 2 by show 60 * p + rw0 + 1 < 793; omega) (by decide)) (nI_clamp (by omega)) ?_
        refine g_aload_n (n := 76) hX dX8_code_75 rfl rfl rfl ?_
        refine g_mget (n := 79) 7 (v := .ref (A 3)) hX hU dX8_code_76 rfl uf_X8_19 rfl rfl rfl ?_
        refine g_iload (n := 81) hX dX8_code_79 rfl rfl ?_
        refine g_iload_n (n := 82) hX dX8_code_81 rfl rfl rfl ?_
        refine g_mist (n := 83) 3 (i0 := 60 * p + rw0 + 1) hX hY dX8_code_82 rfl rfl rfl (vp_in_nI (show 60 * p + rw0 + 1 < mN 3 by show 60 * p + rw0 + 1 < 793; omega) (by decide)) (nI_clamp (by omega)) ?_
        refine g_aload_n (n := 84) hX dX8_code_83 rfl rfl rfl ?_
        refine g_mget (n := 87) 8 (v := .ref (A 4)) hX hU dX8_code_84 rfl uf_X8_22 rfl rfl rfl ?_
        refine g_iload (n := 89) hX dX8_code_87 rfl rfl ?_
        refine g_iload (n := 91) hX dX8_code_89 rfl rfl ?_
        refine g_mist (n := 92) 4 (i0 := 60 * p + rw0 + 1) hX hY dX8_code_91 rfl rfl rfl (vp_in_nI (show 60 * p + rw0 + 1 < mN 4 by show 60 * p + rw0 + 1 < 793; omega) (by decide)) (nI_clamp (by omega)) ?_
        refine g_aload_n (n := 93) hX dX8_code_92 rfl rfl rfl ?_
        refine g_mget (n := 96) 5 (v := .ref (A 1)) hX hU dX8_code_93 rfl uf_X8_13 rfl rfl rfl ?_
        refine g_iload_n (n := 97) hX dX8_code_96 rfl rfl rfl ?_
        refine g_mild (n := 98) 1 (v := nI (rw0 + 1)) hX hY dX8_code_97 rfl rfl rfl (vp_in_nI (show p < mN 1 by show p < 13; omega) (by decide)) (by rw [nI_clamp (by omega)]; exact pk_us) ?_
        exact g_iret hX hR dX8_code_98 (by rw [S_code, if_pos hP, ecl, enr, if_neg c25, if_neg h60]; exact ⟨rfl, rfl⟩)
      · refine g_bipush (n := 30) (v := (-4)) hX dX8_code_28 rfl rfl ?_
        exact g_iret hX hR dX8_code_30 (by rw [S_code, if_pos hP, ecl, enr, if_pos c25]; exact ⟨rfl, rfl⟩)
  · refine g_aload_n (n := 1) hX dX8_code_0 rfl rfl rfl ?_
    refine g_iconst (n := 2) (v := 0) hX dX8_code_1 rfl rfl ?_
    refine g_mput (n := 5) 0 hX hU dX8_code_2 rfl uf_X8_87 rfl rfl rfl rfl rfl ?_
    refine g_aload_n (n := 6) hX dX8_code_5 rfl rfl rfl ?_
    refine g_iload_n (n := 7) hX dX8_code_6 rfl rfl rfl ?_
    refine g_callV0 (n := 10) (As := [.int pp]) (rest := []) hX hE hU hY dX8_code_7 rfl yv_X8_isProgram um_X8_101 (m_isProgram _ _ K am A (sF σ 0 0) pp) ⟨rfl, rfl⟩ (rm_le hRm rfl rfl) rfl (ci := 10) (q0 := 0) rfl rfl rfl rfl (Nat.le_of_ble_eq_true rfl) ⟨Nat.zero_le _, Nat.zero_le _⟩ (fun v0 w0 hq0 => ?_)
    obtain ⟨rfl, rfl⟩ := hq0
    show G Γ (mW K am A (sF σ 0 0)) 0 0 10 [(0, .ref am), (1, .int pp), (2, .int o), (3, .int a), (4, .int b)] [.int (bI (1 ≤ pp ∧ pp ≤ σ.2 1))]
    refine g_if_ne (n := 13) (tgt := 16) hX dX8_code_10 rfl (by decide) (fun c10 => absurd (bI_z.mpr hP) c10) (fun c10 => ?_)
    refine g_bipush (n := 15) (v := (-2)) hX dX8_code_13 rfl rfl ?_
    exact g_iret hX hR dX8_code_15 (by rw [S_code, if_neg hP]; exact ⟨rfl, rfl⟩)

set_option maxHeartbeats 4000000 in
set_option maxRecDepth 100000 in
theorem m_made (l : Launch) (D : va_G) (K : Nat → ClassId) (am : Nat) (A : Nat → Nat) (σ : MS) (u p : Nat) (hg : rg σ) (hu : u ≤ 8) (hp : p ≤ 12) : Mc l yX8_made (wM yX8_made cX8_made 4 (some .int)) (rmL 1 0 0) D (yY K) [.ref am, .int (nI u), .int (nI p)] (mW K am A σ) (fun v w => v = some (.int (S_made σ u p).1) ∧ w = mW K am A (S_made σ u p).2) 0 0 := by
  refine m_start (lv := [(0, .ref am), (1, .int (nI u)), (2, .int (nI p))]) rfl (Nat.le_of_ble_eq_true rfl) rfl (fun Γ hX hRm hnL hY hDD hLa hR hI hE => ?_)
  have hU : ∀ w ∈ wU, w ∈ wM yX8_made cX8_made 4 (some .int) := fun w h => wM_in h
  subst hLa
  subst hDD
  obtain ⟨nc, hnc, hnc2⟩ := hg.2.2.1
  obtain ⟨rw0, hrw, hrw2⟩ := hg.2.2.2.2.1 p (by omega)
  obtain ⟨old, hold, hold2⟩ := hg.2.2.2.2.2.2.1 (13 * u + p) (by omega)
  have eold : nA σ 14 (13 * u + p) = old := nA_of hold (by omega)
  have enc : nF σ 3 = nc := nF_of hnc (by omega)
  have hpos : ∀ h : 0 < old, ¬ nI old ≤ 0 := fun h => nI_nle h (by omega)
  have hzero : ∀ h : ¬ 0 < old, nI old ≤ 0 := fun h => by rw [show old = 0 by omega]; decide
  by_cases h0 : 0 < old
  · by_cases heq : σ.1 8 old = σ.1 1 p
    · refine g_aload_n (n := 1) hX dX8_made_0 rfl rfl rfl ?_
      refine g_iload_n (n := 2) hX dX8_made_1 rfl rfl rfl ?_
      refine g_iload_n (n := 3) hX dX8_made_2 rfl rfl rfl ?_
      refine g_callV0 (n := 6) (As := [.int (nI u), .int (nI p)]) (rest := []) hX hE hU hY dX8_made_3 rfl yv_X8_latestOf um_X8_109 (m_latestOf _ _ K am A σ u p (by omega) (by omega)) ⟨rfl, rfl⟩ (rm_le hRm rfl rfl) rfl (ci := 10) (q0 := 0) rfl rfl rfl rfl (Nat.le_of_ble_eq_true rfl) ⟨Nat.zero_le _, Nat.zero_le _⟩ (fun v0 w0 hq0 => ?_)
      rw [show σ.1 14 (13 * u + p) = nI old from hold] at hq0; obtain ⟨rfl, rfl⟩ := hq0
      show G Γ (mW K am A σ) 0 0 6 [(0, .ref am), (1, .int (nI u)), (2, .int (nI p))] [.int (nI old)]
      refine g_istore_n (lv' := [(3, .int (nI old)), (0, .ref am), (1, .int (nI u)), (2, .int (nI p))]) (n := 7) hX dX8_made_6 rfl rfl (by rw [hnL]; rfl) rfl ?_
      refine g_iload_n (n := 8) hX dX8_made_7 rfl rfl rfl ?_
      refine g_if_le (n := 11) (tgt := 28) hX dX8_made_8 rfl (by decide) (fun c8 => absurd c8 (hpos h0)) (fun c8 => ?_)
      refine g_aload_n (n := 12) hX dX8_made_11 rfl rfl rfl ?_
      refine g_mget (n := 15) 12 (v := .ref (A 8)) hX hU dX8_made_12 rfl uf_X8_35 rfl rfl rfl ?_
      refine g_iload_n (n := 16) hX dX8_made_15 rfl rfl rfl ?_
      refine g_mild (n := 17) 8 (v := σ.1 8 old) hX hY dX8_made_16 rfl rfl rfl (vp_in_nI (show old < mN 8 by show old < 41; omega) (by decide)) (by rw [nI_clamp (by omega)] <;> rfl) ?_
      refine g_aload_n (n := 18) hX dX8_made_17 rfl rfl rfl ?_
      refine g_mget (n := 21) 5 (v := .ref (A 1)) hX hU dX8_made_18 rfl uf_X8_13 rfl rfl rfl ?_
      refine g_iload_n (n := 22) hX dX8_made_21 rfl rfl rfl ?_
      refine g_mild (n := 23) 1 (v := σ.1 1 p) hX hY dX8_made_22 rfl rfl rfl (vp_in_nI (show p < mN 1 by show p < 13; omega) (by decide)) (by rw [nI_clamp (by omega)] <;> rfl) ?_
      refine g_icmp_ne (n := 26) (tgt := 28) hX dX8_made_23 rfl (by decide) (fun c23 => absurd heq c23) (fun c23 => ?_)
      refine g_iload_n (n := 27) hX dX8_made_26 rfl rfl rfl ?_
      exact g_iret hX hR dX8_made_27 (by rw [S_made, eold, enc, if_pos ⟨h0, heq⟩]; exact ⟨rfl, rfl⟩)
    · by_cases h40 : nc = 40
      · refine g_aload_n (n := 1) hX dX8_made_0 rfl rfl rfl ?_
        refine g_iload_n (n := 2) hX dX8_made_1 rfl rfl rfl ?_
        refine g_iload_n (n := 3) hX dX8_made_2 rfl rfl rfl ?_
        refine g_callV0 (n := 6) (As := [.int (nI u), .int (nI p)]) (rest := []) hX hE hU hY dX8_made_3 rfl yv_X8_latestOf um_X8_109 (m_latestOf _ _ K am A σ u p (by omega) (by omega)) ⟨rfl, rfl⟩ (rm_le hRm rfl rfl) rfl (ci := 10) (q0 := 0) rfl rfl rfl rfl (Nat.le_of_ble_eq_true rfl) ⟨Nat.zero_le _, Nat.zero_le _⟩ (fun v0 w0 hq0 => ?_)
        rw [show σ.1 14 (13 * u + p) = nI old from hold] at hq0; obtain ⟨rfl, rfl⟩ := hq0
        show G Γ (mW K am A σ) 0 0 6 [(0, .ref am), (1, .int (nI u)), (2, .int (nI p))] [.int (nI old)]
        refine g_istore_n (lv' := [(3, .int (nI old)), (0, .ref am), (1, .int (nI u)), (2, .int (nI p))]) (n := 7) hX dX8_made_6 rfl rfl (by rw [hnL]; rfl) rfl ?_
        refine g_iload_n (n := 8) hX dX8_made_7 rfl rfl rfl ?_
        refine g_if_le (n := 11) (tgt := 28) hX dX8_made_8 rfl (by decide) (fun c8 => absurd c8 (hpos h0)) (fun c8 => ?_)
        refine g_aload_n (n := 12) hX dX8_made_11 rfl rfl rfl ?_
        refine g_mget (n := 15) 12 (v := .ref (A 8)) hX hU dX8_made_12 rfl uf_X8_35 rfl rfl rfl ?_
        refine g_iload_n (n := 16) hX dX8_made_15 rfl rfl rfl ?_
        refine g_mild (n := 17) 8 (v := σ.1 8 old) hX hY dX8_made_16 rfl rfl rfl (vp_in_nI (show old < mN 8 by show old < 41; omega) (by decide)) (by rw [nI_clamp (by omega)] <;> rfl) ?_
        refine g_aload_n (n := 18) hX dX8_made_17 rfl rfl rfl ?_
        refine g_mget (n := 21) 5 (v := .ref (A 1)) hX hU dX8_made_18 rfl uf_X8_13 rfl rfl rfl ?_
        refine g_iload_n (n := 22) hX dX8_made_21 rfl rfl rfl ?_
        refine g_mild (n := 23) 1 (v := σ.1 1 p) hX hY dX8_made_22 rfl rfl rfl (vp_in_nI (show p < mN 1 by show p < 13; omega) (by decide)) (by rw [nI_clamp (by omega)] <;> rfl) ?_
        refine g_icmp_ne (n := 26) (tgt := 28) hX dX8_made_23 rfl (by decide) (fun c23 => ?_) (fun c23 => absurd c23 heq)
        refine g_aload_n (n := 29) hX dX8_made_28 rfl rfl rfl ?_
        refine g_mget (n := 32) 3 (v := .int (nI nc)) hX hU dX8_made_29 rfl uf_X8_113 rfl rfl (congrArg (fun z => some (Value.int z)) hnc) ?_
        refine g_bipush (n := 34) (v := 40) hX dX8_made_32 rfl rfl ?_
        refine g_icmp_ne (n := 37) (tgt := 39) hX dX8_made_34 rfl (by decide) (fun c34 => absurd (by rw [h40] <;> rfl) c34) (fun c34 => ?_)
        refine g_iconst (n := 38) (v := (-1)) hX dX8_made_37 rfl rfl ?_
        exact g_iret hX hR dX8_made_38 (by rw [S_made, eold, enc, if_neg (fun h9 => heq h9.2), if_pos h40]; exact ⟨rfl, rfl⟩)
      · refine g_aload_n (n := 1) hX dX8_made_0 rfl rfl rfl ?_
        refine g_iload_n (n := 2) hX dX8_made_1 rfl rfl rfl ?_
        refine g_iload_n (n := 3) hX dX8_made_2 rfl rfl rfl ?_
        refine g_callV0 (n := 6) (As := [.int (nI u), .int (nI p)]) (rest := []) hX hE hU hY dX8_made_3 rfl yv_X8_latestOf um_X8_109 (m_latestOf _ _ K am A σ u p (by omega) (by omega)) ⟨rfl, rfl⟩ (rm_le hRm rfl rfl) rfl (ci := 10) (q0 := 0) rfl rfl rfl rfl (Nat.le_of_ble_eq_true rfl) ⟨Nat.zero_le _, Nat.zero_le _⟩ (fun v0 w0 hq0 => ?_)
        rw [show σ.1 14 (13 * u + p) = nI old from hold] at hq0; obtain ⟨rfl, rfl⟩ := hq0
        show G Γ (mW K am A σ) 0 0 6 [(0, .ref am), (1, .int (nI u)), (2, .int (nI p))] [.int (nI old)]
        refine g_istore_n (lv' := [(3, .int (nI old)), (0, .ref am), (1, .int (nI u)), (2, .int (nI p))]) (n := 7) hX dX8_made_6 rfl rfl (by rw [hnL]; rfl) rfl ?_
        refine g_iload_n (n := 8) hX dX8_made_7 rfl rfl rfl ?_
        refine g_if_le (n := 11) (tgt := 28) hX dX8_made_8 rfl (by decide) (fun c8 => absurd c8 (hpos h0)) (fun c8 => ?_)
        refine g_aload_n (n := 12) hX dX8_made_11 rfl rfl rfl ?_
        refine g_mget (n := 15) 12 (v := .ref (A 8)) hX hU dX8_made_12 rfl uf_X8_35 rfl rfl rfl ?_
        refine g_iload_n (n := 16) hX dX8_made_15 rfl rfl rfl ?_
        refine g_mild (n := 17) 8 (v := σ.1 8 old) hX hY dX8_made_16 rfl rfl rfl (vp_in_nI (show old < mN 8 by show old < 41; omega) (by decide)) (by rw [nI_clamp (by omega)] <;> rfl) ?_
        refine g_aload_n (n := 18) hX dX8_made_17 rfl rfl rfl ?_
        refine g_mget (n := 21) 5 (v := .ref (A 1)) hX hU dX8_made_18 rfl uf_X8_13 rfl rfl rfl ?_
        refine g_iload_n (n := 22) hX dX8_made_21 rfl rfl rfl ?_
        refine g_mild (n := 23) 1 (v := σ.1 1 p) hX hY dX8_made_22 rfl rfl rfl (vp_in_nI (show p < mN 1 by show p < 13; omega) (by decide)) (by rw [nI_clamp (by omega)] <;> rfl) ?_
        refine g_icmp_ne (n := 26) (tgt := 28) hX dX8_made_23 rfl (by decide) (fun c23 => ?_) (fun c23 => absurd c23 heq)
        refine g_aload_n (n := 29) hX dX8_made_28 rfl rfl rfl ?_
        refine g_mget (n := 32) 3 (v := .int (nI nc)) hX hU dX8_made_29 rfl uf_X8_113 rfl rfl (congrArg (fun z => some (Value.int z)) hnc) ?_
        refine g_bipush (n := 34) (v := 40) hX dX8_made_32 rfl rfl ?_
        refine g_icmp_ne (n := 37) (tgt := 39) hX dX8_made_34 rfl (by decide) (fun c34 => ?_) (fun c34 => absurd c34 (fun h9 => h40 ((nI_eq (by omega) (by decide)).mp (h9 : nI nc = nI 40))))
        refine g_aload_n (n := 40) hX dX8_made_39 rfl rfl rfl ?_
        refine g_dup (n := 41) hX dX8_made_40 rfl rfl ?_
        refine g_mget (n := 44) 3 (v := .int (nI nc)) hX hU dX8_made_41 rfl uf_X8_113 rfl rfl (congrArg (fun z => some (Value.int z)) hnc) ?_
        refine g_iconst (n := 45) (v := 1) hX dX8_made_44 rfl rfl ?_
        refine g_iadd (n := 46) (v := nI (nc + 1)) hX dX8_made_45 rfl (nI_add (nc) (1)) ?_
        refine g_mput (n := 49) 3 hX hU dX8_made_46 rfl uf_X8_113 rfl rfl rfl rfl rfl ?_
        refine g_aload_n (n := 50) hX dX8_made_49 rfl rfl rfl ?_
        refine g_mget (n := 53) 10 (v := .ref (A 6)) hX hU dX8_made_50 rfl uf_X8_29 rfl rfl rfl ?_
        refine g_aload_n (n := 54) hX dX8_made_53 rfl rfl rfl ?_
        refine g_mget (n := 57) 3 (v := .int (nI (nc + 1))) hX hU dX8_made_54 rfl uf_X8_113 rfl rfl rfl ?_
        refine g_iload_n (n := 58) hX dX8_made_57 rfl rfl rfl ?_
        refine g_mist (n := 59) 6 (i0 := nc + 1) hX hY dX8_made_58 rfl rfl rfl (vp_in_nI (show nc + 1 < mN 6 by show nc + 1 < 41; omega) (by decide)) (nI_clamp (by omega)) ?_
        refine g_aload_n (n := 60) hX dX8_made_59 rfl rfl rfl ?_
        refine g_mget (n := 63) 11 (v := .ref (A 7)) hX hU dX8_made_60 rfl uf_X8_32 rfl rfl rfl ?_
        refine g_aload_n (n := 64) hX dX8_made_63 rfl rfl rfl ?_
        refine g_mget (n := 67) 3 (v := .int (nI (nc + 1))) hX hU dX8_made_64 rfl uf_X8_113 rfl rfl rfl ?_
        refine g_iload_n (n := 68) hX dX8_made_67 rfl rfl rfl ?_
        refine g_mist (n := 69) 7 (i0 := nc + 1) hX hY dX8_made_68 rfl rfl rfl (vp_in_nI (show nc + 1 < mN 7 by show nc + 1 < 41; omega) (by decide)) (nI_clamp (by omega)) ?_
        refine g_aload_n (n := 70) hX dX8_made_69 rfl rfl rfl ?_
        refine g_mget (n := 73) 12 (v := .ref (A 8)) hX hU dX8_made_70 rfl uf_X8_35 rfl rfl rfl ?_
        refine g_aload_n (n := 74) hX dX8_made_73 rfl rfl rfl ?_
        refine g_mget (n := 77) 3 (v := .int (nI (nc + 1))) hX hU dX8_made_74 rfl uf_X8_113 rfl rfl rfl ?_
        refine g_aload_n (n := 78) hX dX8_made_77 rfl rfl rfl ?_
        refine g_mget (n := 81) 5 (v := .ref (A 1)) hX hU dX8_made_78 rfl uf_X8_13 rfl rfl rfl ?_
        refine g_iload_n (n := 82) hX dX8_made_81 rfl rfl rfl ?_
        refine g_mild (n := 83) 1 (v := σ.1 1 p) hX hY dX8_made_82 rfl rfl rfl (vp_in_nI (show p < mN 1 by show p < 13; omega) (by decide)) (by rw [nI_clamp (by omega)] <;> rfl) ?_
        refine g_mist (n := 84) 8 (i0 := nc + 1) hX hY dX8_made_83 rfl rfl rfl (vp_in_nI (show nc + 1 < mN 8 by show nc + 1 < 41; omega) (by decide)) (nI_clamp (by omega)) ?_
        refine g_iload_n (n := 85) hX dX8_made_84 rfl rfl rfl ?_
        refine g_if_le (n := 88) (tgt := 102) hX dX8_made_85 rfl (by decide) (fun c85 => absurd c85 (hpos h0)) (fun c85 => ?_)
        refine g_aload_n (n := 89) hX dX8_made_88 rfl rfl rfl ?_
        refine g_mget (n := 92) 13 (v := .ref (A 9)) hX hU dX8_made_89 rfl uf_X8_38 rfl rfl rfl ?_
        refine g_iload_n (n := 93) hX dX8_made_92 rfl rfl rfl ?_
        refine g_iconst (n := 94) (v := 1) hX dX8_made_93 rfl rfl ?_
        refine g_mzst (n := 95) 9 (i0 := old) hX hY dX8_made_94 rfl rfl rfl (vp_in_nI (show old < mN 9 by show old < 41; omega) (by decide)) (nI_clamp (by omega)) ?_
        refine g_aload_n (n := 96) hX dX8_made_95 rfl rfl rfl ?_
        refine g_mget (n := 99) 14 (v := .ref (A 10)) hX hU dX8_made_96 rfl uf_X8_41 rfl rfl rfl ?_
        refine g_iload_n (n := 100) hX dX8_made_99 rfl rfl rfl ?_
        refine g_iconst (n := 101) (v := 0) hX dX8_made_100 rfl rfl ?_
        refine g_mzst (n := 102) 10 (i0 := old) hX hY dX8_made_101 rfl rfl rfl (vp_in_nI (show old < mN 10 by show old < 41; omega) (by decide)) (nI_clamp (by omega)) ?_
        refine g_aload_n (n := 103) hX dX8_made_102 rfl rfl rfl ?_
        refine g_mget (n := 106) 18 (v := .ref (A 14)) hX hU dX8_made_103 rfl uf_X8_53 rfl rfl rfl ?_
        refine g_bipush (n := 108) (v := 13) hX dX8_made_106 rfl rfl ?_
        refine g_iload_n (n := 109) hX dX8_made_108 rfl rfl rfl ?_
        refine g_imul (n := 110) (v := nI (13 * u)) hX dX8_made_109 rfl (pk_mul (13) (u)) ?_
        refine g_iload_n (n := 111) hX dX8_made_110 rfl rfl rfl ?_
        refine g_iadd (n := 112) (v := nI (13 * u + p)) hX dX8_made_111 rfl (nI_add (13 * u) (p)) ?_
        refine g_aload_n (n := 113) hX dX8_made_112 rfl rfl rfl ?_
        refine g_mget (n := 116) 3 (v := .int (nI (nc + 1))) hX hU dX8_made_113 rfl uf_X8_113 rfl rfl rfl ?_
        refine g_mist (n := 117) 14 (i0 := 13 * u + p) hX hY dX8_made_116 rfl rfl rfl (vp_in_nI (show 13 * u + p < mN 14 by show 13 * u + p < 130; omega) (by decide)) (nI_clamp (by omega)) ?_
        refine g_aload_n (n := 118) hX dX8_made_117 rfl rfl rfl ?_
        refine g_mget (n := 121) 3 (v := .int (nI (nc + 1))) hX hU dX8_made_118 rfl uf_X8_113 rfl rfl rfl ?_
        exact g_iret hX hR dX8_made_121 (by rw [S_made, eold, enc, if_neg (fun h9 => heq h9.2), if_neg h40, if_pos h0]; exact ⟨rfl, rfl⟩)
  · by_cases h40 : nc = 40
    · refine g_aload_n (n := 1) hX dX8_made_0 rfl rfl rfl ?_
      refine g_iload_n (n := 2) hX dX8_made_1 rfl rfl rfl ?_
      refine g_iload_n (n := 3) hX dX8_made_2 rfl rfl rfl ?_
      refine g_callV0 (n := 6) (As := [.int (nI u), .int (nI p)]) (rest := []) hX hE hU hY dX8_made_3 rfl yv_X8_latestOf um_X8_109 (m_latestOf _ _ K am A σ u p (by omega) (by omega)) ⟨rfl, rfl⟩ (rm_le hRm rfl rfl) rfl (ci := 10) (q0 := 0) rfl rfl rfl rfl (Nat.le_of_ble_eq_true rfl) ⟨Nat.zero_le _, Nat.zero_le _⟩ (fun v0 w0 hq0 => ?_)
      rw [show σ.1 14 (13 * u + p) = nI old from hold] at hq0; obtain ⟨rfl, rfl⟩ := hq0
      show G Γ (mW K am A σ) 0 0 6 [(0, .ref am), (1, .int (nI u)), (2, .int (nI p))] [.int (nI old)]
      refine g_istore_n (lv' := [(3, .int (nI old)), (0, .ref am), (1, .int (nI u)), (2, .int (nI p))]) (n := 7) hX dX8_made_6 rfl rfl (by rw [hnL]; rfl) rfl ?_
      refine g_iload_n (n := 8) hX dX8_made_7 rfl rfl rfl ?_
      refine g_if_le (n := 11) (tgt := 28) hX dX8_made_8 rfl (by decide) (fun c8 => ?_) (fun c8 => absurd (hzero h0) c8)
      refine g_aload_n (n := 29) hX dX8_made_28 rfl rfl rfl ?_
      refine g_mget (n := 32) 3 (v := .int (nI nc)) hX hU dX8_made_29 rfl uf_X8_113 rfl rfl (congrArg (fun z => some (Value.int z)) hnc) ?_
      refine g_bipush (n := 34) (v := 40) hX dX8_made_32 rfl rfl ?_
      refine g_icmp_ne (n := 37) (tgt := 39) hX dX8_made_34 rfl (by decide) (fun c34 => absurd (by rw [h40] <;> rfl) c34) (fun c34 => ?_)
      refine g_iconst (n := 38) (v := (-1)) hX dX8_made_37 rfl rfl ?_
      exact g_iret hX hR dX8_made_38 (by rw [S_made, eold, enc, if_neg (fun h9 => h0 h9.1), if_pos h40]; exact ⟨rfl, rfl⟩)
    · refine g_aload_n (n := 1) hX dX8_made_0 rfl rfl rfl ?_
      refine g_iload_n (n := 2) hX dX8_made_1 rfl rfl rfl ?_
      refine g_iload_n (n := 3) hX dX8_made_2 rfl rfl rfl ?_
      refine g_callV0 (n := 6) (As := [.int (nI u), .int (nI p)]) (rest := []) hX hE hU hY dX8_made_3 rfl yv_X8_latestOf um_X8_109 (m_latestOf _ _ K am A σ u p (by omega) (by omega)) ⟨rfl, rfl⟩ (rm_le hRm rfl rfl) rfl (ci := 10) (q0 := 0) rfl rfl rfl rfl (Nat.le_of_ble_eq_true rfl) ⟨Nat.zero_le _, Nat.zero_le _⟩ (fun v0 w0 hq0 => ?_)
      rw [show σ.1 14 (13 * u + p) = nI old from hold] at hq0; obtain ⟨rfl, rfl⟩ := hq0
      show G Γ (mW K am A σ) 0 0 6 [(0, .ref am), (1, .int (nI u)), (2, .int (nI p))] [.int (nI old)]
      refine g_istore_n (lv' := [(3, .int (nI old)), (0, .ref am), (1, .int (nI u)), (2, .int (nI p))]) (n := 7) hX dX8_made_6 rfl rfl (by rw [hnL]; rfl) rfl ?_
      refine g_iload_n (n := 8) hX dX8_made_7 rfl rfl rfl ?_
      refine g_if_le (n := 11) (tgt := 28) hX dX8_made_8 rfl (by decide) (fun c8 => ?_) (fun c8 => absurd (hzero h0) c8)
      refine g_aload_n (n := 29) hX dX8_made_28 rfl rfl rfl ?_
      refine g_mget (n := 32) 3 (v := .int (nI nc)) hX hU dX8_made_29 rfl uf_X8_113 rfl rfl (congrArg (fun z => some (Value.int z)) hnc) ?_
      refine g_bipush (n := 34) (v := 40) hX dX8_made_32 rfl rfl ?_
      refine g_icmp_ne (n := 37) (tgt := 39) hX dX8_made_34 rfl (by decide) (fun c34 => ?_) (fun c34 => absurd c34 (fun h9 => h40 ((nI_eq (by omega) (by decide)).mp (h9 : nI nc = nI 40))))
      refine g_aload_n (n := 40) hX dX8_made_39 rfl rfl rfl ?_
      refine g_dup (n := 41) hX dX8_made_40 rfl rfl ?_
      refine g_mget (n := 44) 3 (v := .int (nI nc)) hX hU dX8_made_41 rfl uf_X8_113 rfl rfl (congrArg (fun z => some (Value.int z)) hnc) ?_
      refine g_iconst (n := 45) (v := 1) hX dX8_made_44 rfl rfl ?_
      refine g_iadd (n := 46) (v := nI (nc + 1)) hX dX8_made_45 rfl (nI_add (nc) (1)) ?_
      refine g_mput (n := 49) 3 hX hU dX8_made_46 rfl uf_X8_113 rfl rfl rfl rfl rfl ?_
      refine g_aload_n (n := 50) hX dX8_made_49 rfl rfl rfl ?_
      refine g_mget (n := 53) 10 (v := .ref (A 6)) hX hU dX8_made_50 rfl uf_X8_29 rfl rfl rfl ?_
      refine g_aload_n (n := 54) hX dX8_made_53 rfl rfl rfl ?_
      refine g_mget (n := 57) 3 (v := .int (nI (nc + 1))) hX hU dX8_made_54 rfl uf_X8_113 rfl rfl rfl ?_
      refine g_iload_n (n := 58) hX dX8_made_57 rfl rfl rfl ?_
      refine g_mist (n := 59) 6 (i0 := nc + 1) hX hY dX8_made_58 rfl rfl rfl (vp_in_nI (show nc + 1 < mN 6 by show nc + 1 < 41; omega) (by decide)) (nI_clamp (by omega)) ?_
      refine g_aload_n (n := 60) hX dX8_made_59 rfl rfl rfl ?_
      refine g_mget (n := 63) 11 (v := .ref (A 7)) hX hU dX8_made_60 rfl uf_X8_32 rfl rfl rfl ?_
      refine g_aload_n (n := 64) hX dX8_made_63 rfl rfl rfl ?_
      refine g_mget (n := 67) 3 (v := .int (nI (nc + 1))) hX hU dX8_made_64 rfl uf_X8_113 rfl rfl rfl ?_
      refine g_iload_n (n := 68) hX dX8_made_67 rfl rfl rfl ?_
      refine g_mist (n := 69) 7 (i0 := nc + 1) hX hY dX8_made_68 rfl rfl rfl (vp_in_nI (show nc + 1 < mN 7 by show nc + 1 < 41; omega) (by decide)) (nI_clamp (by omega)) ?_
      refine g_aload_n (n := 70) hX dX8_made_69 rfl rfl rfl ?_
      refine g_mget (n := 73) 12 (v := .ref (A 8)) hX hU dX8_made_70 rfl uf_X8_35 rfl rfl rfl ?_
      refine g_aload_n (n := 74) hX dX8_made_73 rfl rfl rfl ?_
      refine g_mget (n := 77) 3 (v := .int (nI (nc + 1))) hX hU dX8_made_74 rfl uf_X8_113 rfl rfl rfl ?_
      refine g_aload_n (n := 78) hX dX8_made_77 rfl rfl rfl ?_
      refine g_mget (n := 81) 5 (v := .ref (A 1)) hX hU dX8_made_78 rfl uf_X8_13 rfl rfl rfl ?_
      refine g_iload_n (n := 82) hX dX8_made_81 rfl rfl rfl ?_
      refine g_mild (n := 83) 1 (v := σ.1 1 p) hX hY dX8_made_82 rfl rfl rfl (vp_in_nI (show p < mN 1 by show p < 13; omega) (by decide)) (by rw [nI_clamp (by omega)] <;> rfl) ?_
      refine g_mist (n := 84) 8 (i0 := nc + 1) hX hY dX8_made_83 rfl rfl rfl (vp_in_nI (show nc + 1 < mN 8 by show nc + 1 < 41; omega) (by decide)) (nI_clamp (by omega)) ?_
      refine g_iload_n (n := 85) hX dX8_made_84 rfl rfl rfl ?_
      refine g_if_le (n := 88) (tgt := 102) hX dX8_made_85 rfl (by decide) (fun c85 => ?_) (fun c85 => absurd (hzero h0) c85)
      refine g_aload_n (n := 103) hX dX8_made_102 rfl rfl rfl ?_
      refine g_mget (n := 106) 18 (v := .ref (A 14)) hX hU dX8_made_103 rfl uf_X8_53 rfl rfl rfl ?_
      refine g_bipush (n := 108) (v := 13) hX dX8_made_106 rfl rfl ?_
      refine g_iload_n (n := 109) hX dX8_made_108 rfl rfl rfl ?_
      refine g_imul (n := 110) (v := nI (13 * u)) hX dX8_made_109 rfl (pk_mul (13) (u)) ?_
      refine g_iload_n (n := 111) hX dX8_made_110 rfl rfl rfl ?_
      refine g_iadd (n := 112) (v := nI (13 * u + p)) hX dX8_made_111 rfl (nI_add (13 * u) (p)) ?_
      refine g_aload_n (n := 113) hX dX8_made_112 rfl rfl rfl ?_
      refine g_mget (n := 116) 3 (v := .int (nI (nc + 1))) hX hU dX8_made_113 rfl uf_X8_113 rfl rfl rfl ?_
      refine g_mist (n := 117) 14 (i0 := 13 * u + p) hX hY dX8_made_116 rfl rfl rfl (vp_in_nI (show 13 * u + p < mN 14 by show 13 * u + p < 130; omega) (by decide)) (nI_clamp (by omega)) ?_
      refine g_aload_n (n := 118) hX dX8_made_117 rfl rfl rfl ?_
      refine g_mget (n := 121) 3 (v := .int (nI (nc + 1))) hX hU dX8_made_118 rfl uf_X8_113 rfl rfl rfl ?_
      exact g_iret hX hR dX8_made_121 (by rw [S_made, eold, enc, if_neg (fun h9 => h0 h9.1), if_neg h40, if_neg h0]; exact ⟨rfl, rfl⟩)

theorem rg_thr {σ : MS} (x : Int32) (h : rg σ) : rg (sF σ 0 x) := h
set_option maxHeartbeats 4000000 in
set_option maxRecDepth 100000 in
theorem m_make (l : Launch) (D : va_G) (K : Nat → ClassId) (am : Nat) (A : Nat → Nat) (σ : MS) (uu pp : Int32) (hg : rg σ) : Mc l yX8_make (wM yX8_make cX8_make 3 (some .int)) (rmL 2 0 0) D (yY K) [.ref am, .int uu, .int pp] (mW K am A σ) (fun v w => v = some (.int (S_make σ uu pp).1) ∧ w = mW K am A (S_make σ uu pp).2) 0 0 := by
  refine m_start (lv := [(0, .ref am), (1, .int uu), (2, .int pp)]) rfl (Nat.le_of_ble_eq_true rfl) rfl (fun Γ hX hRm hnL hY hDD hLa hR hI hE => ?_)
  have hU : ∀ w ∈ wU, w ∈ wM yX8_make cX8_make 3 (some .int) := fun w h => wM_in h
  subst hLa
  subst hDD
  by_cases hU1 : 1 ≤ uu ∧ uu ≤ σ.2 2
  · by_cases hP : 1 ≤ pp ∧ pp ≤ σ.2 1
    · obtain ⟨u, rfl, hu1, hu2, -, -⟩ := in1 hg.2.1 (by decide) hU1
      obtain ⟨p, rfl, hp1, hp2, -, -⟩ := in1 hg.1 (by decide) hP
      have ecu : (nI u).toNatClampNeg = u := nI_clamp (by omega)
      have ecp : (nI p).toNatClampNeg = p := nI_clamp (by omega)
      refine g_aload_n (n := 1) hX dX8_make_0 rfl rfl rfl ?_
      refine g_iconst (n := 2) (v := 0) hX dX8_make_1 rfl rfl ?_
      refine g_mput (n := 5) 0 hX hU dX8_make_2 rfl uf_X8_87 rfl rfl rfl rfl rfl ?_
      refine g_aload_n (n := 6) hX dX8_make_5 rfl rfl rfl ?_
      refine g_iload_n (n := 7) hX dX8_make_6 rfl rfl rfl ?_
      refine g_callV0 (n := 10) (As := [.int (nI u)]) (rest := []) hX hE hU hY dX8_make_7 rfl yv_X8_isUnit um_X8_116 (m_isUnit _ _ K am A (sF σ 0 0) (nI u)) ⟨rfl, rfl⟩ (rm_le hRm rfl rfl) rfl (ci := 10) (q0 := 0) rfl rfl rfl rfl (Nat.le_of_ble_eq_true rfl) ⟨Nat.zero_le _, Nat.zero_le _⟩ (fun v0 w0 hq0 => ?_)
      obtain ⟨rfl, rfl⟩ := hq0
      show G Γ (mW K am A (sF σ 0 0)) 0 0 10 [(0, .ref am), (1, .int (nI u)), (2, .int (nI p))] [.int (bI (1 ≤ (nI u) ∧ (nI u) ≤ σ.2 2))]
      refine g_if_eq (n := 13) (tgt := 21) hX dX8_make_10 rfl (by decide) (fun c10 => absurd c10 (fun h9 => bI_z.mp h9 hU1)) (fun c10 => ?_)
      refine g_aload_n (n := 14) hX dX8_make_13 rfl rfl rfl ?_
      refine g_iload_n (n := 15) hX dX8_make_14 rfl rfl rfl ?_
      refine g_callV0 (n := 18) (As := [.int (nI p)]) (rest := []) hX hE hU hY dX8_make_15 rfl yv_X8_isProgram um_X8_101 (m_isProgram _ _ K am A (sF σ 0 0) (nI p)) ⟨rfl, rfl⟩ (rm_le hRm rfl rfl) rfl (ci := 10) (q0 := 0) rfl rfl rfl rfl (Nat.le_of_ble_eq_true rfl) ⟨Nat.zero_le _, Nat.zero_le _⟩ (fun v0 w0 hq0 => ?_)
      obtain ⟨rfl, rfl⟩ := hq0
      show G Γ (mW K am A (sF σ 0 0)) 0 0 18 [(0, .ref am), (1, .int (nI u)), (2, .int (nI p))] [.int (bI (1 ≤ (nI p) ∧ (nI p) ≤ σ.2 1))]
      refine g_if_ne (n := 21) (tgt := 24) hX dX8_make_18 rfl (by decide) (fun c18 => ?_) (fun c18 => absurd c18 (fun h9 => bI_z.mp h9 hP))
      refine g_aload_n (n := 25) hX dX8_make_24 rfl rfl rfl ?_
      refine g_mget (n := 28) 16 (v := .ref (A 12)) hX hU dX8_make_25 rfl uf_X8_47 rfl rfl rfl ?_
      refine g_iload_n (n := 29) hX dX8_make_28 rfl rfl rfl ?_
      refine g_mzld (n := 30) 12 (v := σ.1 12 u) hX hY dX8_make_29 rfl rfl rfl (vp_in_nI (show u < mN 12 by show u < 9; omega) (by decide)) (by rw [nI_clamp (by omega)] <;> rfl) ?_
      refine g_if_eq (n := 33) (tgt := 38) hX dX8_make_30 rfl (by decide) (fun c30 => ?_) (fun c30 => ?_)
      · refine g_aload_n (n := 39) hX dX8_make_38 rfl rfl rfl ?_
        refine g_iload_n (n := 40) hX dX8_make_39 rfl rfl rfl ?_
        refine g_iload_n (n := 41) hX dX8_make_40 rfl rfl rfl ?_
        refine g_callV0 (n := 44) (As := [.int (nI u), .int (nI p)]) (rest := []) hX hE hU hY dX8_make_41 rfl yv_X8_made um_X8_119 (m_made _ _ K am A (sF σ 0 0) u p (rg_thr 0 hg) (by omega) (by omega)) ⟨rfl, rfl⟩ (rm_le hRm rfl rfl) rfl (ci := 10) (q0 := 0) rfl rfl rfl rfl (Nat.le_of_ble_eq_true rfl) ⟨Nat.zero_le _, Nat.zero_le _⟩ (fun v0 w0 hq0 => ?_)
        obtain ⟨rfl, rfl⟩ := hq0
        show G Γ (mW K am A ((S_made (sF σ 0 0) u p).2)) 0 0 44 [(0, .ref am), (1, .int (nI u)), (2, .int (nI p))] [.int ((S_made (sF σ 0 0) u p).1)]
        exact g_iret hX hR dX8_make_44 (by rw [S_make, if_pos hU1, if_pos hP, ecu, ecp, if_pos c30]; exact ⟨rfl, rfl⟩)
      · refine g_bipush (n := 35) (v := (-5)) hX dX8_make_33 rfl rfl ?_
        refine g_goto (n := 44) hX dX8_make_35 (by decide) ?_
        exact g_iret hX hR dX8_make_44 (by rw [S_make, if_pos hU1, if_pos hP, ecu, ecp, if_neg c30]; exact ⟨rfl, rfl⟩)
    · refine g_aload_n (n := 1) hX dX8_make_0 rfl rfl rfl ?_
      refine g_iconst (n := 2) (v := 0) hX dX8_make_1 rfl rfl ?_
      refine g_mput (n := 5) 0 hX hU dX8_make_2 rfl uf_X8_87 rfl rfl rfl rfl rfl ?_
      refine g_aload_n (n := 6) hX dX8_make_5 rfl rfl rfl ?_
      refine g_iload_n (n := 7) hX dX8_make_6 rfl rfl rfl ?_
      refine g_callV0 (n := 10) (As := [.int uu]) (rest := []) hX hE hU hY dX8_make_7 rfl yv_X8_isUnit um_X8_116 (m_isUnit _ _ K am A (sF σ 0 0) uu) ⟨rfl, rfl⟩ (rm_le hRm rfl rfl) rfl (ci := 10) (q0 := 0) rfl rfl rfl rfl (Nat.le_of_ble_eq_true rfl) ⟨Nat.zero_le _, Nat.zero_le _⟩ (fun v0 w0 hq0 => ?_)
      obtain ⟨rfl, rfl⟩ := hq0
      show G Γ (mW K am A (sF σ 0 0)) 0 0 10 [(0, .ref am), (1, .int uu), (2, .int pp)] [.int (bI (1 ≤ uu ∧ uu ≤ σ.2 2))]
      refine g_if_eq (n := 13) (tgt := 21) hX dX8_make_10 rfl (by decide) (fun c10 => absurd c10 (fun h9 => bI_z.mp h9 hU1)) (fun c10 => ?_)
      refine g_aload_n (n := 14) hX dX8_make_13 rfl rfl rfl ?_
      refine g_iload_n (n := 15) hX dX8_make_14 rfl rfl rfl ?_
      refine g_callV0 (n := 18) (As := [.int pp]) (rest := []) hX hE hU hY dX8_make_15 rfl yv_X8_isProgram um_X8_101 (m_isProgram _ _ K am A (sF σ 0 0) pp) ⟨rfl, rfl⟩ (rm_le hRm rfl rfl) rfl (ci := 10) (q0 := 0) rfl rfl rfl rfl (Nat.le_of_ble_eq_true rfl) ⟨Nat.zero_le _, Nat.zero_le _⟩ (fun v0 w0 hq0 => ?_)
      obtain ⟨rfl, rfl⟩ := hq0
      show G Γ (mW K am A (sF σ 0 0)) 0 0 18 [(0, .ref am), (1, .int uu), (2, .int pp)] [.int (bI (1 ≤ pp ∧ pp ≤ σ.2 1))]
      refine g_if_ne (n := 21) (tgt := 24) hX dX8_make_18 rfl (by decide) (fun c18 => absurd (bI_z.mpr hP) c18) (fun c18 => ?_)
      refine g_bipush (n := 23) (v := (-2)) hX dX8_make_21 rfl rfl ?_
      exact g_iret hX hR dX8_make_23 (by rw [S_make, if_pos hU1, if_neg hP]; exact ⟨rfl, rfl⟩)
  · refine g_aload_n (n := 1) hX dX8_make_0 rfl rfl rfl ?_
    refine g_iconst (n := 2) (v := 0) hX dX8_make_1 rfl rfl ?_
    refine g_mput (n := 5) 0 hX hU dX8_make_2 rfl uf_X8_87 rfl rfl rfl rfl rfl ?_
    refine g_aload_n (n := 6) hX dX8_make_5 rfl rfl rfl ?_
    refine g_iload_n (n := 7) hX dX8_make_6 rfl rfl rfl ?_
    refine g_callV0 (n := 10) (As := [.int uu]) (rest := []) hX hE hU hY dX8_make_7 rfl yv_X8_isUnit um_X8_116 (m_isUnit _ _ K am A (sF σ 0 0) uu) ⟨rfl, rfl⟩ (rm_le hRm rfl rfl) rfl (ci := 10) (q0 := 0) rfl rfl rfl rfl (Nat.le_of_ble_eq_true rfl) ⟨Nat.zero_le _, Nat.zero_le _⟩ (fun v0 w0 hq0 => ?_)
    obtain ⟨rfl, rfl⟩ := hq0
    show G Γ (mW K am A (sF σ 0 0)) 0 0 10 [(0, .ref am), (1, .int uu), (2, .int pp)] [.int (bI (1 ≤ uu ∧ uu ≤ σ.2 2))]
    refine g_if_eq (n := 13) (tgt := 21) hX dX8_make_10 rfl (by decide) (fun c10 => ?_) (fun c10 => absurd (bI_z.mpr hU1) c10)
    refine g_bipush (n := 23) (v := (-2)) hX dX8_make_21 rfl rfl ?_
    exact g_iret hX hR dX8_make_23 (by rw [S_make, if_neg hU1]; exact ⟨rfl, rfl⟩)

set_option maxHeartbeats 4000000 in
set_option maxRecDepth 100000 in
theorem m_cancel (l : Launch) (D : va_G) (K : Nat → ClassId) (am : Nat) (A : Nat → Nat) (σ : MS) (uu pp : Int32) (hg : rg σ) : Mc l yX8_cancel (wM yX8_cancel cX8_cancel 4 (some .int)) (rmL 1 0 0) D (yY K) [.ref am, .int uu, .int pp] (mW K am A σ) (fun v w => v = some (.int (S_cancel σ uu pp).1) ∧ w = mW K am A (S_cancel σ uu pp).2) 0 0 := by
  refine m_start (lv := [(0, .ref am), (1, .int uu), (2, .int pp)]) rfl (Nat.le_of_ble_eq_true rfl) rfl (fun Γ hX hRm hnL hY hDD hLa hR hI hE => ?_)
  have hU : ∀ w ∈ wU, w ∈ wM yX8_cancel cX8_cancel 4 (some .int) := fun w h => wM_in h
  subst hLa
  subst hDD
  by_cases hU1 : 1 ≤ uu ∧ uu ≤ σ.2 2
  · by_cases hP : 1 ≤ pp ∧ pp ≤ σ.2 1
    · obtain ⟨u, rfl, hu1, hu2, -, -⟩ := in1 hg.2.1 (by decide) hU1
      obtain ⟨p, rfl, hp1, hp2, -, -⟩ := in1 hg.1 (by decide) hP
      have ecu : (nI u).toNatClampNeg = u := nI_clamp (by omega)
      have ecp : (nI p).toNatClampNeg = p := nI_clamp (by omega)
      obtain ⟨old, hold, hold2⟩ := hg.2.2.2.2.2.2.1 (13 * u + p) (by omega)
      have eold : nA σ 14 (13 * u + p) = old := nA_of hold (by omega)
      by_cases h0 : old = 0
      · refine g_aload_n (n := 1) hX dX8_cancel_0 rfl rfl rfl ?_
        refine g_iconst (n := 2) (v := 0) hX dX8_cancel_1 rfl rfl ?_
        refine g_mput (n := 5) 0 hX hU dX8_cancel_2 rfl uf_X8_87 rfl rfl rfl rfl rfl ?_
        refine g_aload_n (n := 6) hX dX8_cancel_5 rfl rfl rfl ?_
        refine g_iload_n (n := 7) hX dX8_cancel_6 rfl rfl rfl ?_
        refine g_callV0 (n := 10) (As := [.int (nI u)]) (rest := []) hX hE hU hY dX8_cancel_7 rfl yv_X8_isUnit um_X8_116 (m_isUnit _ _ K am A (sF σ 0 0) (nI u)) ⟨rfl, rfl⟩ (rm_le hRm rfl rfl) rfl (ci := 10) (q0 := 0) rfl rfl rfl rfl (Nat.le_of_ble_eq_true rfl) ⟨Nat.zero_le _, Nat.zero_le _⟩ (fun v0 w0 hq0 => ?_)
        obtain ⟨rfl, rfl⟩ := hq0
        show G Γ (mW K am A (sF σ 0 0)) 0 0 10 [(0, .ref am), (1, .int (nI u)), (2, .int (nI p))] [.int (bI (1 ≤ (nI u) ∧ (nI u) ≤ σ.2 2))]
        refine g_if_eq (n := 13) (tgt := 21) hX dX8_cancel_10 rfl (by decide) (fun c10 => absurd c10 (fun h9 => bI_z.mp h9 hU1)) (fun c10 => ?_)
        refine g_aload_n (n := 14) hX dX8_cancel_13 rfl rfl rfl ?_
        refine g_iload_n (n := 15) hX dX8_cancel_14 rfl rfl rfl ?_
        refine g_callV0 (n := 18) (As := [.int (nI p)]) (rest := []) hX hE hU hY dX8_cancel_15 rfl yv_X8_isProgram um_X8_101 (m_isProgram _ _ K am A (sF σ 0 0) (nI p)) ⟨rfl, rfl⟩ (rm_le hRm rfl rfl) rfl (ci := 10) (q0 := 0) rfl rfl rfl rfl (Nat.le_of_ble_eq_true rfl) ⟨Nat.zero_le _, Nat.zero_le _⟩ (fun v0 w0 hq0 => ?_)
        obtain ⟨rfl, rfl⟩ := hq0
        show G Γ (mW K am A (sF σ 0 0)) 0 0 18 [(0, .ref am), (1, .int (nI u)), (2, .int (nI p))] [.int (bI (1 ≤ (nI p) ∧ (nI p) ≤ σ.2 1))]
        refine g_if_ne (n := 21) (tgt := 24) hX dX8_cancel_18 rfl (by decide) (fun c18 => ?_) (fun c18 => absurd c18 (fun h9 => bI_z.mp h9 hP))
        refine g_aload_n (n := 25) hX dX8_cancel_24 rfl rfl rfl ?_
        refine g_mget (n := 28) 16 (v := .ref (A 12)) hX hU dX8_cancel_25 rfl uf_X8_47 rfl rfl rfl ?_
        refine g_iload_n (n := 29) hX dX8_cancel_28 rfl rfl rfl ?_
        refine g_mzld (n := 30) 12 (v := σ.1 12 u) hX hY dX8_cancel_29 rfl rfl rfl (vp_in_nI (show u < mN 12 by show u < 9; omega) (by decide)) (by rw [nI_clamp (by omega)] <;> rfl) ?_
        refine g_if_eq (n := 33) (tgt := 36) hX dX8_cancel_30 rfl (by decide) (fun c30 => ?_) (fun c30 => ?_)
        · refine g_aload_n (n := 37) hX dX8_cancel_36 rfl rfl rfl ?_
          refine g_iload_n (n := 38) hX dX8_cancel_37 rfl rfl rfl ?_
          refine g_iload_n (n := 39) hX dX8_cancel_38 rfl rfl rfl ?_
          refine g_callV0 (n := 42) (As := [.int (nI u), .int (nI p)]) (rest := []) hX hE hU hY dX8_cancel_39 rfl yv_X8_latestOf um_X8_109 (m_latestOf _ _ K am A (sF σ 0 0) u p (by omega) (by omega)) ⟨rfl, rfl⟩ (rm_le hRm rfl rfl) rfl (ci := 10) (q0 := 0) rfl rfl rfl rfl (Nat.le_of_ble_eq_true rfl) ⟨Nat.zero_le _, Nat.zero_le _⟩ (fun v0 w0 hq0 => ?_)
          rw [show (sF σ 0 0).1 14 (13 * u + p) = nI old from hold] at hq0; obtain ⟨rfl, rfl⟩ := hq0
          show G Γ (mW K am A (sF σ 0 0)) 0 0 42 [(0, .ref am), (1, .int (nI u)), (2, .int (nI p))] [.int (nI old)]
          refine g_istore_n (lv' := [(3, .int (nI old)), (0, .ref am), (1, .int (nI u)), (2, .int (nI p))]) (n := 43) hX dX8_cancel_42 rfl rfl (by rw [hnL]; rfl) rfl ?_
          refine g_iload_n (n := 44) hX dX8_cancel_43 rfl rfl rfl ?_
          refine g_if_eq (n := 47) (tgt := 56) hX dX8_cancel_44 rfl (by decide) (fun c44 => ?_) (fun c44 => absurd (by rw [h0] <;> rfl) c44)
          refine g_iconst (n := 57) (v := 0) hX dX8_cancel_56 rfl rfl ?_
          exact g_iret hX hR dX8_cancel_57 (by rw [S_cancel, if_pos hU1, if_pos hP, ecu, ecp, eold, if_pos c30, if_pos h0]; exact ⟨rfl, rfl⟩)
        · refine g_bipush (n := 35) (v := (-5)) hX dX8_cancel_33 rfl rfl ?_
          exact g_iret hX hR dX8_cancel_35 (by rw [S_cancel, if_pos hU1, if_pos hP, ecu, ecp, if_neg c30]; exact ⟨rfl, rfl⟩)
      · refine g_aload_n (n := 1) hX dX8_cancel_0 rfl rfl rfl ?_
        refine g_iconst (n := 2) (v := 0) hX dX8_cancel_1 rfl rfl ?_
        refine g_mput (n := 5) 0 hX hU dX8_cancel_2 rfl uf_X8_87 rfl rfl rfl rfl rfl ?_
        refine g_aload_n (n := 6) hX dX8_cancel_5 rfl rfl rfl ?_
        refine g_iload_n (n := 7) hX dX8_cancel_6 rfl rfl rfl ?_
        refine g_callV0 (n := 10) (As := [.int (nI u)]) (rest := []) hX hE hU hY dX8_cancel_7 rfl yv_X8_isUnit um_X8_116 (m_isUnit _ _ K am A (sF σ 0 0) (nI u)) ⟨rfl, rfl⟩ (rm_le hRm rfl rfl) rfl (ci := 10) (q0 := 0) rfl rfl rfl rfl (Nat.le_of_ble_eq_true rfl) ⟨Nat.zero_le _, Nat.zero_le _⟩ (fun v0 w0 hq0 => ?_)
        obtain ⟨rfl, rfl⟩ := hq0
        show G Γ (mW K am A (sF σ 0 0)) 0 0 10 [(0, .ref am), (1, .int (nI u)), (2, .int (nI p))] [.int (bI (1 ≤ (nI u) ∧ (nI u) ≤ σ.2 2))]
        refine g_if_eq (n := 13) (tgt := 21) hX dX8_cancel_10 rfl (by decide) (fun c10 => absurd c10 (fun h9 => bI_z.mp h9 hU1)) (fun c10 => ?_)
        refine g_aload_n (n := 14) hX dX8_cancel_13 rfl rfl rfl ?_
        refine g_iload_n (n := 15) hX dX8_cancel_14 rfl rfl rfl ?_
        refine g_callV0 (n := 18) (As := [.int (nI p)]) (rest := []) hX hE hU hY dX8_cancel_15 rfl yv_X8_isProgram um_X8_101 (m_isProgram _ _ K am A (sF σ 0 0) (nI p)) ⟨rfl, rfl⟩ (rm_le hRm rfl rfl) rfl (ci := 10) (q0 := 0) rfl rfl rfl rfl (Nat.le_of_ble_eq_true rfl) ⟨Nat.zero_le _, Nat.zero_le _⟩ (fun v0 w0 hq0 => ?_)
        obtain ⟨rfl, rfl⟩ := hq0
        show G Γ (mW K am A (sF σ 0 0)) 0 0 18 [(0, .ref am), (1, .int (nI u)), (2, .int (nI p))] [.int (bI (1 ≤ (nI p) ∧ (nI p) ≤ σ.2 1))]
        refine g_if_ne (n := 21) (tgt := 24) hX dX8_cancel_18 rfl (by decide) (fun c18 => ?_) (fun c18 => absurd c18 (fun h9 => bI_z.mp h9 hP))
        refine g_aload_n (n := 25) hX dX8_cancel_24 rfl rfl rfl ?_
        refine g_mget (n := 28) 16 (v := .ref (A 12)) hX hU dX8_cancel_25 rfl uf_X8_47 rfl rfl rfl ?_
        refine g_iload_n (n := 29) hX dX8_cancel_28 rfl rfl rfl ?_
        refine g_mzld (n := 30) 12 (v := σ.1 12 u) hX hY dX8_cancel_29 rfl rfl rfl (vp_in_nI (show u < mN 12 by show u < 9; omega) (by decide)) (by rw [nI_clamp (by omega)] <;> rfl) ?_
        refine g_if_eq (n := 33) (tgt := 36) hX dX8_cancel_30 rfl (by decide) (fun c30 => ?_) (fun c30 => ?_)
        · refine g_aload_n (n := 37) hX dX8_cancel_36 rfl rfl rfl ?_
          refine g_iload_n (n := 38) hX dX8_cancel_37 rfl rfl rfl ?_
          refine g_iload_n (n := 39) hX dX8_cancel_38 rfl rfl rfl ?_
          refine g_callV0 (n := 42) (As := [.int (nI u), .int (nI p)]) (rest := []) hX hE hU hY dX8_cancel_39 rfl yv_X8_latestOf um_X8_109 (m_latestOf _ _ K am A (sF σ 0 0) u p (by omega) (by omega)) ⟨rfl, rfl⟩ (rm_le hRm rfl rfl) rfl (ci := 10) (q0 := 0) rfl rfl rfl rfl (Nat.le_of_ble_eq_true rfl) ⟨Nat.zero_le _, Nat.zero_le _⟩ (fun v0 w0 hq0 => ?_)
          rw [show (sF σ 0 0).1 14 (13 * u + p) = nI old from hold] at hq0; obtain ⟨rfl, rfl⟩ := hq0
          show G Γ (mW K am A (sF σ 0 0)) 0 0 42 [(0, .ref am), (1, .int (nI u)), (2, .int (nI p))] [.int (nI old)]
          refine g_istore_n (lv' := [(3, .int (nI old)), (0, .ref am), (1, .int (nI u)), (2, .int (nI p))]) (n := 43) hX dX8_cancel_42 rfl rfl (by rw [hnL]; rfl) rfl ?_
          refine g_iload_n (n := 44) hX dX8_cancel_43 rfl rfl rfl ?_
          refine g_if_eq (n := 47) (tgt := 56) hX dX8_cancel_44 rfl (by decide) (fun c44 => absurd c44 (nI_ne0 (by omega) (by omega))) (fun c44 => ?_)
          refine g_aload_n (n := 48) hX dX8_cancel_47 rfl rfl rfl ?_
          refine g_mget (n := 51) 14 (v := .ref (A 10)) hX hU dX8_cancel_48 rfl uf_X8_41 rfl rfl rfl ?_
          refine g_iload_n (n := 52) hX dX8_cancel_51 rfl rfl rfl ?_
          refine g_mzld (n := 53) 10 (v := σ.1 10 old) hX hY dX8_cancel_52 rfl rfl rfl (vp_in_nI (show old < mN 10 by show old < 41; omega) (by decide)) (by rw [nI_clamp (by omega)] <;> rfl) ?_
          refine g_if_ne (n := 56) (tgt := 58) hX dX8_cancel_53 rfl (by decide) (fun c53 => ?_) (fun c53 => ?_)
          · refine g_aload_n (n := 59) hX dX8_cancel_58 rfl rfl rfl ?_
            refine g_mget (n := 62) 14 (v := .ref (A 10)) hX hU dX8_cancel_59 rfl uf_X8_41 rfl rfl rfl ?_
            refine g_iload_n (n := 63) hX dX8_cancel_62 rfl rfl rfl ?_
            refine g_iconst (n := 64) (v := 0) hX dX8_cancel_63 rfl rfl ?_
            refine g_mzst (n := 65) 10 (i0 := old) hX hY dX8_cancel_64 rfl rfl rfl (vp_in_nI (show old < mN 10 by show old < 41; omega) (by decide)) (nI_clamp (by omega)) ?_
            refine g_iconst (n := 66) (v := 1) hX dX8_cancel_65 rfl rfl ?_
            exact g_iret hX hR dX8_cancel_66 (by rw [S_cancel, if_pos hU1, if_pos hP, ecu, ecp, eold, if_pos c30, if_neg h0, if_neg c53]; exact ⟨rfl, rfl⟩)
          · refine g_iconst (n := 57) (v := 0) hX dX8_cancel_56 rfl rfl ?_
            exact g_iret hX hR dX8_cancel_57 (by rw [S_cancel, if_pos hU1, if_pos hP, ecu, ecp, eold, if_pos c30, if_neg h0, if_pos c53]; exact ⟨rfl, rfl⟩)
        · refine g_bipush (n := 35) (v := (-5)) hX dX8_cancel_33 rfl rfl ?_
          exact g_iret hX hR dX8_cancel_35 (by rw [S_cancel, if_pos hU1, if_pos hP, ecu, ecp, if_neg c30]; exact ⟨rfl, rfl⟩)
    · refine g_aload_n (n := 1) hX dX8_cancel_0 rfl rfl rfl ?_
      refine g_iconst (n := 2) (v := 0) hX dX8_cancel_1 rfl rfl ?_
      refine g_mput (n := 5) 0 hX hU dX8_cancel_2 rfl uf_X8_87 rfl rfl rfl rfl rfl ?_
      refine g_aload_n (n := 6) hX dX8_cancel_5 rfl rfl rfl ?_
      refine g_iload_n (n := 7) hX dX8_cancel_6 rfl rfl rfl ?_
      refine g_callV0 (n := 10) (As := [.int uu]) (rest := []) hX hE hU hY dX8_cancel_7 rfl yv_X8_isUnit um_X8_116 (m_isUnit _ _ K am A (sF σ 0 0) uu) ⟨rfl, rfl⟩ (rm_le hRm rfl rfl) rfl (ci := 10) (q0 := 0) rfl rfl rfl rfl (Nat.le_of_ble_eq_true rfl) ⟨Nat.zero_le _, Nat.zero_le _⟩ (fun v0 w0 hq0 => ?_)
      obtain ⟨rfl, rfl⟩ := hq0
      show G Γ (mW K am A (sF σ 0 0)) 0 0 10 [(0, .ref am), (1, .int uu), (2, .int pp)] [.int (bI (1 ≤ uu ∧ uu ≤ σ.2 2))]
      refine g_if_eq (n := 13) (tgt := 21) hX dX8_cancel_10 rfl (by decide) (fun c10 => absurd c10 (fun h9 => bI_z.mp h9 hU1)) (fun c10 => ?_)
      refine g_aload_n (n := 14) hX dX8_cancel_13 rfl rfl rfl ?_
      refine g_iload_n (n := 15) hX dX8_cancel_14 rfl rfl rfl ?_
      refine g_callV0 (n := 18) (As := [.int pp]) (rest := []) hX hE hU hY dX8_cancel_15 rfl yv_X8_isProgram um_X8_101 (m_isProgram _ _ K am A (sF σ 0 0) pp) ⟨rfl, rfl⟩ (rm_le hRm rfl rfl) rfl (ci := 10) (q0 := 0) rfl rfl rfl rfl (Nat.le_of_ble_eq_true rfl) ⟨Nat.zero_le _, Nat.zero_le _⟩ (fun v0 w0 hq0 => ?_)
      obtain ⟨rfl, rfl⟩ := hq0
      show G Γ (mW K am A (sF σ 0 0)) 0 0 18 [(0, .ref am), (1, .int uu), (2, .int pp)] [.int (bI (1 ≤ pp ∧ pp ≤ σ.2 1))]
      refine g_if_ne (n := 21) (tgt := 24) hX dX8_cancel_18 rfl (by decide) (fun c18 => absurd (bI_z.mpr hP) c18) (fun c18 => ?_)
      refine g_bipush (n := 23) (v := (-2)) hX dX8_cancel_21 rfl rfl ?_
      exact g_iret hX hR dX8_cancel_23 (by rw [S_cancel, if_pos hU1, if_neg hP]; exact ⟨rfl, rfl⟩)
  · refine g_aload_n (n := 1) hX dX8_cancel_0 rfl rfl rfl ?_
    refine g_iconst (n := 2) (v := 0) hX dX8_cancel_1 rfl rfl ?_
    refine g_mput (n := 5) 0 hX hU dX8_cancel_2 rfl uf_X8_87 rfl rfl rfl rfl rfl ?_
    refine g_aload_n (n := 6) hX dX8_cancel_5 rfl rfl rfl ?_
    refine g_iload_n (n := 7) hX dX8_cancel_6 rfl rfl rfl ?_
    refine g_callV0 (n := 10) (As := [.int uu]) (rest := []) hX hE hU hY dX8_cancel_7 rfl yv_X8_isUnit um_X8_116 (m_isUnit _ _ K am A (sF σ 0 0) uu) ⟨rfl, rfl⟩ (rm_le hRm rfl rfl) rfl (ci := 10) (q0 := 0) rfl rfl rfl rfl (Nat.le_of_ble_eq_true rfl) ⟨Nat.zero_le _, Nat.zero_le _⟩ (fun v0 w0 hq0 => ?_)
    obtain ⟨rfl, rfl⟩ := hq0
    show G Γ (mW K am A (sF σ 0 0)) 0 0 10 [(0, .ref am), (1, .int uu), (2, .int pp)] [.int (bI (1 ≤ uu ∧ uu ≤ σ.2 2))]
    refine g_if_eq (n := 13) (tgt := 21) hX dX8_cancel_10 rfl (by decide) (fun c10 => ?_) (fun c10 => absurd (bI_z.mpr hU1) c10)
    refine g_bipush (n := 23) (v := (-2)) hX dX8_cancel_21 rfl rfl ?_
    exact g_iret hX hR dX8_cancel_23 (by rw [S_cancel, if_neg hU1]; exact ⟨rfl, rfl⟩)

