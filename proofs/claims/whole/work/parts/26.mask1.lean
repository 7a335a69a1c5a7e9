set_option maxHeartbeats 4000000 in
set_option maxRecDepth 100000 in
theorem m_raised (l : Launch) (D : va_G) (K : Nat → ClassId) (am : Nat) (A : Nat → Nat) (σ : MS) (uu : Int32) (hg : rg σ) : Mc l yX8_raised (wM yX8_raised cX8_raised 2 (some .int)) (rmL 1 0 0) D (yY K) [.ref am, .int uu] (mW K am A σ) (fun v w => v = some (.int (S_raised σ uu).1) ∧ w = mW K am A (S_raised σ uu).2) 0 0 := by
  refine m_start (lv := [(0, .ref am), (1, .int uu)]) rfl (Nat.le_of_ble_eq_true rfl) rfl (fun Γ hX hRm hnL hY hDD hLa hR hI hE => ?_)
  have hU : ∀ w ∈ wU, w ∈ wM yX8_raised cX8_raised 2 (some .int) := fun w h => wM_in h
  subst hLa
  subst hDD
  by_cases hU1 : 1 ≤ uu ∧ uu ≤ σ.2 2
  · obtain ⟨u, rfl, hu1, hu2, -, -⟩ := in1 hg.2.1 (by decide) hU1
    have ecu : (nI u).toNatClampNeg = u := nI_clamp (by omega)
    refine g_aload_n (n := 1) hX dX8_raised_0 rfl rfl rfl ?_
    refine g_iconst (n := 2) (v := 0) hX dX8_raised_1 rfl rfl ?_
    refine g_mput (n := 5) 0 hX hU dX8_raised_2 rfl uf_X8_87 rfl rfl rfl rfl rfl ?_
    refine g_aload_n (n := 6) hX dX8_raised_5 rfl rfl rfl ?_
    refine g_iload_n (n := 7) hX dX8_raised_6 rfl rfl rfl ?_
    refine g_callV0 (n := 10) (As := [.int (nI u)]) (rest := []) hX hE hU hY dX8_raised_7 rfl yv_X8_isUnit um_X8_116 (m_isUnit _ _ K am A (sF σ 0 0) (nI u)) ⟨rfl, rfl⟩ (rm_le hRm rfl rfl) rfl (ci := 10) (q0 := 0) rfl rfl rfl rfl (Nat.le_of_ble_eq_true rfl) ⟨Nat.zero_le _, Nat.zero_le _⟩ (fun v0 w0 hq0 => ?_)
    obtain ⟨rfl, rfl⟩ := hq0
    show G Γ (mW K am A (sF σ 0 0)) 0 0 10 [(0, .ref am), (1, .int (nI u))] [.int (bI (1 ≤ (nI u) ∧ (nI u) ≤ σ.2 2))]
    refine g_if_eq (n := 13) (tgt := 22) hX dX8_raised_10 rfl (by decide) (fun c10 => absurd c10 (fun h9 => bI_z.mp h9 hU1)) (fun c10 => ?_)
    refine g_aload_n (n := 14) hX dX8_raised_13 rfl rfl rfl ?_
    refine g_mget (n := 17) 19 (v := .ref (A 15)) hX hU dX8_raised_14 rfl uf_X8_56 rfl rfl rfl ?_
    refine g_iload_n (n := 18) hX dX8_raised_17 rfl rfl rfl ?_
    refine g_mild (n := 19) 15 (v := σ.1 15 u) hX hY dX8_raised_18 rfl rfl rfl (vp_in_nI (show u < mN 15 by show u < 9; omega) (by decide)) (by rw [nI_clamp (by omega)] <;> rfl) ?_
    refine g_goto (n := 24) hX dX8_raised_19 (by decide) ?_
    exact g_iret hX hR dX8_raised_24 (by rw [S_raised, if_pos hU1, ecu]; exact ⟨rfl, rfl⟩)
  · refine g_aload_n (n := 1) hX dX8_raised_0 rfl rfl rfl ?_
    refine g_iconst (n := 2) (v := 0) hX dX8_raised_1 rfl rfl ?_
    refine g_mput (n := 5) 0 hX hU dX8_raised_2 rfl uf_X8_87 rfl rfl rfl rfl rfl ?_
    refine g_aload_n (n := 6) hX dX8_raised_5 rfl rfl rfl ?_
    refine g_iload_n (n := 7) hX dX8_raised_6 rfl rfl rfl ?_
    refine g_callV0 (n := 10) (As := [.int uu]) (rest := []) hX hE hU hY dX8_raised_7 rfl yv_X8_isUnit um_X8_116 (m_isUnit _ _ K am A (sF σ 0 0) uu) ⟨rfl, rfl⟩ (rm_le hRm rfl rfl) rfl (ci := 10) (q0 := 0) rfl rfl rfl rfl (Nat.le_of_ble_eq_true rfl) ⟨Nat.zero_le _, Nat.zero_le _⟩ (fun v0 w0 hq0 => ?_)
    obtain ⟨rfl, rfl⟩ := hq0
    show G Γ (mW K am A (sF σ 0 0)) 0 0 10 [(0, .ref am), (1, .int uu)] [.int (bI (1 ≤ uu ∧ uu ≤ σ.2 2))]
    refine g_if_eq (n := 13) (tgt := 22) hX dX8_raised_10 rfl (by decide) (fun c10 => ?_) (fun c10 => absurd (bI_z.mpr hU1) c10)
    refine g_bipush (n := 24) (v := (-2)) hX dX8_raised_22 rfl rfl ?_
    exact g_iret hX hR dX8_raised_24 (by rw [S_raised, if_neg hU1]; exact ⟨rfl, rfl⟩)

set_option maxHeartbeats 4000000 in
set_option maxRecDepth 100000 in
theorem m_told (l : Launch) (D : va_G) (K : Nat → ClassId) (am : Nat) (A : Nat → Nat) (σ : MS) (uu x : Int32) (hg : rg σ) : Mc l yX8_told (wM yX8_told cX8_told 3 (some .int)) (rmL 1 0 0) D (yY K) [.ref am, .int uu, .int x] (mW K am A σ) (fun v w => v = some (.int (S_told σ uu x).1) ∧ w = mW K am A (S_told σ uu x).2) 0 0 := by
  refine m_start (lv := [(0, .ref am), (1, .int uu), (2, .int x)]) rfl (Nat.le_of_ble_eq_true rfl) rfl (fun Γ hX hRm hnL hY hDD hLa hR hI hE => ?_)
  have hU : ∀ w ∈ wU, w ∈ wM yX8_told cX8_told 3 (some .int) := fun w h => wM_in h
  subst hLa
  subst hDD
  by_cases hU1 : 1 ≤ uu ∧ uu ≤ σ.2 2
  · obtain ⟨u, rfl, hu1, hu2, -, -⟩ := in1 hg.2.1 (by decide) hU1
    have ecu : (nI u).toNatClampNeg = u := nI_clamp (by omega)
    refine g_aload_n (n := 1) hX dX8_told_0 rfl rfl rfl ?_
    refine g_iconst (n := 2) (v := 0) hX dX8_told_1 rfl rfl ?_
    refine g_mput (n := 5) 0 hX hU dX8_told_2 rfl uf_X8_87 rfl rfl rfl rfl rfl ?_
    refine g_aload_n (n := 6) hX dX8_told_5 rfl rfl rfl ?_
    refine g_iload_n (n := 7) hX dX8_told_6 rfl rfl rfl ?_
    refine g_callV0 (n := 10) (As := [.int (nI u)]) (rest := []) hX hE hU hY dX8_told_7 rfl yv_X8_isUnit um_X8_116 (m_isUnit _ _ K am A (sF σ 0 0) (nI u)) ⟨rfl, rfl⟩ (rm_le hRm rfl rfl) rfl (ci := 10) (q0 := 0) rfl rfl rfl rfl (Nat.le_of_ble_eq_true rfl) ⟨Nat.zero_le _, Nat.zero_le _⟩ (fun v0 w0 hq0 => ?_)
    obtain ⟨rfl, rfl⟩ := hq0
    show G Γ (mW K am A (sF σ 0 0)) 0 0 10 [(0, .ref am), (1, .int (nI u)), (2, .int x)] [.int (bI (1 ≤ (nI u) ∧ (nI u) ≤ σ.2 2))]
    refine g_if_ne (n := 13) (tgt := 16) hX dX8_told_10 rfl (by decide) (fun c10 => ?_) (fun c10 => absurd c10 (fun h9 => bI_z.mp h9 hU1))
    refine g_aload_n (n := 17) hX dX8_told_16 rfl rfl rfl ?_
    refine g_mget (n := 20) 17 (v := .ref (A 13)) hX hU dX8_told_17 rfl uf_X8_50 rfl rfl rfl ?_
    refine g_iload_n (n := 21) hX dX8_told_20 rfl rfl rfl ?_
    refine g_mzld (n := 22) 13 (v := σ.1 13 u) hX hY dX8_told_21 rfl rfl rfl (vp_in_nI (show u < mN 13 by show u < 9; omega) (by decide)) (by rw [nI_clamp (by omega)] <;> rfl) ?_
    refine g_if_ne (n := 25) (tgt := 27) hX dX8_told_22 rfl (by decide) (fun c22 => ?_) (fun c22 => ?_)
    · refine g_iload_n (n := 28) hX dX8_told_27 rfl rfl rfl ?_
      rcases sw_split x (0) (3) with hsw | hsw
      · refine g_tableOut (n := 88) hX dX8_told_28 hsw (by decide) ?_
        have hno : ∀ q : Int32, (0 ≤ q.toInt ∧ q.toInt ≤ 3) → ¬ x = q := fun q hq h9 => by rw [h9] at hsw; omega
        refine g_iconst (n := 89) (v := (-1)) hX dX8_told_88 rfl rfl ?_
        exact g_iret hX hR dX8_told_89 (by rw [S_told, if_pos hU1, ecu, if_neg c22, if_neg (hno 0 (by decide)), if_neg (hno 1 (by decide)), if_neg (hno 2 (by decide)), if_neg (hno 3 (by decide))]; exact ⟨rfl, rfl⟩)
      · obtain ⟨kz, hk1, hk2⟩ := hsw
        rcases (show kz = (0 : Int) ∨ kz = (1 : Int) ∨ kz = (2 : Int) ∨ kz = (3 : Int) by omega) with hkz | hkz | hkz | hkz
        · have hxe : x = (0 : Int32) := sw_val (hkz ▸ hk1) (by decide)
          refine g_tableIn (n := 60) (off := 32) hX dX8_told_28 (by rw [hxe]; decide) (by rw [hxe]; decide) (by rw [hxe]; rfl) (by decide) ?_
          refine g_aload_n (n := 61) hX dX8_told_60 rfl rfl rfl ?_
          refine g_mget (n := 64) 20 (v := .ref (A 16)) hX hU dX8_told_61 rfl uf_X8_59 rfl rfl rfl ?_
          refine g_iload_n (n := 65) hX dX8_told_64 rfl rfl rfl ?_
          refine g_mild (n := 66) 16 (v := σ.1 16 u) hX hY dX8_told_65 rfl rfl rfl (vp_in_nI (show u < mN 16 by show u < 9; omega) (by decide)) (by rw [nI_clamp (by omega)] <;> rfl) ?_
          exact g_iret hX hR dX8_told_66 (by rw [S_told, if_pos hU1, ecu, if_neg c22, if_pos hxe]; exact ⟨rfl, rfl⟩)
        · have hxe : x = (1 : Int32) := sw_val (hkz ▸ hk1) (by decide)
          refine g_tableIn (n := 67) (off := 39) hX dX8_told_28 (by rw [hxe]; decide) (by rw [hxe]; decide) (by rw [hxe]; rfl) (by decide) ?_
          refine g_aload_n (n := 68) hX dX8_told_67 rfl rfl rfl ?_
          refine g_mget (n := 71) 21 (v := .ref (A 17)) hX hU dX8_told_68 rfl uf_X8_62 rfl rfl rfl ?_
          refine g_iload_n (n := 72) hX dX8_told_71 rfl rfl rfl ?_
          refine g_mild (n := 73) 17 (v := σ.1 17 u) hX hY dX8_told_72 rfl rfl rfl (vp_in_nI (show u < mN 17 by show u < 9; omega) (by decide)) (by rw [nI_clamp (by omega)] <;> rfl) ?_
          exact g_iret hX hR dX8_told_73 (by rw [S_told, if_pos hU1, ecu, if_neg c22, if_neg (by rw [hxe]; decide), if_pos hxe]; exact ⟨rfl, rfl⟩)
        · have hxe : x = (2 : Int32) := sw_val (hkz ▸ hk1) (by decide)
          refine g_tableIn (n := 74) (off := 46) hX dX8_told_28 (by rw [hxe]; decide) (by rw [hxe]; decide) (by rw [hxe]; rfl) (by decide) ?_
          refine g_aload_n (n := 75) hX dX8_told_74 rfl rfl rfl ?_
          refine g_mget (n := 78) 22 (v := .ref (A 18)) hX hU dX8_told_75 rfl uf_X8_65 rfl rfl rfl ?_
          refine g_iload_n (n := 79) hX dX8_told_78 rfl rfl rfl ?_
          refine g_mild (n := 80) 18 (v := σ.1 18 u) hX hY dX8_told_79 rfl rfl rfl (vp_in_nI (show u < mN 18 by show u < 9; omega) (by decide)) (by rw [nI_clamp (by omega)] <;> rfl) ?_
          exact g_iret hX hR dX8_told_80 (by rw [S_told, if_pos hU1, ecu, if_neg c22, if_neg (by rw [hxe]; decide), if_neg (by rw [hxe]; decide), if_pos hxe]; exact ⟨rfl, rfl⟩)
        · have hxe : x = (3 : Int32) := sw_val (hkz ▸ hk1) (by decide)
          refine g_tableIn (n := 81) (off := 53) hX dX8_told_28 (by rw [hxe]; decide) (by rw [hxe]; decide) (by rw [hxe]; rfl) (by decide) ?_
          refine g_aload_n (n := 82) hX dX8_told_81 rfl rfl rfl ?_
          refine g_mget (n := 85) 23 (v := .ref (A 19)) hX hU dX8_told_82 rfl uf_X8_68 rfl rfl rfl ?_
          refine g_iload_n (n := 86) hX dX8_told_85 rfl rfl rfl ?_
          refine g_mild (n := 87) 19 (v := σ.1 19 u) hX hY dX8_told_86 rfl rfl rfl (vp_in_nI (show u < mN 19 by show u < 9; omega) (by decide)) (by rw [nI_clamp (by omega)] <;> rfl) ?_
          exact g_iret hX hR dX8_told_87 (by rw [S_told, if_pos hU1, ecu, if_neg c22, if_neg (by rw [hxe]; decide), if_neg (by rw [hxe]; decide), if_neg (by rw [hxe]; decide), if_pos hxe]; exact ⟨rfl, rfl⟩)
    · refine g_iconst (n := 26) (v := (-1)) hX dX8_told_25 rfl rfl ?_
      exact g_iret hX hR dX8_told_26 (by rw [S_told, if_pos hU1, ecu, if_pos c22]; exact ⟨rfl, rfl⟩)
  · refine g_aload_n (n := 1) hX dX8_told_0 rfl rfl rfl ?_
    refine g_iconst (n := 2) (v := 0) hX dX8_told_1 rfl rfl ?_
    refine g_mput (n := 5) 0 hX hU dX8_told_2 rfl uf_X8_87 rfl rfl rfl rfl rfl ?_
    refine g_aload_n (n := 6) hX dX8_told_5 rfl rfl rfl ?_
    refine g_iload_n (n := 7) hX dX8_told_6 rfl rfl rfl ?_
    refine g_callV0 (n := 10) (As := [.int uu]) (rest := []) hX hE hU hY dX8_told_7 rfl yv_X8_isUnit um_X8_116 (m_isUnit _ _ K am A (sF σ 0 0) uu) ⟨rfl, rfl⟩ (rm_le hRm rfl rfl) rfl (ci := 10) (q0 := 0) rfl rfl rfl rfl (Nat.le_of_ble_eq_true rfl) ⟨Nat.zero_le _, Nat.zero_le _⟩ (fun v0 w0 hq0 => ?_)
    obtain ⟨rfl, rfl⟩ := hq0
    show G Γ (mW K am A (sF σ 0 0)) 0 0 10 [(0, .ref am), (1, .int uu), (2, .int x)] [.int (bI (1 ≤ uu ∧ uu ≤ σ.2 2))]
    refine g_if_ne (n := 13) (tgt := 16) hX dX8_told_10 rfl (by decide) (fun c10 => absurd (bI_z.mpr hU1) c10) (fun c10 => ?_)
    refine g_bipush (n := 15) (v := (-2)) hX dX8_told_13 rfl rfl ?_
    exact g_iret hX hR dX8_told_15 (by rw [S_told, if_neg hU1]; exact ⟨rfl, rfl⟩)

set_option maxHeartbeats 4000000 in
set_option maxRecDepth 100000 in
theorem m_mark (l : Launch) (D : va_G) (K : Nat → ClassId) (am : Nat) (A : Nat → Nat) (σ : MS) (uu i : Int32) (hg : rg σ) : Mc l yX8_mark (wM yX8_mark cX8_mark 3 (some .int)) (rmL 1 0 0) D (yY K) [.ref am, .int uu, .int i] (mW K am A σ) (fun v w => v = some (.int (S_mark σ uu i).1) ∧ w = mW K am A (S_mark σ uu i).2) 0 0 := by
  refine m_start (lv := [(0, .ref am), (1, .int uu), (2, .int i)]) rfl (Nat.le_of_ble_eq_true rfl) rfl (fun Γ hX hRm hnL hY hDD hLa hR hI hE => ?_)
  have hU : ∀ w ∈ wU, w ∈ wM yX8_mark cX8_mark 3 (some .int) := fun w h => wM_in h
  subst hLa
  subst hDD
  by_cases hU1 : 1 ≤ uu ∧ uu ≤ σ.2 2
  · obtain ⟨u, rfl, hu1, hu2, -, -⟩ := in1 hg.2.1 (by decide) hU1
    have ecu : (nI u).toNatClampNeg = u := nI_clamp (by omega)
    obtain ⟨mk, hmk, hmk2⟩ := hg.2.2.2.2.2.2.2 u (by omega)
    refine g_aload_n (n := 1) hX dX8_mark_0 rfl rfl rfl ?_
    refine g_iconst (n := 2) (v := 0) hX dX8_mark_1 rfl rfl ?_
    refine g_mput (n := 5) 0 hX hU dX8_mark_2 rfl uf_X8_87 rfl rfl rfl rfl rfl ?_
    refine g_aload_n (n := 6) hX dX8_mark_5 rfl rfl rfl ?_
    refine g_iload_n (n := 7) hX dX8_mark_6 rfl rfl rfl ?_
    refine g_callV0 (n := 10) (As := [.int (nI u)]) (rest := []) hX hE hU hY dX8_mark_7 rfl yv_X8_isUnit um_X8_116 (m_isUnit _ _ K am A (sF σ 0 0) (nI u)) ⟨rfl, rfl⟩ (rm_le hRm rfl rfl) rfl (ci := 10) (q0 := 0) rfl rfl rfl rfl (Nat.le_of_ble_eq_true rfl) ⟨Nat.zero_le _, Nat.zero_le _⟩ (fun v0 w0 hq0 => ?_)
    obtain ⟨rfl, rfl⟩ := hq0
    show G Γ (mW K am A (sF σ 0 0)) 0 0 10 [(0, .ref am), (1, .int (nI u)), (2, .int i)] [.int (bI (1 ≤ (nI u) ∧ (nI u) ≤ σ.2 2))]
    refine g_if_eq (n := 13) (tgt := 44) hX dX8_mark_10 rfl (by decide) (fun c10 => absurd c10 (fun h9 => bI_z.mp h9 hU1)) (fun c10 => ?_)
    refine g_iload_n (n := 14) hX dX8_mark_13 rfl rfl rfl ?_
    refine g_if_lt (n := 17) (tgt := 44) hX dX8_mark_14 rfl (by decide) (fun c14 => ?_) (fun c14 => ?_)
    · refine g_iconst (n := 45) (v := (-1)) hX dX8_mark_44 rfl rfl ?_
      exact g_iret hX hR dX8_mark_45 (by rw [S_mark, if_pos hU1, ecu, if_pos c14]; exact ⟨rfl, rfl⟩)
    · refine g_iload_n (n := 18) hX dX8_mark_17 rfl rfl rfl ?_
      refine g_aload_n (n := 19) hX dX8_mark_18 rfl rfl rfl ?_
      refine g_mget (n := 22) 23 (v := .ref (A 19)) hX hU dX8_mark_19 rfl uf_X8_68 rfl rfl rfl ?_
      refine g_iload_n (n := 23) hX dX8_mark_22 rfl rfl rfl ?_
      refine g_mild (n := 24) 19 (v := σ.1 19 u) hX hY dX8_mark_23 rfl rfl rfl (vp_in_nI (show u < mN 19 by show u < 9; omega) (by decide)) (by rw [nI_clamp (by omega)] <;> rfl) ?_
      refine g_icmp_ge (n := 27) (tgt := 44) hX dX8_mark_24 rfl (by decide) (fun c24 => ?_) (fun c24 => ?_)
      · refine g_iconst (n := 45) (v := (-1)) hX dX8_mark_44 rfl rfl ?_
        exact g_iret hX hR dX8_mark_45 (by rw [S_mark, if_pos hU1, ecu, if_neg c14, if_pos c24]; exact ⟨rfl, rfl⟩)
      · obtain ⟨j, hj, rfl⟩ := nI_of c14
        have hjm : j < mk := by rcases Nat.lt_or_ge j mk with h9 | h9; exact h9; exact absurd (by rw [hmk]; exact nI_le h9 (by omega)) c24
        have ej : (nI j).toNatClampNeg = j := nI_clamp hj
        refine g_aload_n (n := 28) hX dX8_mark_27 rfl rfl rfl ?_
        refine g_mget (n := 31) 25 (v := .ref (A 21)) hX hU dX8_mark_28 rfl uf_X8_75 rfl rfl rfl ?_
        refine g_bipush (n := 33) (v := 100) hX dX8_mark_31 rfl rfl ?_
        refine g_iload_n (n := 34) hX dX8_mark_33 rfl rfl rfl ?_
        refine g_imul (n := 35) (v := nI (100 * u)) hX dX8_mark_34 rfl (pk_mul (100) (u)) ?_
        refine g_bipush (n := 37) (v := 100) hX dX8_mark_35 rfl rfl ?_
        refine g_isub (n := 38) (v := nI (100 * u - 100)) hX dX8_mark_37 rfl (by rw [show (100 : Int32) = nI 100 from rfl, pk_sub (by omega)]) ?_
        refine g_iload_n (n := 39) hX dX8_mark_38 rfl rfl rfl ?_
        refine g_iadd (n := 40) (v := nI (100 * u - 100 + j)) hX dX8_mark_39 rfl (nI_add (100 * u - 100) (j)) ?_
        refine g_mild (n := 41) 21 (v := σ.1 21 (100 * u - 100 + j)) hX hY dX8_mark_40 rfl rfl rfl (vp_in_nI (show 100 * u - 100 + j < mN 21 by show 100 * u - 100 + j < 900; omega) (by decide)) (by rw [nI_clamp (by omega)] <;> rfl) ?_
        refine g_goto (n := 45) hX dX8_mark_41 (by decide) ?_
        exact g_iret hX hR dX8_mark_45 (by rw [S_mark, if_pos hU1, ecu, if_neg c14, if_neg c24, ej]; exact ⟨rfl, rfl⟩)
  · refine g_aload_n (n := 1) hX dX8_mark_0 rfl rfl rfl ?_
    refine g_iconst (n := 2) (v := 0) hX dX8_mark_1 rfl rfl ?_
    refine g_mput (n := 5) 0 hX hU dX8_mark_2 rfl uf_X8_87 rfl rfl rfl rfl rfl ?_
    refine g_aload_n (n := 6) hX dX8_mark_5 rfl rfl rfl ?_
    refine g_iload_n (n := 7) hX dX8_mark_6 rfl rfl rfl ?_
    refine g_callV0 (n := 10) (As := [.int uu]) (rest := []) hX hE hU hY dX8_mark_7 rfl yv_X8_isUnit um_X8_116 (m_isUnit _ _ K am A (sF σ 0 0) uu) ⟨rfl, rfl⟩ (rm_le hRm rfl rfl) rfl (ci := 10) (q0 := 0) rfl rfl rfl rfl (Nat.le_of_ble_eq_true rfl) ⟨Nat.zero_le _, Nat.zero_le _⟩ (fun v0 w0 hq0 => ?_)
    obtain ⟨rfl, rfl⟩ := hq0
    show G Γ (mW K am A (sF σ 0 0)) 0 0 10 [(0, .ref am), (1, .int uu), (2, .int i)] [.int (bI (1 ≤ uu ∧ uu ≤ σ.2 2))]
    refine g_if_eq (n := 13) (tgt := 44) hX dX8_mark_10 rfl (by decide) (fun c10 => ?_) (fun c10 => absurd (bI_z.mpr hU1) c10)
    refine g_iconst (n := 45) (v := (-1)) hX dX8_mark_44 rfl rfl ?_
    exact g_iret hX hR dX8_mark_45 (by rw [S_mark, if_neg hU1]; exact ⟨rfl, rfl⟩)

set_option maxHeartbeats 4000000 in
set_option maxRecDepth 100000 in
theorem m_state (l : Launch) (D : va_G) (K : Nat → ClassId) (am : Nat) (A : Nat → Nat) (σ : MS) (cc0 : Int32) (hg : rg σ) : Mc l yX8_state (wM yX8_state cX8_state 2 (some .int)) (rmL 0 0 0) D (yY K) [.ref am, .int cc0] (mW K am A σ) (fun v w => v = some (.int (S_state σ cc0).1) ∧ w = mW K am A (S_state σ cc0).2) 0 0 := by
  refine m_start (lv := [(0, .ref am), (1, .int cc0)]) rfl (Nat.le_of_ble_eq_true rfl) rfl (fun Γ hX hRm hnL hY hDD hLa hR hI hE => ?_)
  have hU : ∀ w ∈ wU, w ∈ wM yX8_state cX8_state 2 (some .int) := fun w h => wM_in h
  subst hLa
  subst hDD
  by_cases hC : 1 ≤ cc0 ∧ cc0 ≤ σ.2 3
  · obtain ⟨c, rfl, hc1, hc2, -, -⟩ := in1 hg.2.2.1 (by decide) hC
    have ecc : (nI c).toNatClampNeg = c := nI_clamp (by omega)
    obtain ⟨uo, huo, huo2⟩ := (hg.2.2.2.2.2.1 c hc2).1
    have euo : nA σ 6 c = uo := nA_of huo (by omega)
    refine g_aload_n (n := 1) hX dX8_state_0 rfl rfl rfl ?_
    refine g_iconst (n := 2) (v := 0) hX dX8_state_1 rfl rfl ?_
    refine g_mput (n := 5) 0 hX hU dX8_state_2 rfl uf_X8_87 rfl rfl rfl rfl rfl ?_
    refine g_iload_n (n := 6) hX dX8_state_5 rfl rfl rfl ?_
    refine g_iconst (n := 7) (v := 1) hX dX8_state_6 rfl rfl ?_
    refine g_icmp_lt (n := 10) (tgt := 18) hX dX8_state_7 rfl (by decide) (fun c7 => absurd c7 (Int32.not_lt.mpr hC.1)) (fun c7 => ?_)
    refine g_iload_n (n := 11) hX dX8_state_10 rfl rfl rfl ?_
    refine g_aload_n (n := 12) hX dX8_state_11 rfl rfl rfl ?_
    refine g_mget (n := 15) 3 (v := .int (σ.2 3)) hX hU dX8_state_12 rfl uf_X8_113 rfl rfl rfl ?_
    refine g_icmp_le (n := 18) (tgt := 21) hX dX8_state_15 rfl (by decide) (fun c15 => ?_) (fun c15 => absurd hC.2 c15)
    refine g_aload_n (n := 22) hX dX8_state_21 rfl rfl rfl ?_
    refine g_mget (n := 25) 15 (v := .ref (A 11)) hX hU dX8_state_22 rfl uf_X8_44 rfl rfl rfl ?_
    refine g_iload_n (n := 26) hX dX8_state_25 rfl rfl rfl ?_
    refine g_mzld (n := 27) 11 (v := σ.1 11 c) hX hY dX8_state_26 rfl rfl rfl (vp_in_nI (show c < mN 11 by show c < 41; omega) (by decide)) (by rw [nI_clamp (by omega)] <;> rfl) ?_
    refine g_if_eq (n := 30) (tgt := 32) hX dX8_state_27 rfl (by decide) (fun c27 => ?_) (fun c27 => ?_)
    · refine g_aload_n (n := 33) hX dX8_state_32 rfl rfl rfl ?_
      refine g_mget (n := 36) 16 (v := .ref (A 12)) hX hU dX8_state_33 rfl uf_X8_47 rfl rfl rfl ?_
      refine g_aload_n (n := 37) hX dX8_state_36 rfl rfl rfl ?_
      refine g_mget (n := 40) 10 (v := .ref (A 6)) hX hU dX8_state_37 rfl uf_X8_29 rfl rfl rfl ?_
      refine g_iload_n (n := 41) hX dX8_state_40 rfl rfl rfl ?_
      refine g_mild (n := 42) 6 (v := nI uo) hX hY dX8_state_41 rfl rfl rfl (vp_in_nI (show c < mN 6 by show c < 41; omega) (by decide)) (by rw [nI_clamp (by omega)]; exact huo) ?_
      refine g_mzld (n := 43) 12 (v := σ.1 12 uo) hX hY dX8_state_42 rfl rfl rfl (vp_in_nI (show uo < mN 12 by show uo < 9; omega) (by decide)) (by rw [nI_clamp (by omega)] <;> rfl) ?_
      refine g_if_eq (n := 46) (tgt := 50) hX dX8_state_43 rfl (by decide) (fun c43 => ?_) (fun c43 => ?_)
      · refine g_aload_n (n := 51) hX dX8_state_50 rfl rfl rfl ?_
        refine g_mget (n := 54) 13 (v := .ref (A 9)) hX hU dX8_state_51 rfl uf_X8_38 rfl rfl rfl ?_
        refine g_iload_n (n := 55) hX dX8_state_54 rfl rfl rfl ?_
        refine g_mzld (n := 56) 9 (v := σ.1 9 c) hX hY dX8_state_55 rfl rfl rfl (vp_in_nI (show c < mN 9 by show c < 41; omega) (by decide)) (by rw [nI_clamp (by omega)] <;> rfl) ?_
        refine g_if_eq (n := 59) (tgt := 63) hX dX8_state_56 rfl (by decide) (fun c56 => ?_) (fun c56 => ?_)
        · refine g_aload_n (n := 64) hX dX8_state_63 rfl rfl rfl ?_
          refine g_mget (n := 67) 14 (v := .ref (A 10)) hX hU dX8_state_64 rfl uf_X8_41 rfl rfl rfl ?_
          refine g_iload_n (n := 68) hX dX8_state_67 rfl rfl rfl ?_
          refine g_mzld (n := 69) 10 (v := σ.1 10 c) hX hY dX8_state_68 rfl rfl rfl (vp_in_nI (show c < mN 10 by show c < 41; omega) (by decide)) (by rw [nI_clamp (by omega)] <;> rfl) ?_
          refine g_if_eq (n := 72) (tgt := 76) hX dX8_state_69 rfl (by decide) (fun c69 => ?_) (fun c69 => ?_)
          · refine g_iconst (n := 77) (v := 0) hX dX8_state_76 rfl rfl ?_
            exact g_iret hX hR dX8_state_77 (by rw [S_state, if_pos hC, ecc, euo, if_pos c27, if_pos c43, if_pos c56, if_pos c69]; exact ⟨rfl, rfl⟩)
          · refine g_iconst (n := 73) (v := 1) hX dX8_state_72 rfl rfl ?_
            refine g_goto (n := 77) hX dX8_state_73 (by decide) ?_
            exact g_iret hX hR dX8_state_77 (by rw [S_state, if_pos hC, ecc, euo, if_pos c27, if_pos c43, if_pos c56, if_neg c69]; exact ⟨rfl, rfl⟩)
        · refine g_iconst (n := 60) (v := 3) hX dX8_state_59 rfl rfl ?_
          refine g_goto (n := 77) hX dX8_state_60 (by decide) ?_
          exact g_iret hX hR dX8_state_77 (by rw [S_state, if_pos hC, ecc, euo, if_pos c27, if_pos c43, if_neg c56]; exact ⟨rfl, rfl⟩)
      · refine g_iconst (n := 47) (v := 4) hX dX8_state_46 rfl rfl ?_
        refine g_goto (n := 77) hX dX8_state_47 (by decide) ?_
        exact g_iret hX hR dX8_state_77 (by rw [S_state, if_pos hC, ecc, euo, if_pos c27, if_neg c43]; exact ⟨rfl, rfl⟩)
    · refine g_iconst (n := 31) (v := 2) hX dX8_state_30 rfl rfl ?_
      exact g_iret hX hR dX8_state_31 (by rw [S_state, if_pos hC, ecc, euo, if_neg c27]; exact ⟨rfl, rfl⟩)
  · refine g_aload_n (n := 1) hX dX8_state_0 rfl rfl rfl ?_
    refine g_iconst (n := 2) (v := 0) hX dX8_state_1 rfl rfl ?_
    refine g_mput (n := 5) 0 hX hU dX8_state_2 rfl uf_X8_87 rfl rfl rfl rfl rfl ?_
    refine g_iload_n (n := 6) hX dX8_state_5 rfl rfl rfl ?_
    refine g_iconst (n := 7) (v := 1) hX dX8_state_6 rfl rfl ?_
    refine g_icmp_lt (n := 10) (tgt := 18) hX dX8_state_7 rfl (by decide) (fun c7 => ?_) (fun c7 => ?_)
    · refine g_bipush (n := 20) (v := (-2)) hX dX8_state_18 rfl rfl ?_
      exact g_iret hX hR dX8_state_20 (by rw [S_state, if_neg hC]; exact ⟨rfl, rfl⟩)
    · refine g_iload_n (n := 11) hX dX8_state_10 rfl rfl rfl ?_
      refine g_aload_n (n := 12) hX dX8_state_11 rfl rfl rfl ?_
      refine g_mget (n := 15) 3 (v := .int (σ.2 3)) hX hU dX8_state_12 rfl uf_X8_113 rfl rfl rfl ?_
      refine g_icmp_le (n := 18) (tgt := 21) hX dX8_state_15 rfl (by decide) (fun c15 => absurd c15 (fun h9 => hC ⟨Int32.not_lt.mp c7, h9⟩)) (fun c15 => ?_)
      refine g_bipush (n := 20) (v := (-2)) hX dX8_state_18 rfl rfl ?_
      exact g_iret hX hR dX8_state_20 (by rw [S_state, if_neg hC]; exact ⟨rfl, rfl⟩)

