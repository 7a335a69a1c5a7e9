set_option maxHeartbeats 4000000 in
set_option maxRecDepth 100000 in
theorem m_program (l : Launch) (D : va_G) (K : Nat → ClassId) (am : Nat) (A : Nat → Nat) (σ : MS) (z sf : Int32) (hg : rg σ) (hsf : isB sf) : Mc l yX8_program (wM yX8_program cX8_program 3 (some .int)) (rmL 0 0 0) D (yY K) [.ref am, .int z, .int sf] (mW K am A σ) (fun v w => v = some (.int (S_program σ z sf).1) ∧ w = mW K am A (S_program σ z sf).2) 0 0 := by
  refine m_start (lv := [(0, .ref am), (1, .int z), (2, .int sf)]) rfl (Nat.le_of_ble_eq_true rfl) rfl (fun Γ hX hRm hnL hY hDD hLa hR hI hE => ?_)
  have hU : ∀ w ∈ wU, w ∈ wM yX8_program cX8_program 3 (some .int) := fun w h => wM_in h
  subst hLa
  subst hDD
  obtain ⟨np, hnp, hnp2⟩ := hg.1
  by_cases h12 : np = 12
  · have h12n : nF σ 1 = 12 := by rw [nF_of hnp (by omega), h12]
    refine g_aload_n (n := 1) hX dX8_program_0 rfl rfl rfl ?_
    refine g_iconst (n := 2) (v := 0) hX dX8_program_1 rfl rfl ?_
    refine g_mput (n := 5) 0 hX hU dX8_program_2 rfl uf_X8_87 rfl rfl rfl rfl rfl ?_
    refine g_iload_n (n := 6) hX dX8_program_5 rfl rfl rfl ?_
    refine g_iconst (n := 7) (v := 1) hX dX8_program_6 rfl rfl ?_
    refine g_icmp_lt (n := 10) (tgt := 16) hX dX8_program_7 rfl (by decide) (fun c7 => ?_) (fun c7 => ?_)
    · refine g_bipush (n := 18) (v := (-4)) hX dX8_program_16 rfl rfl ?_
      exact g_iret hX hR dX8_program_18 (by rw [S_program, if_pos c7]; exact ⟨rfl, rfl⟩)
    · refine g_iload_n (n := 11) hX dX8_program_10 rfl rfl rfl ?_
      refine g_bipush (n := 13) (v := 100) hX dX8_program_11 rfl rfl ?_
      refine g_icmp_le (n := 16) (tgt := 19) hX dX8_program_13 rfl (by decide) (fun c13 => ?_) (fun c13 => ?_)
      · refine g_aload_n (n := 20) hX dX8_program_19 rfl rfl rfl ?_
        refine g_mget (n := 23) 1 (v := .int (nI np)) hX hU dX8_program_20 rfl uf_X8_91 rfl rfl (congrArg (fun z => some (Value.int z)) hnp) ?_
        refine g_bipush (n := 25) (v := 12) hX dX8_program_23 rfl rfl ?_
        refine g_icmp_ne (n := 28) (tgt := 30) hX dX8_program_25 rfl (by decide) (fun c25 => absurd (by rw [h12] <;> rfl) c25) (fun c25 => ?_)
        refine g_iconst (n := 29) (v := (-1)) hX dX8_program_28 rfl rfl ?_
        exact g_iret hX hR dX8_program_29 (by rw [S_program, if_neg c7, if_pos c13, if_pos h12n]; exact ⟨rfl, rfl⟩)
      · refine g_bipush (n := 18) (v := (-4)) hX dX8_program_16 rfl rfl ?_
        exact g_iret hX hR dX8_program_18 (by rw [S_program, if_neg c7, if_neg c13]; exact ⟨rfl, rfl⟩)
  · have h12n : ¬ nF σ 1 = 12 := by rw [nF_of hnp (by omega)]; exact h12
    refine g_aload_n (n := 1) hX dX8_program_0 rfl rfl rfl ?_
    refine g_iconst (n := 2) (v := 0) hX dX8_program_1 rfl rfl ?_
    refine g_mput (n := 5) 0 hX hU dX8_program_2 rfl uf_X8_87 rfl rfl rfl rfl rfl ?_
    refine g_iload_n (n := 6) hX dX8_program_5 rfl rfl rfl ?_
    refine g_iconst (n := 7) (v := 1) hX dX8_program_6 rfl rfl ?_
    refine g_icmp_lt (n := 10) (tgt := 16) hX dX8_program_7 rfl (by decide) (fun c7 => ?_) (fun c7 => ?_)
    · refine g_bipush (n := 18) (v := (-4)) hX dX8_program_16 rfl rfl ?_
      exact g_iret hX hR dX8_program_18 (by rw [S_program, if_pos c7]; exact ⟨rfl, rfl⟩)
    · refine g_iload_n (n := 11) hX dX8_program_10 rfl rfl rfl ?_
      refine g_bipush (n := 13) (v := 100) hX dX8_program_11 rfl rfl ?_
      refine g_icmp_le (n := 16) (tgt := 19) hX dX8_program_13 rfl (by decide) (fun c13 => ?_) (fun c13 => ?_)
      · refine g_aload_n (n := 20) hX dX8_program_19 rfl rfl rfl ?_
        refine g_mget (n := 23) 1 (v := .int (nI np)) hX hU dX8_program_20 rfl uf_X8_91 rfl rfl (congrArg (fun z => some (Value.int z)) hnp) ?_
        refine g_bipush (n := 25) (v := 12) hX dX8_program_23 rfl rfl ?_
        refine g_icmp_ne (n := 28) (tgt := 30) hX dX8_program_25 rfl (by decide) (fun c25 => ?_) (fun c25 => absurd c25 (fun h9 => h12 ((nI_eq (by omega) (by decide)).mp (h9 : nI np = nI 12))))
        refine g_aload_n (n := 31) hX dX8_program_30 rfl rfl rfl ?_
        refine g_dup (n := 32) hX dX8_program_31 rfl rfl ?_
        refine g_mget (n := 35) 1 (v := .int (nI np)) hX hU dX8_program_32 rfl uf_X8_91 rfl rfl (congrArg (fun z => some (Value.int z)) hnp) ?_
        refine g_iconst (n := 36) (v := 1) hX dX8_program_35 rfl rfl ?_
        refine g_iadd (n := 37) (v := nI (np + 1)) hX dX8_program_36 rfl (nI_add (np) (1)) ?_
        refine g_mput (n := 40) 1 hX hU dX8_program_37 rfl uf_X8_91 rfl rfl rfl rfl rfl ?_
        refine g_aload_n (n := 41) hX dX8_program_40 rfl rfl rfl ?_
        refine g_mget (n := 44) 4 (v := .ref (A 0)) hX hU dX8_program_41 rfl uf_X8_7 rfl rfl rfl ?_
        refine g_aload_n (n := 45) hX dX8_program_44 rfl rfl rfl ?_
        refine g_mget (n := 48) 1 (v := .int (nI (np + 1))) hX hU dX8_program_45 rfl uf_X8_91 rfl rfl rfl ?_
        refine g_iload_n (n := 49) hX dX8_program_48 rfl rfl rfl ?_
        refine g_mist (n := 50) 0 (i0 := np + 1) hX hY dX8_program_49 rfl rfl rfl (vp_in_nI (show np + 1 < mN 0 by show np + 1 < 13; omega) (by decide)) (nI_clamp (by omega)) ?_
        refine g_aload_n (n := 51) hX dX8_program_50 rfl rfl rfl ?_
        refine g_mget (n := 54) 9 (v := .ref (A 5)) hX hU dX8_program_51 rfl uf_X8_25 rfl rfl rfl ?_
        refine g_aload_n (n := 55) hX dX8_program_54 rfl rfl rfl ?_
        refine g_mget (n := 58) 1 (v := .int (nI (np + 1))) hX hU dX8_program_55 rfl uf_X8_91 rfl rfl rfl ?_
        refine g_iload_n (n := 59) hX dX8_program_58 rfl rfl rfl ?_
        refine g_mzst (n := 60) 5 (i0 := np + 1) hX hY dX8_program_59 rfl rfl rfl (vp_in_nI (show np + 1 < mN 5 by show np + 1 < 13; omega) (by decide)) (nI_clamp (by omega)) ?_
        refine g_aload_n (n := 61) hX dX8_program_60 rfl rfl rfl ?_
        refine g_mget (n := 64) 1 (v := .int (nI (np + 1))) hX hU dX8_program_61 rfl uf_X8_91 rfl rfl rfl ?_
        exact g_iret hX hR dX8_program_64 (by rw [S_program, if_neg c7, if_pos c13, if_neg h12n]; rw [nF_of hnp (by omega), isB_nar hsf]; exact ⟨rfl, rfl⟩)
      · refine g_bipush (n := 18) (v := (-4)) hX dX8_program_16 rfl rfl ?_
        exact g_iret hX hR dX8_program_18 (by rw [S_program, if_neg c7, if_neg c13]; exact ⟨rfl, rfl⟩)

set_option maxHeartbeats 4000000 in
set_option maxRecDepth 100000 in
theorem m_unit (l : Launch) (D : va_G) (K : Nat → ClassId) (am : Nat) (A : Nat → Nat) (σ : MS) (hg : rg σ) : Mc l yX8_unit (wM yX8_unit cX8_unit 1 (some .int)) (rmL 0 0 0) D (yY K) [.ref am] (mW K am A σ) (fun v w => v = some (.int (S_unit σ).1) ∧ w = mW K am A (S_unit σ).2) 0 0 := by
  refine m_start (lv := [(0, .ref am)]) rfl (Nat.le_of_ble_eq_true rfl) rfl (fun Γ hX hRm hnL hY hDD hLa hR hI hE => ?_)
  have hU : ∀ w ∈ wU, w ∈ wM yX8_unit cX8_unit 1 (some .int) := fun w h => wM_in h
  subst hLa
  subst hDD
  obtain ⟨np, hnp, hnp2⟩ := hg.2.1
  by_cases h12 : np = 8
  · have h12n : nF σ 2 = 8 := by rw [nF_of hnp (by omega), h12]
    refine g_aload_n (n := 1) hX dX8_unit_0 rfl rfl rfl ?_
    refine g_iconst (n := 2) (v := 0) hX dX8_unit_1 rfl rfl ?_
    refine g_mput (n := 5) 0 hX hU dX8_unit_2 rfl uf_X8_87 rfl rfl rfl rfl rfl ?_
    refine g_aload_n (n := 6) hX dX8_unit_5 rfl rfl rfl ?_
    refine g_mget (n := 9) 2 (v := .int (nI np)) hX hU dX8_unit_6 rfl uf_X8_94 rfl rfl (congrArg (fun z => some (Value.int z)) hnp) ?_
    refine g_bipush (n := 11) (v := 8) hX dX8_unit_9 rfl rfl ?_
    refine g_icmp_ne (n := 14) (tgt := 16) hX dX8_unit_11 rfl (by decide) (fun c11 => absurd (by rw [h12] <;> rfl) c11) (fun c11 => ?_)
    refine g_iconst (n := 15) (v := (-1)) hX dX8_unit_14 rfl rfl ?_
    exact g_iret hX hR dX8_unit_15 (by rw [S_unit, if_pos h12n]; exact ⟨rfl, rfl⟩)
  · have h12n : ¬ nF σ 2 = 8 := by rw [nF_of hnp (by omega)]; exact h12
    refine g_aload_n (n := 1) hX dX8_unit_0 rfl rfl rfl ?_
    refine g_iconst (n := 2) (v := 0) hX dX8_unit_1 rfl rfl ?_
    refine g_mput (n := 5) 0 hX hU dX8_unit_2 rfl uf_X8_87 rfl rfl rfl rfl rfl ?_
    refine g_aload_n (n := 6) hX dX8_unit_5 rfl rfl rfl ?_
    refine g_mget (n := 9) 2 (v := .int (nI np)) hX hU dX8_unit_6 rfl uf_X8_94 rfl rfl (congrArg (fun z => some (Value.int z)) hnp) ?_
    refine g_bipush (n := 11) (v := 8) hX dX8_unit_9 rfl rfl ?_
    refine g_icmp_ne (n := 14) (tgt := 16) hX dX8_unit_11 rfl (by decide) (fun c11 => ?_) (fun c11 => absurd c11 (fun h9 => h12 ((nI_eq (by omega) (by decide)).mp (h9 : nI np = nI 8))))
    refine g_aload_n (n := 17) hX dX8_unit_16 rfl rfl rfl ?_
    refine g_dup (n := 18) hX dX8_unit_17 rfl rfl ?_
    refine g_mget (n := 21) 2 (v := .int (nI np)) hX hU dX8_unit_18 rfl uf_X8_94 rfl rfl (congrArg (fun z => some (Value.int z)) hnp) ?_
    refine g_iconst (n := 22) (v := 1) hX dX8_unit_21 rfl rfl ?_
    refine g_iadd (n := 23) (v := nI (np + 1)) hX dX8_unit_22 rfl (nI_add (np) (1)) ?_
    refine g_mput (n := 26) 2 hX hU dX8_unit_23 rfl uf_X8_94 rfl rfl rfl rfl rfl ?_
    refine g_aload_n (n := 27) hX dX8_unit_26 rfl rfl rfl ?_
    refine g_mget (n := 30) 2 (v := .int (nI (np + 1))) hX hU dX8_unit_27 rfl uf_X8_94 rfl rfl rfl ?_
    exact g_iret hX hR dX8_unit_30 (by rw [S_unit, if_neg h12n]; rw [nF_of hnp (by omega)]; exact ⟨rfl, rfl⟩)

set_option maxHeartbeats 4000000 in
set_option maxRecDepth 100000 in
theorem m_isRow (l : Launch) (D : va_G) (K : Nat → ClassId) (am : Nat) (A : Nat → Nat) (σ : MS) (p : Nat) (o a b : Int32) (hp : p ≤ 12) : Mc l yX8_isRow (wM yX8_isRow cX8_isRow 6 (some .boolean)) (rmL 1 0 0) D (yY K) [.ref am, .int (nI p), .int o, .int a, .int b] (mW K am A σ) (fun v w => v = some (.int (okB (σ.1 0 p) o a b)) ∧ w = mW K am A σ) 0 0 := by
  refine m_start (lv := [(0, .ref am), (1, .int (nI p)), (2, .int o), (3, .int a), (4, .int b)]) rfl (Nat.le_of_ble_eq_true rfl) rfl (fun Γ hX hRm hnL hY hDD hLa hR hI hE => ?_)
  have hU : ∀ w ∈ wU, w ∈ wM yX8_isRow cX8_isRow 6 (some .boolean) := fun w h => wM_in h
  subst hLa
  subst hDD
  refine g_iload_n (n := 1) hX dX8_isRow_0 rfl rfl rfl ?_
  refine g_iconst (n := 2) (v := 0) hX dX8_isRow_1 rfl rfl ?_
  refine g_aload_n (n := 3) hX dX8_isRow_2 rfl rfl rfl ?_
  refine g_mget (n := 6) 4 (v := .ref (A 0)) hX hU dX8_isRow_3 rfl uf_X8_7 rfl rfl rfl ?_
  refine g_iload_n (n := 7) hX dX8_isRow_6 rfl rfl rfl ?_
  refine g_mild (n := 8) 0 (v := σ.1 0 p) hX hY dX8_isRow_7 rfl rfl rfl (vp_in_nI (show p < mN 0 by show p < 13; omega) (by decide)) (by rw [nI_clamp (by omega)] <;> rfl) ?_
  refine g_iconst (n := 9) (v := 1) hX dX8_isRow_8 rfl rfl ?_
  refine g_isub (n := 10) (v := (σ.1 0 p) - 1) hX dX8_isRow_9 rfl rfl ?_
  refine g_callS0 (n := 13) (As := [.int a, .int 0, .int ((σ.1 0 p) - 1)]) (rest := []) hX hE hU hY dX8_isRow_10 rfl ys_X8_isIn um_X8_97 (m_isIn _ _ K (mW K am A σ) a 0 ((σ.1 0 p) - 1)) ⟨rfl, rfl⟩ (rm_le hRm rfl rfl) rfl rfl (Nat.le_of_ble_eq_true rfl) ⟨Nat.zero_le _, Nat.zero_le _⟩ (fun v0 w0 hq0 => ?_)
  obtain ⟨rfl, rfl⟩ := hq0
  show G Γ (mW K am A σ) 0 0 13 [(0, .ref am), (1, .int (nI p)), (2, .int o), (3, .int a), (4, .int b)] [.int (bI (0 ≤ a ∧ a ≤ ((σ.1 0 p) - 1)))]
  refine g_istore (lv' := [(5, .int (bI (0 ≤ a ∧ a ≤ ((σ.1 0 p) - 1)))), (0, .ref am), (1, .int (nI p)), (2, .int o), (3, .int a), (4, .int b)]) (n := 15) hX dX8_isRow_13 rfl (by rw [hnL]; rfl) rfl ?_
  refine g_iload_n (n := 16) hX dX8_isRow_15 rfl rfl rfl ?_
  rcases sw_split o (0) (13) with hsw | hsw
  · refine g_tableOut (n := 158) hX dX8_isRow_16 hsw (by decide) ?_
    have hno : ∀ q : Int32, (0 ≤ q.toInt ∧ q.toInt ≤ 13) → ¬ o = q := fun q hq h9 => by rw [h9] at hsw; omega
    have hno2 : ¬ (0 < o ∧ o < 8) := fun h9 => by have h1 := Int32.lt_iff_toInt_lt.mp h9.1; have h2 := Int32.lt_iff_toInt_lt.mp h9.2; have e1 : (0 : Int32).toInt = 0 := rfl; have e2 : (8 : Int32).toInt = 8 := rfl; omega
    refine g_iload_n (n := 159) hX dX8_isRow_158 rfl rfl rfl ?_
    refine g_if_le (n := 162) (tgt := 194) hX dX8_isRow_159 rfl (by decide) (fun c159 => ?_) (fun c159 => ?_)
    · refine g_iconst (n := 195) (v := 0) hX dX8_isRow_194 rfl rfl ?_
      exact g_zret hX hR dX8_isRow_195 rfl (by rw [okB, if_neg (by first | (rw [hxe]; decide) | exact hno _ (by decide)), if_neg (by first | (rw [hxe]; decide) | exact hno _ (by decide)), if_neg (by first | (rw [hxe]; decide) | exact hno _ (by decide)), if_neg (by first | (rw [hxe]; decide) | exact hno _ (by decide)), if_neg (by first | (rw [hxe]; decide) | exact hno _ (by decide)), if_neg (by first | (rw [hxe]; decide) | exact hno _ (by decide)), if_neg (by first | (rw [hxe]; decide) | exact hno _ (by decide)), if_neg hno2]; exact ⟨rfl, rfl⟩)
    · refine g_iload_n (n := 163) hX dX8_isRow_162 rfl rfl rfl ?_
      refine g_bipush (n := 165) (v := 8) hX dX8_isRow_163 rfl rfl ?_
      refine g_icmp_ge (n := 168) (tgt := 194) hX dX8_isRow_165 rfl (by decide) (fun c165 => ?_) (fun c165 => absurd (Int32.not_lt.mp (fun h9 => hno2 ⟨Int32.not_le.mp c159, h9⟩)) c165)
      refine g_iconst (n := 195) (v := 0) hX dX8_isRow_194 rfl rfl ?_
      exact g_zret hX hR dX8_isRow_195 rfl (by rw [okB, if_neg (by first | (rw [hxe]; decide) | exact hno _ (by decide)), if_neg (by first | (rw [hxe]; decide) | exact hno _ (by decide)), if_neg (by first | (rw [hxe]; decide) | exact hno _ (by decide)), if_neg (by first | (rw [hxe]; decide) | exact hno _ (by decide)), if_neg (by first | (rw [hxe]; decide) | exact hno _ (by decide)), if_neg (by first | (rw [hxe]; decide) | exact hno _ (by decide)), if_neg (by first | (rw [hxe]; decide) | exact hno _ (by decide)), if_neg hno2]; exact ⟨rfl, rfl⟩)
  · obtain ⟨kz, hk1, hk2⟩ := hsw
    rcases (show kz = (0 : Int) ∨ kz = (1 : Int) ∨ kz = (2 : Int) ∨ kz = (3 : Int) ∨ kz = (4 : Int) ∨ kz = (5 : Int) ∨ kz = (6 : Int) ∨ kz = (7 : Int) ∨ kz = (8 : Int) ∨ kz = (9 : Int) ∨ kz = (10 : Int) ∨ kz = (11 : Int) ∨ kz = (12 : Int) ∨ kz = (13 : Int) by omega) with hkz | hkz | hkz | hkz | hkz | hkz | hkz | hkz | hkz | hkz | hkz | hkz | hkz | hkz
    · have hxe : o = (0 : Int32) := sw_val (hkz ▸ hk1) (by decide)
      refine g_tableIn (n := 88) (off := 72) hX dX8_isRow_16 (by rw [hxe]; decide) (by rw [hxe]; decide) (by rw [hxe]; rfl) (by decide) ?_
      refine g_iload (n := 90) hX dX8_isRow_88 rfl rfl ?_
      refine g_if_eq (n := 93) (tgt := 109) hX dX8_isRow_90 rfl (by decide) (fun c90 => ?_) (fun c90 => ?_)
      · refine g_iconst (n := 110) (v := 0) hX dX8_isRow_109 rfl rfl ?_
        exact g_zret hX hR dX8_isRow_110 (by first | rfl | exact bI_nar _) (by rw [okB, if_pos hxe]; exact ⟨by rw [bI_f (fun h9 => bI_z.mp c90 h9.1)], rfl⟩)
      · refine g_iload (n := 95) hX dX8_isRow_93 rfl rfl ?_
        refine g_bipush (n := 97) (v := (-128)) hX dX8_isRow_95 rfl rfl ?_
        refine g_bipush (n := 99) (v := 127) hX dX8_isRow_97 rfl rfl ?_
        refine g_callS0 (n := 102) (As := [.int b, .int (-128), .int 127]) (rest := []) hX hE hU hY dX8_isRow_99 rfl ys_X8_isIn um_X8_97 (m_isIn _ _ K (mW K am A σ) b (-128) 127) ⟨rfl, rfl⟩ (rm_le hRm rfl rfl) rfl rfl (Nat.le_of_ble_eq_true rfl) ⟨Nat.zero_le _, Nat.zero_le _⟩ (fun v0 w0 hq0 => ?_)
        obtain ⟨rfl, rfl⟩ := hq0
        show G Γ (mW K am A σ) 0 0 102 [(5, .int (bI (0 ≤ a ∧ a ≤ ((σ.1 0 p) - 1)))), (0, .ref am), (1, .int (nI p)), (2, .int o), (3, .int a), (4, .int b)] [.int (bI ((-128) ≤ b ∧ b ≤ 127))]
        refine g_if_eq (n := 105) (tgt := 109) hX dX8_isRow_102 rfl (by decide) (fun c102 => ?_) (fun c102 => ?_)
        · refine g_iconst (n := 110) (v := 0) hX dX8_isRow_109 rfl rfl ?_
          exact g_zret hX hR dX8_isRow_110 (by first | rfl | exact bI_nar _) (by rw [okB, if_pos hxe]; exact ⟨by rw [bI_f (fun h9 => bI_z.mp c102 h9.2)], rfl⟩)
        · refine g_iconst (n := 106) (v := 1) hX dX8_isRow_105 rfl rfl ?_
          refine g_goto (n := 110) hX dX8_isRow_106 (by decide) ?_
          exact g_zret hX hR dX8_isRow_110 (by first | rfl | exact bI_nar _) (by rw [okB, if_pos hxe]; exact ⟨by rw [bI_t ⟨Decidable.of_not_not (fun h9 => c90 (bI_z.mpr h9)), Decidable.of_not_not (fun h9 => c102 (bI_z.mpr h9))⟩], rfl⟩)
    · have hxe : o = (1 : Int32) := sw_val (hkz ▸ hk1) (by decide)
      refine g_tableIn (n := 158) (off := 142) hX dX8_isRow_16 (by rw [hxe]; decide) (by rw [hxe]; decide) (by rw [hxe]; rfl) (by decide) ?_
      refine g_iload_n (n := 159) hX dX8_isRow_158 rfl rfl rfl ?_
      refine g_if_le (n := 162) (tgt := 194) hX dX8_isRow_159 rfl (by decide) (fun c159 => absurd c159 (by rw [hxe]; decide)) (fun c159 => ?_)
      refine g_iload_n (n := 163) hX dX8_isRow_162 rfl rfl rfl ?_
      refine g_bipush (n := 165) (v := 8) hX dX8_isRow_163 rfl rfl ?_
      refine g_icmp_ge (n := 168) (tgt := 194) hX dX8_isRow_165 rfl (by decide) (fun c165 => absurd c165 (by rw [hxe]; decide)) (fun c165 => ?_)
      refine g_iload (n := 170) hX dX8_isRow_168 rfl rfl ?_
      refine g_if_eq (n := 173) (tgt := 194) hX dX8_isRow_170 rfl (by decide) (fun c170 => ?_) (fun c170 => ?_)
      · refine g_iconst (n := 195) (v := 0) hX dX8_isRow_194 rfl rfl ?_
        exact g_zret hX hR dX8_isRow_195 rfl (by rw [okB, if_neg (by first | (rw [hxe]; decide) | exact hno _ (by decide)), if_neg (by first | (rw [hxe]; decide) | exact hno _ (by decide)), if_neg (by first | (rw [hxe]; decide) | exact hno _ (by decide)), if_neg (by first | (rw [hxe]; decide) | exact hno _ (by decide)), if_neg (by first | (rw [hxe]; decide) | exact hno _ (by decide)), if_neg (by first | (rw [hxe]; decide) | exact hno _ (by decide)), if_neg (by first | (rw [hxe]; decide) | exact hno _ (by decide)), if_pos (by rw [hxe]; decide)]; exact ⟨by rw [bI_f (fun h9 => bI_z.mp c170 h9.1)], rfl⟩)
      · refine g_iload (n := 175) hX dX8_isRow_173 rfl rfl ?_
        refine g_iconst (n := 176) (v := 0) hX dX8_isRow_175 rfl rfl ?_
        refine g_aload_n (n := 177) hX dX8_isRow_176 rfl rfl rfl ?_
        refine g_mget (n := 180) 4 (v := .ref (A 0)) hX hU dX8_isRow_177 rfl uf_X8_7 rfl rfl rfl ?_
        refine g_iload_n (n := 181) hX dX8_isRow_180 rfl rfl rfl ?_
        refine g_mild (n := 182) 0 (v := σ.1 0 p) hX hY dX8_isRow_181 rfl rfl rfl (vp_in_nI (show p < mN 0 by show p < 13; omega) (by decide)) (by rw [nI_clamp (by omega)] <;> rfl) ?_
        refine g_iconst (n := 183) (v := 1) hX dX8_isRow_182 rfl rfl ?_
        refine g_isub (n := 184) (v := (σ.1 0 p) - 1) hX dX8_isRow_183 rfl rfl ?_
        refine g_callS0 (n := 187) (As := [.int b, .int 0, .int ((σ.1 0 p) - 1)]) (rest := []) hX hE hU hY dX8_isRow_184 rfl ys_X8_isIn um_X8_97 (m_isIn _ _ K (mW K am A σ) b 0 ((σ.1 0 p) - 1)) ⟨rfl, rfl⟩ (rm_le hRm rfl rfl) rfl rfl (Nat.le_of_ble_eq_true rfl) ⟨Nat.zero_le _, Nat.zero_le _⟩ (fun v0 w0 hq0 => ?_)
        obtain ⟨rfl, rfl⟩ := hq0
        show G Γ (mW K am A σ) 0 0 187 [(5, .int (bI (0 ≤ a ∧ a ≤ ((σ.1 0 p) - 1)))), (0, .ref am), (1, .int (nI p)), (2, .int o), (3, .int a), (4, .int b)] [.int (bI (0 ≤ b ∧ b ≤ ((σ.1 0 p) - 1)))]
        refine g_if_eq (n := 190) (tgt := 194) hX dX8_isRow_187 rfl (by decide) (fun c187 => ?_) (fun c187 => ?_)
        · refine g_iconst (n := 195) (v := 0) hX dX8_isRow_194 rfl rfl ?_
          exact g_zret hX hR dX8_isRow_195 rfl (by rw [okB, if_neg (by first | (rw [hxe]; decide) | exact hno _ (by decide)), if_neg (by first | (rw [hxe]; decide) | exact hno _ (by decide)), if_neg (by first | (rw [hxe]; decide) | exact hno _ (by decide)), if_neg (by first | (rw [hxe]; decide) | exact hno _ (by decide)), if_neg (by first | (rw [hxe]; decide) | exact hno _ (by decide)), if_neg (by first | (rw [hxe]; decide) | exact hno _ (by decide)), if_neg (by first | (rw [hxe]; decide) | exact hno _ (by decide)), if_pos (by rw [hxe]; decide)]; exact ⟨by rw [bI_f (fun h9 => bI_z.mp c187 h9.2)], rfl⟩)
        · refine g_iconst (n := 191) (v := 1) hX dX8_isRow_190 rfl rfl ?_
          refine g_goto (n := 195) hX dX8_isRow_191 (by decide) ?_
          exact g_zret hX hR dX8_isRow_195 rfl (by rw [okB, if_neg (by first | (rw [hxe]; decide) | exact hno _ (by decide)), if_neg (by first | (rw [hxe]; decide) | exact hno _ (by decide)), if_neg (by first | (rw [hxe]; decide) | exact hno _ (by decide)), if_neg (by first | (rw [hxe]; decide) | exact hno _ (by decide)), if_neg (by first | (rw [hxe]; decide) | exact hno _ (by decide)), if_neg (by first | (rw [hxe]; decide) | exact hno _ (by decide)), if_neg (by first | (rw [hxe]; decide) | exact hno _ (by decide)), if_pos (by rw [hxe]; decide)]; exact ⟨by rw [bI_t ⟨Decidable.of_not_not (fun h9 => c170 (bI_z.mpr h9)), Decidable.of_not_not (fun h9 => c187 (bI_z.mpr h9))⟩], rfl⟩)
    · have hxe : o = (2 : Int32) := sw_val (hkz ▸ hk1) (by decide)
      refine g_tableIn (n := 158) (off := 142) hX dX8_isRow_16 (by rw [hxe]; decide) (by rw [hxe]; decide) (by rw [hxe]; rfl) (by decide) ?_
      refine g_iload_n (n := 159) hX dX8_isRow_158 rfl rfl rfl ?_
      refine g_if_le (n := 162) (tgt := 194) hX dX8_isRow_159 rfl (by decide) (fun c159 => absurd c159 (by rw [hxe]; decide)) (fun c159 => ?_)
      refine g_iload_n (n := 163) hX dX8_isRow_162 rfl rfl rfl ?_
      refine g_bipush (n := 165) (v := 8) hX dX8_isRow_163 rfl rfl ?_
      refine g_icmp_ge (n := 168) (tgt := 194) hX dX8_isRow_165 rfl (by decide) (fun c165 => absurd c165 (by rw [hxe]; decide)) (fun c165 => ?_)
      refine g_iload (n := 170) hX dX8_isRow_168 rfl rfl ?_
      refine g_if_eq (n := 173) (tgt := 194) hX dX8_isRow_170 rfl (by decide) (fun c170 => ?_) (fun c170 => ?_)
      · refine g_iconst (n := 195) (v := 0) hX dX8_isRow_194 rfl rfl ?_
        exact g_zret hX hR dX8_isRow_195 rfl (by rw [okB, if_neg (by first | (rw [hxe]; decide) | exact hno _ (by decide)), if_neg (by first | (rw [hxe]; decide) | exact hno _ (by decide)), if_neg (by first | (rw [hxe]; decide) | exact hno _ (by decide)), if_neg (by first | (rw [hxe]; decide) | exact hno _ (by decide)), if_neg (by first | (rw [hxe]; decide) | exact hno _ (by decide)), if_neg (by first | (rw [hxe]; decide) | exact hno _ (by decide)), if_neg (by first | (rw [hxe]; decide) | exact hno _ (by decide)), if_pos (by rw [hxe]; decide)]; exact ⟨by rw [bI_f (fun h9 => bI_z.mp c170 h9.1)], rfl⟩)
      · refine g_iload (n := 175) hX dX8_isRow_173 rfl rfl ?_
        refine g_iconst (n := 176) (v := 0) hX dX8_isRow_175 rfl rfl ?_
        refine g_aload_n (n := 177) hX dX8_isRow_176 rfl rfl rfl ?_
        refine g_mget (n := 180) 4 (v := .ref (A 0)) hX hU dX8_isRow_177 rfl uf_X8_7 rfl rfl rfl ?_
        refine g_iload_n (n := 181) hX dX8_isRow_180 rfl rfl rfl ?_
        refine g_mild (n := 182) 0 (v := σ.1 0 p) hX hY dX8_isRow_181 rfl rfl rfl (vp_in_nI (show p < mN 0 by show p < 13; omega) (by decide)) (by rw [nI_clamp (by omega)] <;> rfl) ?_
        refine g_iconst (n := 183) (v := 1) hX dX8_isRow_182 rfl rfl ?_
        refine g_isub (n := 184) (v := (σ.1 0 p) - 1) hX dX8_isRow_183 rfl rfl ?_
        refine g_callS0 (n := 187) (As := [.int b, .int 0, .int ((σ.1 0 p) - 1)]) (rest := []) hX hE hU hY dX8_isRow_184 rfl ys_X8_isIn um_X8_97 (m_isIn _ _ K (mW K am A σ) b 0 ((σ.1 0 p) - 1)) ⟨rfl, rfl⟩ (rm_le hRm rfl rfl) rfl rfl (Nat.le_of_ble_eq_true rfl) ⟨Nat.zero_le _, Nat.zero_le _⟩ (fun v0 w0 hq0 => ?_)
        obtain ⟨rfl, rfl⟩ := hq0
        show G Γ (mW K am A σ) 0 0 187 [(5, .int (bI (0 ≤ a ∧ a ≤ ((σ.1 0 p) - 1)))), (0, .ref am), (1, .int (nI p)), (2, .int o), (3, .int a), (4, .int b)] [.int (bI (0 ≤ b ∧ b ≤ ((σ.1 0 p) - 1)))]
        refine g_if_eq (n := 190) (tgt := 194) hX dX8_isRow_187 rfl (by decide) (fun c187 => ?_) (fun c187 => ?_)
        · refine g_iconst (n := 195) (v := 0) hX dX8_isRow_194 rfl rfl ?_
          exact g_zret hX hR dX8_isRow_195 rfl (by rw [okB, if_neg (by first | (rw [hxe]; decide) | exact hno _ (by decide)), if_neg (by first | (rw [hxe]; decide) | exact hno _ (by decide)), if_neg (by first | (rw [hxe]; decide) | exact hno _ (by decide)), if_neg (by first | (rw [hxe]; decide) | exact hno _ (by decide)), if_neg (by first | (rw [hxe]; decide) | exact hno _ (by decide)), if_neg (by first | (rw [hxe]; decide) | exact hno _ (by decide)), if_neg (by first | (rw [hxe]; decide) | exact hno _ (by decide)), if_pos (by rw [hxe]; decide)]; exact ⟨by rw [bI_f (fun h9 => bI_z.mp c187 h9.2)], rfl⟩)
        · refine g_iconst (n := 191) (v := 1) hX dX8_isRow_190 rfl rfl ?_
          refine g_goto (n := 195) hX dX8_isRow_191 (by decide) ?_
          exact g_zret hX hR dX8_isRow_195 rfl (by rw [okB, if_neg (by first | (rw [hxe]; decide) | exact hno _ (by decide)), if_neg (by first | (rw [hxe]; decide) | exact hno _ (by decide)), if_neg (by first | (rw [hxe]; decide) | exact hno _ (by decide)), if_neg (by first | (rw [hxe]; decide) | exact hno _ (by decide)), if_neg (by first | (rw [hxe]; decide) | exact hno _ (by decide)), if_neg (by first | (rw [hxe]; decide) | exact hno _ (by decide)), if_neg (by first | (rw [hxe]; decide) | exact hno _ (by decide)), if_pos (by rw [hxe]; decide)]; exact ⟨by rw [bI_t ⟨Decidable.of_not_not (fun h9 => c170 (bI_z.mpr h9)), Decidable.of_not_not (fun h9 => c187 (bI_z.mpr h9))⟩], rfl⟩)
    · have hxe : o = (3 : Int32) := sw_val (hkz ▸ hk1) (by decide)
      refine g_tableIn (n := 158) (off := 142) hX dX8_isRow_16 (by rw [hxe]; decide) (by rw [hxe]; decide) (by rw [hxe]; rfl) (by decide) ?_
      refine g_iload_n (n := 159) hX dX8_isRow_158 rfl rfl rfl ?_
      refine g_if_le (n := 162) (tgt := 194) hX dX8_isRow_159 rfl (by decide) (fun c159 => absurd c159 (by rw [hxe]; decide)) (fun c159 => ?_)
      refine g_iload_n (n := 163) hX dX8_isRow_162 rfl rfl rfl ?_
      refine g_bipush (n := 165) (v := 8) hX dX8_isRow_163 rfl rfl ?_
      refine g_icmp_ge (n := 168) (tgt := 194) hX dX8_isRow_165 rfl (by decide) (fun c165 => absurd c165 (by rw [hxe]; decide)) (fun c165 => ?_)
      refine g_iload (n := 170) hX dX8_isRow_168 rfl rfl ?_
      refine g_if_eq (n := 173) (tgt := 194) hX dX8_isRow_170 rfl (by decide) (fun c170 => ?_) (fun c170 => ?_)
      · refine g_iconst (n := 195) (v := 0) hX dX8_isRow_194 rfl rfl ?_
        exact g_zret hX hR dX8_isRow_195 rfl (by rw [okB, if_neg (by first | (rw [hxe]; decide) | exact hno _ (by decide)), if_neg (by first | (rw [hxe]; decide) | exact hno _ (by decide)), if_neg (by first | (rw [hxe]; decide) | exact hno _ (by decide)), if_neg (by first | (rw [hxe]; decide) | exact hno _ (by decide)), if_neg (by first | (rw [hxe]; decide) | exact hno _ (by decide)), if_neg (by first | (rw [hxe]; decide) | exact hno _ (by decide)), if_neg (by first | (rw [hxe]; decide) | exact hno _ (by decide)), if_pos (by rw [hxe]; decide)]; exact ⟨by rw [bI_f (fun h9 => bI_z.mp c170 h9.1)], rfl⟩)
      · refine g_iload (n := 175) hX dX8_isRow_173 rfl rfl ?_
        refine g_iconst (n := 176) (v := 0) hX dX8_isRow_175 rfl rfl ?_
        refine g_aload_n (n := 177) hX dX8_isRow_176 rfl rfl rfl ?_
        refine g_mget (n := 180) 4 (v := .ref (A 0)) hX hU dX8_isRow_177 rfl uf_X8_7 rfl rfl rfl ?_
        refine g_iload_n (n := 181) hX dX8_isRow_180 rfl rfl rfl ?_
        refine g_mild (n := 182) 0 (v := σ.1 0 p) hX hY dX8_isRow_181 rfl rfl rfl (vp_in_nI (show p < mN 0 by show p < 13; omega) (by decide)) (by rw [nI_clamp (by omega)] <;> rfl) ?_
        refine g_iconst (n := 183) (v := 1) hX dX8_isRow_182 rfl rfl ?_
        refine g_isub (n := 184) (v := (σ.1 0 p) - 1) hX dX8_isRow_183 rfl rfl ?_
        refine g_callS0 (n := 187) (As := [.int b, .int 0, .int ((σ.1 0 p) - 1)]) (rest := []) hX hE hU hY dX8_isRow_184 rfl ys_X8_isIn um_X8_97 (m_isIn _ _ K (mW K am A σ) b 0 ((σ.1 0 p) - 1)) ⟨rfl, rfl⟩ (rm_le hRm rfl rfl) rfl rfl (Nat.le_of_ble_eq_true rfl) ⟨Nat.zero_le _, Nat.zero_le _⟩ (fun v0 w0 hq0 => ?_)
        obtain ⟨rfl, rfl⟩ := hq0
        show G Γ (mW K am A σ) 0 0 187 [(5, .int (bI (0 ≤ a ∧ a ≤ ((σ.1 0 p) - 1)))), (0, .ref am), (1, .int (nI p)), (2, .int o), (3, .int a), (4, .int b)] [.int (bI (0 ≤ b ∧ b ≤ ((σ.1 0 p) - 1)))]
        refine g_if_eq (n := 190) (tgt := 194) hX dX8_isRow_187 rfl (by decide) (fun c187 => ?_) (fun c187 => ?_)
        · refine g_iconst (n := 195) (v := 0) hX dX8_isRow_194 rfl rfl ?_
          exact g_zret hX hR dX8_isRow_195 rfl (by rw [okB, if_neg (by first | (rw [hxe]; decide) | exact hno _ (by decide)), if_neg (by first | (rw [hxe]; decide) | exact hno _ (by decide)), if_neg (by first | (rw [hxe]; decide) | exact hno _ (by decide)), if_neg (by first | (rw [hxe]; decide) | exact hno _ (by decide)), if_neg (by first | (rw [hxe]; decide) | exact hno _ (by decide)), if_neg (by first | (rw [hxe]; decide) | exact hno _ (by decide)), if_neg (by first | (rw [hxe]; decide) | exact hno _ (by decide)), if_pos (by rw [hxe]; decide)]; exact ⟨by rw [bI_f (fun h9 => bI_z.mp c187 h9.2)], rfl⟩)
        · refine g_iconst (n := 191) (v := 1) hX dX8_isRow_190 rfl rfl ?_
          refine g_goto (n := 195) hX dX8_isRow_191 (by decide) ?_
          exact g_zret hX hR dX8_isRow_195 rfl (by rw [okB, if_neg (by first | (rw [hxe]; decide) | exact hno _ (by decide)), if_neg (by first | (rw [hxe]; decide) | exact hno _ (by decide)), if_neg (by first | (rw [hxe]; decide) | exact hno _ (by decide)), if_neg (by first | (rw [hxe]; decide) | exact hno _ (by decide)), if_neg (by first | (rw [hxe]; decide) | exact hno _ (by decide)), if_neg (by first | (rw [hxe]; decide) | exact hno _ (by decide)), if_neg (by first | (rw [hxe]; decide) | exact hno _ (by decide)), if_pos (by rw [hxe]; decide)]; exact ⟨by rw [bI_t ⟨Decidable.of_not_not (fun h9 => c170 (bI_z.mpr h9)), Decidable.of_not_not (fun h9 => c187 (bI_z.mpr h9))⟩], rfl⟩)
    · have hxe : o = (4 : Int32) := sw_val (hkz ▸ hk1) (by decide)
      refine g_tableIn (n := 158) (off := 142) hX dX8_isRow_16 (by rw [hxe]; decide) (by rw [hxe]; decide) (by rw [hxe]; rfl) (by decide) ?_
      refine g_iload_n (n := 159) hX dX8_isRow_158 rfl rfl rfl ?_
      refine g_if_le (n := 162) (tgt := 194) hX dX8_isRow_159 rfl (by decide) (fun c159 => absurd c159 (by rw [hxe]; decide)) (fun c159 => ?_)
      refine g_iload_n (n := 163) hX dX8_isRow_162 rfl rfl rfl ?_
      refine g_bipush (n := 165) (v := 8) hX dX8_isRow_163 rfl rfl ?_
      refine g_icmp_ge (n := 168) (tgt := 194) hX dX8_isRow_165 rfl (by decide) (fun c165 => absurd c165 (by rw [hxe]; decide)) (fun c165 => ?_)
      refine g_iload (n := 170) hX dX8_isRow_168 rfl rfl ?_
      refine g_if_eq (n := 173) (tgt := 194) hX dX8_isRow_170 rfl (by decide) (fun c170 => ?_) (fun c170 => ?_)
      · refine g_iconst (n := 195) (v := 0) hX dX8_isRow_194 rfl rfl ?_
        exact g_zret hX hR dX8_isRow_195 rfl (by rw [okB, if_neg (by first | (rw [hxe]; decide) | exact hno _ (by decide)), if_neg (by first | (rw [hxe]; decide) | exact hno _ (by decide)), if_neg (by first | (rw [hxe]; decide) | exact hno _ (by decide)), if_neg (by first | (rw [hxe]; decide) | exact hno _ (by decide)), if_neg (by first | (rw [hxe]; decide) | exact hno _ (by decide)), if_neg (by first | (rw [hxe]; decide) | exact hno _ (by decide)), if_neg (by first | (rw [hxe]; decide) | exact hno _ (by decide)), if_pos (by rw [hxe]; decide)]; exact ⟨by rw [bI_f (fun h9 => bI_z.mp c170 h9.1)], rfl⟩)
      · refine g_iload (n := 175) hX dX8_isRow_173 rfl rfl ?_
        refine g_iconst (n := 176) (v := 0) hX dX8_isRow_175 rfl rfl ?_
        refine g_aload_n (n := 177) hX dX8_isRow_176 rfl rfl rfl ?_
        refine g_mget (n := 180) 4 (v := .ref (A 0)) hX hU dX8_isRow_177 rfl uf_X8_7 rfl rfl rfl ?_
        refine g_iload_n (n := 181) hX dX8_isRow_180 rfl rfl rfl ?_
        refine g_mild (n := 182) 0 (v := σ.1 0 p) hX hY dX8_isRow_181 rfl rfl rfl (vp_in_nI (show p < mN 0 by show p < 13; omega) (by decide)) (by rw [nI_clamp (by omega)] <;> rfl) ?_
        refine g_iconst (n := 183) (v := 1) hX dX8_isRow_182 rfl rfl ?_
        refine g_isub (n := 184) (v := (σ.1 0 p) - 1) hX dX8_isRow_183 rfl rfl ?_
        refine g_callS0 (n := 187) (As := [.int b, .int 0, .int ((σ.1 0 p) - 1)]) (rest := []) hX hE hU hY dX8_isRow_184 rfl ys_X8_isIn um_X8_97 (m_isIn _ _ K (mW K am A σ) b 0 ((σ.1 0 p) - 1)) ⟨rfl, rfl⟩ (rm_le hRm rfl rfl) rfl rfl (Nat.le_of_ble_eq_true rfl) ⟨Nat.zero_le _, Nat.zero_le _⟩ (fun v0 w0 hq0 => ?_)
        obtain ⟨rfl, rfl⟩ := hq0
        show G Γ (mW K am A σ) 0 0 187 [(5, .int (bI (0 ≤ a ∧ a ≤ ((σ.1 0 p) - 1)))), (0, .ref am), (1, .int (nI p)), (2, .int o), (3, .int a), (4, .int b)] [.int (bI (0 ≤ b ∧ b ≤ ((σ.1 0 p) - 1)))]
        refine g_if_eq (n := 190) (tgt := 194) hX dX8_isRow_187 rfl (by decide) (fun c187 => ?_) (fun c187 => ?_)
        · refine g_iconst (n := 195) (v := 0) hX dX8_isRow_194 rfl rfl ?_
          exact g_zret hX hR dX8_isRow_195 rfl (by rw [okB, if_neg (by first | (rw [hxe]; decide) | exact hno _ (by decide)), if_neg (by first | (rw [hxe]; decide) | exact hno _ (by decide)), if_neg (by first | (rw [hxe]; decide) | exact hno _ (by decide)), if_neg (by first | (rw [hxe]; decide) | exact hno _ (by decide)), if_neg (by first | (rw [hxe]; decide) | exact hno _ (by decide)), if_neg (by first | (rw [hxe]; decide) | exact hno _ (by decide)), if_neg (by first | (rw [hxe]; decide) | exact hno _ (by decide)), if_pos (by rw [hxe]; decide)]; exact ⟨by rw [bI_f (fun h9 => bI_z.mp c187 h9.2)], rfl⟩)
        · refine g_iconst (n := 191) (v := 1) hX dX8_isRow_190 rfl rfl ?_
          refine g_goto (n := 195) hX dX8_isRow_191 (by decide) ?_
          exact g_zret hX hR dX8_isRow_195 rfl (by rw [okB, if_neg (by first | (rw [hxe]; decide) | exact hno _ (by decide)), if_neg (by first | (rw [hxe]; decide) | exact hno _ (by decide)), if_neg (by first | (rw [hxe]; decide) | exact hno _ (by decide)), if_neg (by first | (rw [hxe]; decide) | exact hno _ (by decide)), if_neg (by first | (rw [hxe]; decide) | exact hno _ (by decide)), if_neg (by first | (rw [hxe]; decide) | exact hno _ (by decide)), if_neg (by first | (rw [hxe]; decide) | exact hno _ (by decide)), if_pos (by rw [hxe]; decide)]; exact ⟨by rw [bI_t ⟨Decidable.of_not_not (fun h9 => c170 (bI_z.mpr h9)), Decidable.of_not_not (fun h9 => c187 (bI_z.mpr h9))⟩], rfl⟩)
    · have hxe : o = (5 : Int32) := sw_val (hkz ▸ hk1) (by decide)
      refine g_tableIn (n := 158) (off := 142) hX dX8_isRow_16 (by rw [hxe]; decide) (by rw [hxe]; decide) (by rw [hxe]; rfl) (by decide) ?_
      refine g_iload_n (n := 159) hX dX8_isRow_158 rfl rfl rfl ?_
      refine g_if_le (n := 162) (tgt := 194) hX dX8_isRow_159 rfl (by decide) (fun c159 => absurd c159 (by rw [hxe]; decide)) (fun c159 => ?_)
      refine g_iload_n (n := 163) hX dX8_isRow_162 rfl rfl rfl ?_
      refine g_bipush (n := 165) (v := 8) hX dX8_isRow_163 rfl rfl ?_
      refine g_icmp_ge (n := 168) (tgt := 194) hX dX8_isRow_165 rfl (by decide) (fun c165 => absurd c165 (by rw [hxe]; decide)) (fun c165 => ?_)
      refine g_iload (n := 170) hX dX8_isRow_168 rfl rfl ?_
      refine g_if_eq (n := 173) (tgt := 194) hX dX8_isRow_170 rfl (by decide) (fun c170 => ?_) (fun c170 => ?_)
      · refine g_iconst (n := 195) (v := 0) hX dX8_isRow_194 rfl rfl ?_
        exact g_zret hX hR dX8_isRow_195 rfl (by rw [okB, if_neg (by first | (rw [hxe]; decide) | exact hno _ (by decide)), if_neg (by first | (rw [hxe]; decide) | exact hno _ (by decide)), if_neg (by first | (rw [hxe]; decide) | exact hno _ (by decide)), if_neg (by first | (rw [hxe]; decide) | exact hno _ (by decide)), if_neg (by first | (rw [hxe]; decide) | exact hno _ (by decide)), if_neg (by first | (rw [hxe]; decide) | exact hno _ (by decide)), if_neg (by first | (rw [hxe]; decide) | exact hno _ (by decide)), if_pos (by rw [hxe]; decide)]; exact ⟨by rw [bI_f (fun h9 => bI_z.mp c170 h9.1)], rfl⟩)
      · refine g_iload (n := 175) hX dX8_isRow_173 rfl rfl ?_
        refine g_iconst (n := 176) (v := 0) hX dX8_isRow_175 rfl rfl ?_
        refine g_aload_n (n := 177) hX dX8_isRow_176 rfl rfl rfl ?_
        refine g_mget (n := 180) 4 (v := .ref (A 0)) hX hU dX8_isRow_177 rfl uf_X8_7 rfl rfl rfl ?_
        refine g_iload_n (n := 181) hX dX8_isRow_180 rfl rfl rfl ?_
        refine g_mild (n := 182) 0 (v := σ.1 0 p) hX hY dX8_isRow_181 rfl rfl rfl (vp_in_nI (show p < mN 0 by show p < 13; omega) (by decide)) (by rw [nI_clamp (by omega)] <;> rfl) ?_
        refine g_iconst (n := 183) (v := 1) hX dX8_isRow_182 rfl rfl ?_
        refine g_isub (n := 184) (v := (σ.1 0 p) - 1) hX dX8_isRow_183 rfl rfl ?_
        refine g_callS0 (n := 187) (As := [.int b, .int 0, .int ((σ.1 0 p) - 1)]) (rest := []) hX hE hU hY dX8_isRow_184 rfl ys_X8_isIn um_X8_97 (m_isIn _ _ K (mW K am A σ) b 0 ((σ.1 0 p) - 1)) ⟨rfl, rfl⟩ (rm_le hRm rfl rfl) rfl rfl (Nat.le_of_ble_eq_true rfl) ⟨Nat.zero_le _, Nat.zero_le _⟩ (fun v0 w0 hq0 => ?_)
        obtain ⟨rfl, rfl⟩ := hq0
        show G Γ (mW K am A σ) 0 0 187 [(5, .int (bI (0 ≤ a ∧ a ≤ ((σ.1 0 p) - 1)))), (0, .ref am), (1, .int (nI p)), (2, .int o), (3, .int a), (4, .int b)] [.int (bI (0 ≤ b ∧ b ≤ ((σ.1 0 p) - 1)))]
        refine g_if_eq (n := 190) (tgt := 194) hX dX8_isRow_187 rfl (by decide) (fun c187 => ?_) (fun c187 => ?_)
        · refine g_iconst (n := 195) (v := 0) hX dX8_isRow_194 rfl rfl ?_
          exact g_zret hX hR dX8_isRow_195 rfl (by rw [okB, if_neg (by first | (rw [hxe]; decide) | exact hno _ (by decide)), if_neg (by first | (rw [hxe]; decide) | exact hno _ (by decide)), if_neg (by first | (rw [hxe]; decide) | exact hno _ (by decide)), if_neg (by first | (rw [hxe]; decide) | exact hno _ (by decide)), if_neg (by first | (rw [hxe]; decide) | exact hno _ (by decide)), if_neg (by first | (rw [hxe]; decide) | exact hno _ (by decide)), if_neg (by first | (rw [hxe]; decide) | exact hno _ (by decide)), if_pos (by rw [hxe]; decide)]; exact ⟨by rw [bI_f (fun h9 => bI_z.mp c187 h9.2)], rfl⟩)
        · refine g_iconst (n := 191) (v := 1) hX dX8_isRow_190 rfl rfl ?_
          refine g_goto (n := 195) hX dX8_isRow_191 (by decide) ?_
          exact g_zret hX hR dX8_isRow_195 rfl (by rw [okB, if_neg (by first | (rw [hxe]; decide) | exact hno _ (by decide)), if_neg (by first | (rw [hxe]; decide) | exact hno _ (by decide)), if_neg (by first | (rw [hxe]; decide) | exact hno _ (by decide)), if_neg (by first | (rw [hxe]; decide) | exact hno _ (by decide)), if_neg (by first | (rw [hxe]; decide) | exact hno _ (by decide)), if_neg (by first | (rw [hxe]; decide) | exact hno _ (by decide)), if_neg (by first | (rw [hxe]; decide) | exact hno _ (by decide)), if_pos (by rw [hxe]; decide)]; exact ⟨by rw [bI_t ⟨Decidable.of_not_not (fun h9 => c170 (bI_z.mpr h9)), Decidable.of_not_not (fun h9 => c187 (bI_z.mpr h9))⟩], rfl⟩)
    · have hxe : o = (6 : Int32) := sw_val (hkz ▸ hk1) (by decide)
      refine g_tableIn (n := 158) (off := 142) hX dX8_isRow_16 (by rw [hxe]; decide) (by rw [hxe]; decide) (by rw [hxe]; rfl) (by decide) ?_
      refine g_iload_n (n := 159) hX dX8_isRow_158 rfl rfl rfl ?_
      refine g_if_le (n := 162) (tgt := 194) hX dX8_isRow_159 rfl (by decide) (fun c159 => absurd c159 (by rw [hxe]; decide)) (fun c159 => ?_)
      refine g_iload_n (n := 163) hX dX8_isRow_162 rfl rfl rfl ?_
      refine g_bipush (n := 165) (v := 8) hX dX8_isRow_163 rfl rfl ?_
      refine g_icmp_ge (n := 168) (tgt := 194) hX dX8_isRow_165 rfl (by decide) (fun c165 => absurd c165 (by rw [hxe]; decide)) (fun c165 => ?_)
      refine g_iload (n := 170) hX dX8_isRow_168 rfl rfl ?_
      refine g_if_eq (n := 173) (tgt := 194) hX dX8_isRow_170 rfl (by decide) (fun c170 => ?_) (fun c170 => ?_)
      · refine g_iconst (n := 195) (v := 0) hX dX8_isRow_194 rfl rfl ?_
        exact g_zret hX hR dX8_isRow_195 rfl (by rw [okB, if_neg (by first | (rw [hxe]; decide) | exact hno _ (by decide)), if_neg (by first | (rw [hxe]; decide) | exact hno _ (by decide)), if_neg (by first | (rw [hxe]; decide) | exact hno _ (by decide)), if_neg (by first | (rw [hxe]; decide) | exact hno _ (by decide)), if_neg (by first | (rw [hxe]; decide) | exact hno _ (by decide)), if_neg (by first | (rw [hxe]; decide) | exact hno _ (by decide)), if_neg (by first | (rw [hxe]; decide) | exact hno _ (by decide)), if_pos (by rw [hxe]; decide)]; exact ⟨by rw [bI_f (fun h9 => bI_z.mp c170 h9.1)], rfl⟩)
      · refine g_iload (n := 175) hX dX8_isRow_173 rfl rfl ?_
        refine g_iconst (n := 176) (v := 0) hX dX8_isRow_175 rfl rfl ?_
        refine g_aload_n (n := 177) hX dX8_isRow_176 rfl rfl rfl ?_
        refine g_mget (n := 180) 4 (v := .ref (A 0)) hX hU dX8_isRow_177 rfl uf_X8_7 rfl rfl rfl ?_
        refine g_iload_n (n := 181) hX dX8_isRow_180 rfl rfl rfl ?_
        refine g_mild (n := 182) 0 (v := σ.1 0 p) hX hY dX8_isRow_181 rfl rfl rfl (vp_in_nI (show p < mN 0 by show p < 13; omega) (by decide)) (by rw [nI_clamp (by omega)] <;> rfl) ?_
        refine g_iconst (n := 183) (v := 1) hX dX8_isRow_182 rfl rfl ?_
        refine g_isub (n := 184) (v := (σ.1 0 p) - 1) hX dX8_isRow_183 rfl rfl ?_
        refine g_callS0 (n := 187) (As := [.int b, .int 0, .int ((σ.1 0 p) - 1)]) (rest := []) hX hE hU hY dX8_isRow_184 rfl ys_X8_isIn um_X8_97 (m_isIn _ _ K (mW K am A σ) b 0 ((σ.1 0 p) - 1)) ⟨rfl, rfl⟩ (rm_le hRm rfl rfl) rfl rfl (Nat.le_of_ble_eq_true rfl) ⟨Nat.zero_le _, Nat.zero_le _⟩ (fun v0 w0 hq0 => ?_)
        obtain ⟨rfl, rfl⟩ := hq0
        show G Γ (mW K am A σ) 0 0 187 [(5, .int (bI (0 ≤ a ∧ a ≤ ((σ.1 0 p) - 1)))), (0, .ref am), (1, .int (nI p)), (2, .int o), (3, .int a), (4, .int b)] [.int (bI (0 ≤ b ∧ b ≤ ((σ.1 0 p) - 1)))]
        refine g_if_eq (n := 190) (tgt := 194) hX dX8_isRow_187 rfl (by decide) (fun c187 => ?_) (fun c187 => ?_)
        · refine g_iconst (n := 195) (v := 0) hX dX8_isRow_194 rfl rfl ?_
          exact g_zret hX hR dX8_isRow_195 rfl (by rw [okB, if_neg (by first | (rw [hxe]; decide) | exact hno _ (by decide)), if_neg (by first | (rw [hxe]; decide) | exact hno _ (by decide)), if_neg (by first | (rw [hxe]; decide) | exact hno _ (by decide)), if_neg (by first | (rw [hxe]; decide) | exact hno _ (by decide)), if_neg (by first | (rw [hxe]; decide) | exact hno _ (by decide)), if_neg (by first | (rw [hxe]; decide) | exact hno _ (by decide)), if_neg (by first | (rw [hxe]; decide) | exact hno _ (by decide)), if_pos (by rw [hxe]; decide)]; exact ⟨by rw [bI_f (fun h9 => bI_z.mp c187 h9.2)], rfl⟩)
        · refine g_iconst (n := 191) (v := 1) hX dX8_isRow_190 rfl rfl ?_
          refine g_goto (n := 195) hX dX8_isRow_191 (by decide) ?_
          exact g_zret hX hR dX8_isRow_195 rfl (by rw [okB, if_neg (by first | (rw [hxe]; decide) | exact hno _ (by decide)), if_neg (by first | (rw [hxe]; decide) | exact hno _ (by decide)), if_neg (by first | (rw [hxe]; decide) | exact hno _ (by decide)), if_neg (by first | (rw [hxe]; decide) | exact hno _ (by decide)), if_neg (by first | (rw [hxe]; decide) | exact hno _ (by decide)), if_neg (by first | (rw [hxe]; decide) | exact hno _ (by decide)), if_neg (by first | (rw [hxe]; decide) | exact hno _ (by decide)), if_pos (by rw [hxe]; decide)]; exact ⟨by rw [bI_t ⟨Decidable.of_not_not (fun h9 => c170 (bI_z.mpr h9)), Decidable.of_not_not (fun h9 => c187 (bI_z.mpr h9))⟩], rfl⟩)
    · have hxe : o = (7 : Int32) := sw_val (hkz ▸ hk1) (by decide)
      refine g_tableIn (n := 158) (off := 142) hX dX8_isRow_16 (by rw [hxe]; decide) (by rw [hxe]; decide) (by rw [hxe]; rfl) (by decide) ?_
      refine g_iload_n (n := 159) hX dX8_isRow_158 rfl rfl rfl ?_
      refine g_if_le (n := 162) (tgt := 194) hX dX8_isRow_159 rfl (by decide) (fun c159 => absurd c159 (by rw [hxe]; decide)) (fun c159 => ?_)
      refine g_iload_n (n := 163) hX dX8_isRow_162 rfl rfl rfl ?_
      refine g_bipush (n := 165) (v := 8) hX dX8_isRow_163 rfl rfl ?_
      refine g_icmp_ge (n := 168) (tgt := 194) hX dX8_isRow_165 rfl (by decide) (fun c165 => absurd c165 (by rw [hxe]; decide)) (fun c165 => ?_)
      refine g_iload (n := 170) hX dX8_isRow_168 rfl rfl ?_
      refine g_if_eq (n := 173) (tgt := 194) hX dX8_isRow_170 rfl (by decide) (fun c170 => ?_) (fun c170 => ?_)
      · refine g_iconst (n := 195) (v := 0) hX dX8_isRow_194 rfl rfl ?_
        exact g_zret hX hR dX8_isRow_195 rfl (by rw [okB, if_neg (by first | (rw [hxe]; decide) | exact hno _ (by decide)), if_neg (by first | (rw [hxe]; decide) | exact hno _ (by decide)), if_neg (by first | (rw [hxe]; decide) | exact hno _ (by decide)), if_neg (by first | (rw [hxe]; decide) | exact hno _ (by decide)), if_neg (by first | (rw [hxe]; decide) | exact hno _ (by decide)), if_neg (by first | (rw [hxe]; decide) | exact hno _ (by decide)), if_neg (by first | (rw [hxe]; decide) | exact hno _ (by decide)), if_pos (by rw [hxe]; decide)]; exact ⟨by rw [bI_f (fun h9 => bI_z.mp c170 h9.1)], rfl⟩)
      · refine g_iload (n := 175) hX dX8_isRow_173 rfl rfl ?_
        refine g_iconst (n := 176) (v := 0) hX dX8_isRow_175 rfl rfl ?_
        refine g_aload_n (n := 177) hX dX8_isRow_176 rfl rfl rfl ?_
        refine g_mget (n := 180) 4 (v := .ref (A 0)) hX hU dX8_isRow_177 rfl uf_X8_7 rfl rfl rfl ?_
        refine g_iload_n (n := 181) hX dX8_isRow_180 rfl rfl rfl ?_
        refine g_mild (n := 182) 0 (v := σ.1 0 p) hX hY dX8_isRow_181 rfl rfl rfl (vp_in_nI (show p < mN 0 by show p < 13; omega) (by decide)) (by rw [nI_clamp (by omega)] <;> rfl) ?_
        refine g_iconst (n := 183) (v := 1) hX dX8_isRow_182 rfl rfl ?_
        refine g_isub (n := 184) (v := (σ.1 0 p) - 1) hX dX8_isRow_183 rfl rfl ?_
        refine g_callS0 (n := 187) (As := [.int b, .int 0, .int ((σ.1 0 p) - 1)]) (rest := []) hX hE hU hY dX8_isRow_184 rfl ys_X8_isIn um_X8_97 (m_isIn _ _ K (mW K am A σ) b 0 ((σ.1 0 p) - 1)) ⟨rfl, rfl⟩ (rm_le hRm rfl rfl) rfl rfl (Nat.le_of_ble_eq_true rfl) ⟨Nat.zero_le _, Nat.zero_le _⟩ (fun v0 w0 hq0 => ?_)
        obtain ⟨rfl, rfl⟩ := hq0
        show G Γ (mW K am A σ) 0 0 187 [(5, .int (bI (0 ≤ a ∧ a ≤ ((σ.1 0 p) - 1)))), (0, .ref am), (1, .int (nI p)), (2, .int o), (3, .int a), (4, .int b)] [.int (bI (0 ≤ b ∧ b ≤ ((σ.1 0 p) - 1)))]
        refine g_if_eq (n := 190) (tgt := 194) hX dX8_isRow_187 rfl (by decide) (fun c187 => ?_) (fun c187 => ?_)
        · refine g_iconst (n := 195) (v := 0) hX dX8_isRow_194 rfl rfl ?_
          exact g_zret hX hR dX8_isRow_195 rfl (by rw [okB, if_neg (by first | (rw [hxe]; decide) | exact hno _ (by decide)), if_neg (by first | (rw [hxe]; decide) | exact hno _ (by decide)), if_neg (by first | (rw [hxe]; decide) | exact hno _ (by decide)), if_neg (by first | (rw [hxe]; decide) | exact hno _ (by decide)), if_neg (by first | (rw [hxe]; decide) | exact hno _ (by decide)), if_neg (by first | (rw [hxe]; decide) | exact hno _ (by decide)), if_neg (by first | (rw [hxe]; decide) | exact hno _ (by decide)), if_pos (by rw [hxe]; decide)]; exact ⟨by rw [bI_f (fun h9 => bI_z.mp c187 h9.2)], rfl⟩)
        · refine g_iconst (n := 191) (v := 1) hX dX8_isRow_190 rfl rfl ?_
          refine g_goto (n := 195) hX dX8_isRow_191 (by decide) ?_
          exact g_zret hX hR dX8_isRow_195 rfl (by rw [okB, if_neg (by first | (rw [hxe]; decide) | exact hno _ (by decide)), if_neg (by first | (rw [hxe]; decide) | exact hno _ (by decide)), if_neg (by first | (rw [hxe]; decide) | exact hno _ (by decide)), if_neg (by first | (rw [hxe]; decide) | exact hno _ (by decide)), if_neg (by first | (rw [hxe]; decide) | exact hno _ (by decide)), if_neg (by first | (rw [hxe]; decide) | exact hno _ (by decide)), if_neg (by first | (rw [hxe]; decide) | exact hno _ (by decide)), if_pos (by rw [hxe]; decide)]; exact ⟨by rw [bI_t ⟨Decidable.of_not_not (fun h9 => c170 (bI_z.mpr h9)), Decidable.of_not_not (fun h9 => c187 (bI_z.mpr h9))⟩], rfl⟩)
    · have hxe : o = (8 : Int32) := sw_val (hkz ▸ hk1) (by decide)
      refine g_tableIn (n := 111) (off := 95) hX dX8_isRow_16 (by rw [hxe]; decide) (by rw [hxe]; decide) (by rw [hxe]; rfl) (by decide) ?_
      refine g_iload (n := 113) hX dX8_isRow_111 rfl rfl ?_
      refine g_if_eq (n := 116) (tgt := 131) hX dX8_isRow_113 rfl (by decide) (fun c113 => ?_) (fun c113 => ?_)
      · refine g_iconst (n := 132) (v := 0) hX dX8_isRow_131 rfl rfl ?_
        exact g_zret hX hR dX8_isRow_132 (by first | rfl | exact bI_nar _) (by rw [okB, if_neg (by rw [hxe]; decide), if_neg (by rw [hxe]; decide), if_pos hxe]; exact ⟨by rw [bI_f (fun h9 => bI_z.mp c113 h9.1)], rfl⟩)
      · refine g_iload (n := 118) hX dX8_isRow_116 rfl rfl ?_
        refine g_iconst (n := 119) (v := 1) hX dX8_isRow_118 rfl rfl ?_
        refine g_bipush (n := 121) (v := 61) hX dX8_isRow_119 rfl rfl ?_
        refine g_callS0 (n := 124) (As := [.int b, .int 1, .int 61]) (rest := []) hX hE hU hY dX8_isRow_121 rfl ys_X8_isIn um_X8_97 (m_isIn _ _ K (mW K am A σ) b 1 61) ⟨rfl, rfl⟩ (rm_le hRm rfl rfl) rfl rfl (Nat.le_of_ble_eq_true rfl) ⟨Nat.zero_le _, Nat.zero_le _⟩ (fun v0 w0 hq0 => ?_)
        obtain ⟨rfl, rfl⟩ := hq0
        show G Γ (mW K am A σ) 0 0 124 [(5, .int (bI (0 ≤ a ∧ a ≤ ((σ.1 0 p) - 1)))), (0, .ref am), (1, .int (nI p)), (2, .int o), (3, .int a), (4, .int b)] [.int (bI (1 ≤ b ∧ b ≤ 61))]
        refine g_if_eq (n := 127) (tgt := 131) hX dX8_isRow_124 rfl (by decide) (fun c124 => ?_) (fun c124 => ?_)
        · refine g_iconst (n := 132) (v := 0) hX dX8_isRow_131 rfl rfl ?_
          exact g_zret hX hR dX8_isRow_132 (by first | rfl | exact bI_nar _) (by rw [okB, if_neg (by rw [hxe]; decide), if_neg (by rw [hxe]; decide), if_pos hxe]; exact ⟨by rw [bI_f (fun h9 => bI_z.mp c124 h9.2)], rfl⟩)
        · refine g_iconst (n := 128) (v := 1) hX dX8_isRow_127 rfl rfl ?_
          refine g_goto (n := 132) hX dX8_isRow_128 (by decide) ?_
          exact g_zret hX hR dX8_isRow_132 (by first | rfl | exact bI_nar _) (by rw [okB, if_neg (by rw [hxe]; decide), if_neg (by rw [hxe]; decide), if_pos hxe]; exact ⟨by rw [bI_t ⟨Decidable.of_not_not (fun h9 => c113 (bI_z.mpr h9)), Decidable.of_not_not (fun h9 => c124 (bI_z.mpr h9))⟩], rfl⟩)
    · have hxe : o = (9 : Int32) := sw_val (hkz ▸ hk1) (by decide)
      refine g_tableIn (n := 133) (off := 117) hX dX8_isRow_16 (by rw [hxe]; decide) (by rw [hxe]; decide) (by rw [hxe]; rfl) (by decide) ?_
      refine g_iload (n := 135) hX dX8_isRow_133 rfl rfl ?_
      refine g_iconst (n := 136) (v := 1) hX dX8_isRow_135 rfl rfl ?_
      refine g_bipush (n := 138) (v := 61) hX dX8_isRow_136 rfl rfl ?_
      refine g_callS0 (n := 141) (As := [.int b, .int 1, .int 61]) (rest := []) hX hE hU hY dX8_isRow_138 rfl ys_X8_isIn um_X8_97 (m_isIn _ _ K (mW K am A σ) b 1 61) ⟨rfl, rfl⟩ (rm_le hRm rfl rfl) rfl rfl (Nat.le_of_ble_eq_true rfl) ⟨Nat.zero_le _, Nat.zero_le _⟩ (fun v0 w0 hq0 => ?_)
      obtain ⟨rfl, rfl⟩ := hq0
      show G Γ (mW K am A σ) 0 0 141 [(5, .int (bI (0 ≤ a ∧ a ≤ ((σ.1 0 p) - 1)))), (0, .ref am), (1, .int (nI p)), (2, .int o), (3, .int a), (4, .int b)] [.int (bI (1 ≤ b ∧ b ≤ 61))]
      exact g_zret hX hR dX8_isRow_141 (bI_nar _) (by rw [okB, if_neg (by rw [hxe]; decide), if_neg (by rw [hxe]; decide), if_neg (by rw [hxe]; decide), if_pos hxe]; exact ⟨rfl, rfl⟩)
    · have hxe : o = (10 : Int32) := sw_val (hkz ▸ hk1) (by decide)
      refine g_tableIn (n := 142) (off := 126) hX dX8_isRow_16 (by rw [hxe]; decide) (by rw [hxe]; decide) (by rw [hxe]; rfl) (by decide) ?_
      refine g_iload_n (n := 143) hX dX8_isRow_142 rfl rfl rfl ?_
      refine g_iconst (n := 144) (v := 1) hX dX8_isRow_143 rfl rfl ?_
      refine g_bipush (n := 146) (v := 12) hX dX8_isRow_144 rfl rfl ?_
      refine g_callS0 (n := 149) (As := [.int a, .int 1, .int 12]) (rest := []) hX hE hU hY dX8_isRow_146 rfl ys_X8_isIn um_X8_97 (m_isIn _ _ K (mW K am A σ) a 1 12) ⟨rfl, rfl⟩ (rm_le hRm rfl rfl) rfl rfl (Nat.le_of_ble_eq_true rfl) ⟨Nat.zero_le _, Nat.zero_le _⟩ (fun v0 w0 hq0 => ?_)
      obtain ⟨rfl, rfl⟩ := hq0
      show G Γ (mW K am A σ) 0 0 149 [(5, .int (bI (0 ≤ a ∧ a ≤ ((σ.1 0 p) - 1)))), (0, .ref am), (1, .int (nI p)), (2, .int o), (3, .int a), (4, .int b)] [.int (bI (1 ≤ a ∧ a ≤ 12))]
      exact g_zret hX hR dX8_isRow_149 (bI_nar _) (by rw [okB, if_neg (by rw [hxe]; decide), if_neg (by rw [hxe]; decide), if_neg (by rw [hxe]; decide), if_neg (by rw [hxe]; decide), if_pos hxe]; exact ⟨rfl, rfl⟩)
    · have hxe : o = (11 : Int32) := sw_val (hkz ▸ hk1) (by decide)
      refine g_tableIn (n := 150) (off := 134) hX dX8_isRow_16 (by rw [hxe]; decide) (by rw [hxe]; decide) (by rw [hxe]; rfl) (by decide) ?_
      refine g_iload_n (n := 151) hX dX8_isRow_150 rfl rfl rfl ?_
      refine g_iconst (n := 152) (v := 0) hX dX8_isRow_151 rfl rfl ?_
      refine g_bipush (n := 154) (v := 127) hX dX8_isRow_152 rfl rfl ?_
      refine g_callS0 (n := 157) (As := [.int a, .int 0, .int 127]) (rest := []) hX hE hU hY dX8_isRow_154 rfl ys_X8_isIn um_X8_97 (m_isIn _ _ K (mW K am A σ) a 0 127) ⟨rfl, rfl⟩ (rm_le hRm rfl rfl) rfl rfl (Nat.le_of_ble_eq_true rfl) ⟨Nat.zero_le _, Nat.zero_le _⟩ (fun v0 w0 hq0 => ?_)
      obtain ⟨rfl, rfl⟩ := hq0
      show G Γ (mW K am A σ) 0 0 157 [(5, .int (bI (0 ≤ a ∧ a ≤ ((σ.1 0 p) - 1)))), (0, .ref am), (1, .int (nI p)), (2, .int o), (3, .int a), (4, .int b)] [.int (bI (0 ≤ a ∧ a ≤ 127))]
      exact g_zret hX hR dX8_isRow_157 (bI_nar _) (by rw [okB, if_neg (by rw [hxe]; decide), if_neg (by rw [hxe]; decide), if_neg (by rw [hxe]; decide), if_neg (by rw [hxe]; decide), if_neg (by rw [hxe]; decide), if_pos hxe]; exact ⟨rfl, rfl⟩)
    · have hxe : o = (12 : Int32) := sw_val (hkz ▸ hk1) (by decide)
      refine g_tableIn (n := 150) (off := 134) hX dX8_isRow_16 (by rw [hxe]; decide) (by rw [hxe]; decide) (by rw [hxe]; rfl) (by decide) ?_
      refine g_iload_n (n := 151) hX dX8_isRow_150 rfl rfl rfl ?_
      refine g_iconst (n := 152) (v := 0) hX dX8_isRow_151 rfl rfl ?_
      refine g_bipush (n := 154) (v := 127) hX dX8_isRow_152 rfl rfl ?_
      refine g_callS0 (n := 157) (As := [.int a, .int 0, .int 127]) (rest := []) hX hE hU hY dX8_isRow_154 rfl ys_X8_isIn um_X8_97 (m_isIn _ _ K (mW K am A σ) a 0 127) ⟨rfl, rfl⟩ (rm_le hRm rfl rfl) rfl rfl (Nat.le_of_ble_eq_true rfl) ⟨Nat.zero_le _, Nat.zero_le _⟩ (fun v0 w0 hq0 => ?_)
      obtain ⟨rfl, rfl⟩ := hq0
      show G Γ (mW K am A σ) 0 0 157 [(5, .int (bI (0 ≤ a ∧ a ≤ ((σ.1 0 p) - 1)))), (0, .ref am), (1, .int (nI p)), (2, .int o), (3, .int a), (4, .int b)] [.int (bI (0 ≤ a ∧ a ≤ 127))]
      exact g_zret hX hR dX8_isRow_157 (bI_nar _) (by rw [okB, if_neg (by rw [hxe]; decide), if_neg (by rw [hxe]; decide), if_neg (by rw [hxe]; decide), if_neg (by rw [hxe]; decide), if_neg (by rw [hxe]; decide), if_neg (by rw [hxe]; decide), if_pos hxe]; exact ⟨rfl, rfl⟩)
    · have hxe : o = (13 : Int32) := sw_val (hkz ▸ hk1) (by decide)
      refine g_tableIn (n := 88) (off := 72) hX dX8_isRow_16 (by rw [hxe]; decide) (by rw [hxe]; decide) (by rw [hxe]; rfl) (by decide) ?_
      refine g_iload (n := 90) hX dX8_isRow_88 rfl rfl ?_
      refine g_if_eq (n := 93) (tgt := 109) hX dX8_isRow_90 rfl (by decide) (fun c90 => ?_) (fun c90 => ?_)
      · refine g_iconst (n := 110) (v := 0) hX dX8_isRow_109 rfl rfl ?_
        exact g_zret hX hR dX8_isRow_110 (by first | rfl | exact bI_nar _) (by rw [okB, if_neg (by rw [hxe]; decide), if_pos hxe]; exact ⟨by rw [bI_f (fun h9 => bI_z.mp c90 h9.1)], rfl⟩)
      · refine g_iload (n := 95) hX dX8_isRow_93 rfl rfl ?_
        refine g_bipush (n := 97) (v := (-128)) hX dX8_isRow_95 rfl rfl ?_
        refine g_bipush (n := 99) (v := 127) hX dX8_isRow_97 rfl rfl ?_
        refine g_callS0 (n := 102) (As := [.int b, .int (-128), .int 127]) (rest := []) hX hE hU hY dX8_isRow_99 rfl ys_X8_isIn um_X8_97 (m_isIn _ _ K (mW K am A σ) b (-128) 127) ⟨rfl, rfl⟩ (rm_le hRm rfl rfl) rfl rfl (Nat.le_of_ble_eq_true rfl) ⟨Nat.zero_le _, Nat.zero_le _⟩ (fun v0 w0 hq0 => ?_)
        obtain ⟨rfl, rfl⟩ := hq0
        show G Γ (mW K am A σ) 0 0 102 [(5, .int (bI (0 ≤ a ∧ a ≤ ((σ.1 0 p) - 1)))), (0, .ref am), (1, .int (nI p)), (2, .int o), (3, .int a), (4, .int b)] [.int (bI ((-128) ≤ b ∧ b ≤ 127))]
        refine g_if_eq (n := 105) (tgt := 109) hX dX8_isRow_102 rfl (by decide) (fun c102 => ?_) (fun c102 => ?_)
        · refine g_iconst (n := 110) (v := 0) hX dX8_isRow_109 rfl rfl ?_
          exact g_zret hX hR dX8_isRow_110 (by first | rfl | exact bI_nar _) (by rw [okB, if_neg (by rw [hxe]; decide), if_pos hxe]; exact ⟨by rw [bI_f (fun h9 => bI_z.mp c102 h9.2)], rfl⟩)
        · refine g_iconst (n := 106) (v := 1) hX dX8_isRow_105 rfl rfl ?_
          refine g_goto (n := 110) hX dX8_isRow_106 (by decide) ?_
          exact g_zret hX hR dX8_isRow_110 (by first | rfl | exact bI_nar _) (by rw [okB, if_neg (by rw [hxe]; decide), if_pos hxe]; exact ⟨by rw [bI_t ⟨Decidable.of_not_not (fun h9 => c90 (bI_z.mpr h9)), Decidable.of_not_not (fun h9 => c102 (bI_z.mpr h9))⟩], rfl⟩)

