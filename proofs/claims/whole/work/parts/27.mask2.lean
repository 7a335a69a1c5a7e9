theorem anyU_thr (σ : MS) (x u : Int32) : ∀ c : Nat, anyU (sF σ 0 x) u c = anyU σ u c
  | 0 => rfl
  | c + 1 => by rw [anyU, anyU, anyU_thr σ x u c]; rfl
set_option maxHeartbeats 4000000 in
set_option maxRecDepth 100000 in
theorem lp_shares {Γ : gT} {K : Nat → ClassId} {am : Nat} {A : Nat → Nat} (hX : gOk Γ cX8_shares (wM yX8_shares cX8_shares 5 (some .boolean)) RX8) (hE : gEv Γ) (hRm : gRm Γ = rmL 0 0 0) (hnL : gnL Γ = 5) (hY : gY Γ = yY K) (σ : MS) (u o : Int32) (nc : Nat) (hnc : σ.2 3 = nI nc) (hnc2 : nc ≤ 40) (hR : gRet Γ (some .boolean) (fun v w => v = some (.int (S_shares σ u o).1) ∧ w = mW K am A (S_shares σ u o).2) 0 0) : ∀ (k i : Nat) (sm : Int32), 1 ≤ i → i ≤ nc + 1 → nc + 1 - i ≤ k → sm = (if anyU σ u (i - 1) = true then 1 else 0) → G Γ (mW K am A (sF σ 0 0)) 0 0 10 [(4, .int (nI i)), (3, .int sm), (0, .ref am), (1, .int u), (2, .int o)] [] := by
  have hU : ∀ w ∈ wU, w ∈ wM yX8_shares cX8_shares 5 (some .boolean) := fun w h => wM_in h
  have enc : nF σ 3 = nc := nF_of hnc (by omega)
  have hlast : ∀ sm : Int32, sm = (if anyU σ u (nc + 1 - 1) = true then 1 else 0) → G Γ (mW K am A (sF σ 0 0)) 0 0 10 [(4, .int (nI (nc + 1))), (3, .int sm), (0, .ref am), (1, .int u), (2, .int o)] [] := by
    intro sm hsm
    rw [show nc + 1 - 1 = nc by omega] at hsm
    refine g_iload (n := 12) hX dX8_shares_10 rfl rfl ?_
    refine g_aload_n (n := 13) hX dX8_shares_12 rfl rfl rfl ?_
    refine g_mget (n := 16) 3 (v := .int (nI nc)) hX hU dX8_shares_13 rfl uf_X8_113 rfl rfl (congrArg (fun z => some (Value.int z)) hnc) ?_
    refine g_icmp_gt (n := 19) (tgt := 46) hX dX8_shares_16 rfl (by decide) (fun c16 => ?_) (fun c16 => absurd (nI_lt (a := nc) (b := nc + 1) (by omega) (by omega)) c16)
    refine g_iload_n (n := 47) hX dX8_shares_46 rfl rfl rfl ?_
    refine g_if_eq (n := 50) (tgt := 59) hX dX8_shares_47 rfl (by decide) (fun c47 => ?_) (fun c47 => ?_)
    · refine g_iconst (n := 60) (v := 0) hX dX8_shares_59 rfl rfl ?_
      exact g_zret hX hR dX8_shares_60 rfl ⟨by rw [S_shares, enc, if_neg (fun h8 => by rw [if_pos h8] at hsm; exact absurd (hsm.symm.trans c47) (by decide))], rfl⟩
    · refine g_iload_n (n := 51) hX dX8_shares_50 rfl rfl rfl ?_
      refine g_iload_n (n := 52) hX dX8_shares_51 rfl rfl rfl ?_
      refine g_icmp_ne (n := 55) (tgt := 59) hX dX8_shares_52 rfl (by decide) (fun c52 => ?_) (fun c52 => ?_)
      · refine g_iconst (n := 60) (v := 0) hX dX8_shares_59 rfl rfl ?_
        exact g_zret hX hR dX8_shares_60 rfl ⟨by rw [S_shares, enc, if_pos (Decidable.of_not_not (fun h8 => c47 (by rw [hsm, if_neg h8]))), bI_f c52], rfl⟩
      · refine g_iconst (n := 56) (v := 1) hX dX8_shares_55 rfl rfl ?_
        refine g_goto (n := 60) hX dX8_shares_56 (by decide) ?_
        exact g_zret hX hR dX8_shares_60 rfl ⟨by rw [S_shares, enc, if_pos (Decidable.of_not_not (fun h8 => c47 (by rw [hsm, if_neg h8]))), bI_t c52], rfl⟩
  intro k
  induction k with
  | zero =>
    intro i sm h1 h2 h3 hsm
    have : i = nc + 1 := by omega
    subst this
    exact hlast sm hsm
  | succ k ih =>
    intro i sm h1 h2 h3 hsm
    by_cases hi : i = nc + 1
    · subst hi
      exact hlast sm hsm
    · have hlt : i ≤ nc := by omega
      refine g_iload (n := 12) hX dX8_shares_10 rfl rfl ?_
      refine g_aload_n (n := 13) hX dX8_shares_12 rfl rfl rfl ?_
      refine g_mget (n := 16) 3 (v := .int (nI nc)) hX hU dX8_shares_13 rfl uf_X8_113 rfl rfl (congrArg (fun z => some (Value.int z)) hnc) ?_
      refine g_icmp_gt (n := 19) (tgt := 46) hX dX8_shares_16 rfl (by decide) (fun c16 => absurd c16 (nI_nlt (a := nc) (b := i) (by omega) (by omega))) (fun c16 => ?_)
      refine g_iload_n (n := 20) hX dX8_shares_19 rfl rfl rfl ?_
      refine g_if_ne (n := 23) (tgt := 34) hX dX8_shares_20 rfl (by decide) (fun c20 => ?_) (fun c20 => ?_)
      · refine g_iconst (n := 35) (v := 1) hX dX8_shares_34 rfl rfl ?_
        refine g_goto (n := 39) hX dX8_shares_35 (by decide) ?_
        refine g_istore_n (lv' := [(3, .int 1), (4, .int (nI i)), (0, .ref am), (1, .int u), (2, .int o)]) (n := 40) hX dX8_shares_39 rfl rfl (by rw [hnL]; rfl) rfl ?_
        refine g_iinc (n := 43) (v := nI (i + 1)) (lv' := [(4, .int (nI (i + 1))), (3, .int 1), (0, .ref am), (1, .int u), (2, .int o)]) hX dX8_shares_40 rfl rfl (nI_add i 1) (by rw [hnL]; rfl) rfl ?_
        refine g_goto (n := 10) hX dX8_shares_43 (by decide) ?_
        refine g_pick (lv' := [(4, .int (nI (i + 1))), (3, .int 1), (0, .ref am), (1, .int u), (2, .int o)]) [0, 1, 2, 3, 4] rfl ?_
        refine ih (i + 1) 1 (by omega) (by omega) (by omega) ?_
        have e1 : anyU σ u (i + 1 - 1) = (anyU σ u (i - 1) || decide (σ.1 6 i = u)) := by rw [show i + 1 - 1 = (i - 1) + 1 by omega, anyU, show i - 1 + 1 = i by omega]
        by_cases h9 : anyU σ u (i - 1) = true
        · rw [e1, h9, Bool.true_or, if_pos rfl]
        · rw [if_neg h9] at hsm; exact absurd hsm c20
      · refine g_aload_n (n := 24) hX dX8_shares_23 rfl rfl rfl ?_
        refine g_mget (n := 27) 10 (v := .ref (A 6)) hX hU dX8_shares_24 rfl uf_X8_29 rfl rfl rfl ?_
        refine g_iload (n := 29) hX dX8_shares_27 rfl rfl ?_
        refine g_mild (n := 30) 6 (v := σ.1 6 i) hX hY dX8_shares_29 rfl rfl rfl (vp_in_nI (show i < mN 6 by show i < 41; omega) (by decide)) (by rw [nI_clamp (by omega)] <;> rfl) ?_
        refine g_iload_n (n := 31) hX dX8_shares_30 rfl rfl rfl ?_
        refine g_icmp_ne (n := 34) (tgt := 38) hX dX8_shares_31 rfl (by decide) (fun c31 => ?_) (fun c31 => ?_)
        · refine g_iconst (n := 39) (v := 0) hX dX8_shares_38 rfl rfl ?_
          refine g_istore_n (lv' := [(3, .int 0), (4, .int (nI i)), (0, .ref am), (1, .int u), (2, .int o)]) (n := 40) hX dX8_shares_39 rfl rfl (by rw [hnL]; rfl) rfl ?_
          refine g_iinc (n := 43) (v := nI (i + 1)) (lv' := [(4, .int (nI (i + 1))), (3, .int 0), (0, .ref am), (1, .int u), (2, .int o)]) hX dX8_shares_40 rfl rfl (nI_add i 1) (by rw [hnL]; rfl) rfl ?_
          refine g_goto (n := 10) hX dX8_shares_43 (by decide) ?_
          refine g_pick (lv' := [(4, .int (nI (i + 1))), (3, .int 0), (0, .ref am), (1, .int u), (2, .int o)]) [0, 1, 2, 3, 4] rfl ?_
          refine ih (i + 1) 0 (by omega) (by omega) (by omega) ?_
          have e1 : anyU σ u (i + 1 - 1) = (anyU σ u (i - 1) || decide (σ.1 6 i = u)) := by rw [show i + 1 - 1 = (i - 1) + 1 by omega, anyU, show i - 1 + 1 = i by omega]
          have h9 : ¬ anyU σ u (i - 1) = true := fun h8 => by rw [if_pos h8] at hsm; exact absurd (hsm.symm.trans c20) (by decide)
          rw [e1, Bool.eq_false_iff.mpr h9, Bool.false_or]
          rw [decide_eq_false c31]; rfl
        · refine g_iconst (n := 35) (v := 1) hX dX8_shares_34 rfl rfl ?_
          refine g_goto (n := 39) hX dX8_shares_35 (by decide) ?_
          refine g_istore_n (lv' := [(3, .int 1), (4, .int (nI i)), (0, .ref am), (1, .int u), (2, .int o)]) (n := 40) hX dX8_shares_39 rfl rfl (by rw [hnL]; rfl) rfl ?_
          refine g_iinc (n := 43) (v := nI (i + 1)) (lv' := [(4, .int (nI (i + 1))), (3, .int 1), (0, .ref am), (1, .int u), (2, .int o)]) hX dX8_shares_40 rfl rfl (nI_add i 1) (by rw [hnL]; rfl) rfl ?_
          refine g_goto (n := 10) hX dX8_shares_43 (by decide) ?_
          refine g_pick (lv' := [(4, .int (nI (i + 1))), (3, .int 1), (0, .ref am), (1, .int u), (2, .int o)]) [0, 1, 2, 3, 4] rfl ?_
          refine ih (i + 1) 1 (by omega) (by omega) (by omega) ?_
          have e1 : anyU σ u (i + 1 - 1) = (anyU σ u (i - 1) || decide (σ.1 6 i = u)) := by rw [show i + 1 - 1 = (i - 1) + 1 by omega, anyU, show i - 1 + 1 = i by omega]
          have h9 : ¬ anyU σ u (i - 1) = true := fun h8 => by rw [if_pos h8] at hsm; exact absurd (hsm.symm.trans c20) (by decide)
          rw [e1, Bool.eq_false_iff.mpr h9, Bool.false_or]
          rw [decide_eq_true c31, if_pos rfl]
set_option maxHeartbeats 4000000 in
set_option maxRecDepth 100000 in
theorem m_shares (l : Launch) (D : va_G) (K : Nat → ClassId) (am : Nat) (A : Nat → Nat) (σ : MS) (u o : Int32) (hg : rg σ) : Mc l yX8_shares (wM yX8_shares cX8_shares 5 (some .boolean)) (rmL 0 0 0) D (yY K) [.ref am, .int u, .int o] (mW K am A σ) (fun v w => v = some (.int (S_shares σ u o).1) ∧ w = mW K am A (S_shares σ u o).2) 0 0 := by
  refine m_start (lv := [(0, .ref am), (1, .int u), (2, .int o)]) rfl (Nat.le_of_ble_eq_true rfl) rfl (fun Γ hX hRm hnL hY hDD hLa hR hI hE => ?_)
  have hU : ∀ w ∈ wU, w ∈ wM yX8_shares cX8_shares 5 (some .boolean) := fun w h => wM_in h
  subst hLa
  subst hDD
  obtain ⟨nc, hnc, hnc2⟩ := hg.2.2.1
  refine g_aload_n (n := 1) hX dX8_shares_0 rfl rfl rfl ?_
  refine g_iconst (n := 2) (v := 0) hX dX8_shares_1 rfl rfl ?_
  refine g_mput (n := 5) 0 hX hU dX8_shares_2 rfl uf_X8_87 rfl rfl rfl rfl rfl ?_
  refine g_iconst (n := 6) (v := 0) hX dX8_shares_5 rfl rfl ?_
  refine g_istore_n (lv' := [(3, .int 0), (0, .ref am), (1, .int u), (2, .int o)]) (n := 7) hX dX8_shares_6 rfl rfl (by rw [hnL]; rfl) rfl ?_
  refine g_iconst (n := 8) (v := 1) hX dX8_shares_7 rfl rfl ?_
  refine g_istore (lv' := [(4, .int 1), (3, .int 0), (0, .ref am), (1, .int u), (2, .int o)]) (n := 10) hX dX8_shares_8 rfl (by rw [hnL]; rfl) rfl ?_
  refine g_pick (lv' := [(4, .int 1), (3, .int 0), (0, .ref am), (1, .int u), (2, .int o)]) [0, 1, 2, 3, 4] rfl ?_
  exact lp_shares hX hE hRm hnL hY σ u o nc hnc hnc2 hR (nc + 1) 1 0 (Nat.le_refl _) (by omega) (by omega) rfl

theorem plT_1 {o : Int32} {a b : Int64} (h : o = 3 ∨ o = 4) (hb : b = 0) : plT o a b = 1 := if_pos ⟨h, hb⟩
theorem plT_2 {o : Int32} {a b : Int64} (h : ¬ ((o = 3 ∨ o = 4) ∧ b = 0)) (h5 : o = 5) (ha : ¬ 0 ≤ a) : plT o a b = 2 := by rw [plT, if_neg h, if_pos ⟨h5, Int64.not_le.mp ha⟩]
theorem plT_0 {o : Int32} {a b : Int64} (h : ¬ ((o = 3 ∨ o = 4) ∧ b = 0)) (h5 : ¬ (o = 5 ∧ ¬ 0 ≤ a)) : plT o a b = 0 := by rw [plT, if_neg h, if_neg (fun h9 => h5 ⟨h9.1, Int64.not_le.mpr h9.2⟩)]
theorem plT_nz {o : Int32} {a b : Int64} (h : plT o a b = 0) (ho : o = 3 ∨ o = 4) : ¬ b = 0 := fun hb => by rw [plT_1 ho hb] at h; exact absurd h (by decide)
theorem lg_le {x y : Int64} : lg_cmp x y ≤ 0 ↔ ¬ y < x := by
  unfold lg_cmp
  by_cases h : y < x
  · simp only [gt_iff_lt, h, if_true]; decide
  · simp only [gt_iff_lt, h, if_false, not_false_eq_true, iff_true]
    split <;> decide
set_option maxHeartbeats 4000000 in
set_option maxRecDepth 100000 in
theorem m_plain (l : Launch) (D : va_G) (K : Nat → ClassId) (am : Nat) (A : Nat → Nat) (σ : MS) (o : Int32) (a b : Int64) : Mc l yX8_plain (wM yX8_plain cX8_plain 6 (some .long)) (rmL 0 0 0) D (yY K) [.ref am, .int o, .long a, .long b] (mW K am A σ) (fun v w => v = some (.long (S_plain σ o a b).1) ∧ w = mW K am A (S_plain σ o a b).2) 0 0 := by
  refine m_start (lv := [(0, .ref am), (1, .int o), (2, .long a), (4, .long b)]) rfl (Nat.le_of_ble_eq_true rfl) rfl (fun Γ hX hRm hnL hY hDD hLa hR hI hE => ?_)
  have hU : ∀ w ∈ wU, w ∈ wM yX8_plain cX8_plain 6 (some .long) := fun w h => wM_in h
  subst hLa
  subst hDD
  have key : plT o a b = 0 → G Γ (mW K am A (sF σ 0 0)) 0 0 50 [(0, .ref am), (1, .int o), (2, .long a), (4, .long b)] [] := by
    intro hT
    refine g_iload_n (n := 51) hX dX8_plain_50 rfl rfl rfl ?_
    rcases sw_split o (0) (5) with hsw | hsw
    · refine g_tableOut (n := 157) hX dX8_plain_51 hsw (by decide) ?_
      have hno : ∀ q : Int32, (0 ≤ q.toInt ∧ q.toInt ≤ 5) → ¬ o = q := fun q hq h9 => by rw [h9] at hsw; omega
      refine g_lconst (n := 158) (v := 0) hX dX8_plain_157 rfl rfl ?_
      exact g_lret hX hR dX8_plain_158 (by rw [S_plain, if_pos hT, plV, if_neg (hno 0 (by decide)), if_neg (hno 1 (by decide)), if_neg (hno 2 (by decide)), if_neg (hno 3 (by decide)), if_neg (hno 4 (by decide)), if_neg (hno 5 (by decide))]; exact ⟨rfl, rfl⟩)
    · obtain ⟨kz, hk1, hk2⟩ := hsw
      rcases (show kz = (0 : Int) ∨ kz = (1 : Int) ∨ kz = (2 : Int) ∨ kz = (3 : Int) ∨ kz = (4 : Int) ∨ kz = (5 : Int) by omega) with hkz | hkz | hkz | hkz | hkz | hkz
      · have hxe : o = (0 : Int32) := sw_val (hkz ▸ hk1) (by decide)
        refine g_tableIn (n := 88) (off := 37) hX dX8_plain_51 (by rw [hxe]; decide) (by rw [hxe]; decide) (by rw [hxe]; rfl) (by decide) ?_
        refine g_lload_n (n := 89) hX dX8_plain_88 rfl rfl rfl ?_
        refine g_lload (n := 91) hX dX8_plain_89 rfl rfl ?_
        refine g_ladd (n := 92) (v := a + b) hX dX8_plain_91 rfl rfl ?_
        exact g_lret hX hR dX8_plain_92 (by rw [S_plain, if_pos hT, plV, if_pos hxe]; exact ⟨rfl, rfl⟩)
      · have hxe : o = (1 : Int32) := sw_val (hkz ▸ hk1) (by decide)
        refine g_tableIn (n := 93) (off := 42) hX dX8_plain_51 (by rw [hxe]; decide) (by rw [hxe]; decide) (by rw [hxe]; rfl) (by decide) ?_
        refine g_lload_n (n := 94) hX dX8_plain_93 rfl rfl rfl ?_
        refine g_lload (n := 96) hX dX8_plain_94 rfl rfl ?_
        refine g_lsub (n := 97) (v := a - b) hX dX8_plain_96 rfl rfl ?_
        exact g_lret hX hR dX8_plain_97 (by rw [S_plain, if_pos hT, plV, if_neg (by rw [hxe]; decide), if_pos hxe]; exact ⟨rfl, rfl⟩)
      · have hxe : o = (2 : Int32) := sw_val (hkz ▸ hk1) (by decide)
        refine g_tableIn (n := 98) (off := 47) hX dX8_plain_51 (by rw [hxe]; decide) (by rw [hxe]; decide) (by rw [hxe]; rfl) (by decide) ?_
        refine g_lload_n (n := 99) hX dX8_plain_98 rfl rfl rfl ?_
        refine g_lload (n := 101) hX dX8_plain_99 rfl rfl ?_
        refine g_lmul (n := 102) (v := a * b) hX dX8_plain_101 rfl rfl ?_
        exact g_lret hX hR dX8_plain_102 (by rw [S_plain, if_pos hT, plV, if_neg (by rw [hxe]; decide), if_neg (by rw [hxe]; decide), if_pos hxe]; exact ⟨rfl, rfl⟩)
      · have hxe : o = (3 : Int32) := sw_val (hkz ▸ hk1) (by decide)
        refine g_tableIn (n := 103) (off := 52) hX dX8_plain_51 (by rw [hxe]; decide) (by rw [hxe]; decide) (by rw [hxe]; rfl) (by decide) ?_
        refine g_lload (n := 105) hX dX8_plain_103 rfl rfl ?_
        refine g_ldc2 (n := 108) (v := (-1)) hX dX8_plain_105 rfl (hU _ uk_X8_243) ?_
        refine g_lcmp (n := 109) hX dX8_plain_108 rfl ?_
        refine g_if_ne (n := 112) (tgt := 118) hX dX8_plain_109 rfl (by decide) (fun c109 => ?_) (fun c109 => ?_)
        · refine g_lload_n (n := 119) hX dX8_plain_118 rfl rfl rfl ?_
          refine g_lload (n := 121) hX dX8_plain_119 rfl rfl ?_
          refine g_ldiv (n := 122) (v := a / b) hX dX8_plain_121 rfl (plT_nz hT (Or.inl hxe)) rfl ?_
          exact g_lret hX hR dX8_plain_122 (by rw [S_plain, if_pos hT, plV, if_neg (by rw [hxe]; decide), if_neg (by rw [hxe]; decide), if_neg (by rw [hxe]; decide), if_pos hxe, if_neg (fun h8 => c109 (lg0.mpr h8))]; exact ⟨rfl, rfl⟩)
        · refine g_lconst (n := 113) (v := 0) hX dX8_plain_112 rfl rfl ?_
          refine g_lload_n (n := 114) hX dX8_plain_113 rfl rfl rfl ?_
          refine g_lsub (n := 115) (v := 0 - a) hX dX8_plain_114 rfl rfl ?_
          refine g_goto (n := 122) hX dX8_plain_115 (by decide) ?_
          exact g_lret hX hR dX8_plain_122 (by rw [S_plain, if_pos hT, plV, if_neg (by rw [hxe]; decide), if_neg (by rw [hxe]; decide), if_neg (by rw [hxe]; decide), if_pos hxe, if_pos (lg0.mp c109)]; exact ⟨rfl, rfl⟩)
      · have hxe : o = (4 : Int32) := sw_val (hkz ▸ hk1) (by decide)
        refine g_tableIn (n := 123) (off := 72) hX dX8_plain_51 (by rw [hxe]; decide) (by rw [hxe]; decide) (by rw [hxe]; rfl) (by decide) ?_
        refine g_lload (n := 125) hX dX8_plain_123 rfl rfl ?_
        refine g_ldc2 (n := 128) (v := (-1)) hX dX8_plain_125 rfl (hU _ uk_X8_243) ?_
        refine g_lcmp (n := 129) hX dX8_plain_128 rfl ?_
        refine g_if_ne (n := 132) (tgt := 136) hX dX8_plain_129 rfl (by decide) (fun c129 => ?_) (fun c129 => ?_)
        · refine g_lload_n (n := 137) hX dX8_plain_136 rfl rfl rfl ?_
          refine g_lload (n := 139) hX dX8_plain_137 rfl rfl ?_
          refine g_lrem (n := 140) (v := a - a / b * b) hX dX8_plain_139 rfl (plT_nz hT (Or.inr hxe)) rfl ?_
          exact g_lret hX hR dX8_plain_140 (by rw [S_plain, if_pos hT, plV, if_neg (by rw [hxe]; decide), if_neg (by rw [hxe]; decide), if_neg (by rw [hxe]; decide), if_neg (by rw [hxe]; decide), if_pos hxe, if_neg (fun h8 => c129 (lg0.mpr h8))]; exact ⟨rfl, rfl⟩)
        · refine g_lconst (n := 133) (v := 0) hX dX8_plain_132 rfl rfl ?_
          refine g_goto (n := 140) hX dX8_plain_133 (by decide) ?_
          exact g_lret hX hR dX8_plain_140 (by rw [S_plain, if_pos hT, plV, if_neg (by rw [hxe]; decide), if_neg (by rw [hxe]; decide), if_neg (by rw [hxe]; decide), if_neg (by rw [hxe]; decide), if_pos hxe, if_pos (lg0.mp c129)]; exact ⟨rfl, rfl⟩)
      · have hxe : o = (5 : Int32) := sw_val (hkz ▸ hk1) (by decide)
        refine g_tableIn (n := 141) (off := 90) hX dX8_plain_51 (by rw [hxe]; decide) (by rw [hxe]; decide) (by rw [hxe]; rfl) (by decide) ?_
        refine g_lload_n (n := 142) hX dX8_plain_141 rfl rfl rfl ?_
        refine g_ldc2 (n := 145) (v := 1000) hX dX8_plain_142 rfl (hU _ uk_X8_245) ?_
        refine g_lcmp (n := 146) hX dX8_plain_145 rfl ?_
        refine g_if_le (n := 149) (tgt := 155) hX dX8_plain_146 rfl (by decide) (fun c146 => ?_) (fun c146 => ?_)
        · refine g_lload_n (n := 156) hX dX8_plain_155 rfl rfl rfl ?_
          exact g_lret hX hR dX8_plain_156 (by rw [S_plain, if_pos hT, plV, if_neg (by rw [hxe]; decide), if_neg (by rw [hxe]; decide), if_neg (by rw [hxe]; decide), if_neg (by rw [hxe]; decide), if_neg (by rw [hxe]; decide), if_pos hxe, if_neg (lg_le.mp c146)]; exact ⟨rfl, rfl⟩)
        · refine g_ldc2 (n := 152) (v := 1000) hX dX8_plain_149 rfl (hU _ uk_X8_245) ?_
          refine g_goto (n := 156) hX dX8_plain_152 (by decide) ?_
          exact g_lret hX hR dX8_plain_156 (by rw [S_plain, if_pos hT, plV, if_neg (by rw [hxe]; decide), if_neg (by rw [hxe]; decide), if_neg (by rw [hxe]; decide), if_neg (by rw [hxe]; decide), if_neg (by rw [hxe]; decide), if_pos hxe, if_pos (Decidable.of_not_not (fun h8 => c146 (lg_le.mpr h8)))]; exact ⟨rfl, rfl⟩)
  refine g_aload_n (n := 1) hX dX8_plain_0 rfl rfl rfl ?_
  refine g_iload_n (n := 2) hX dX8_plain_1 rfl rfl rfl ?_
  refine g_iconst (n := 3) (v := 3) hX dX8_plain_2 rfl rfl ?_
  refine g_icmp_eq (n := 6) (tgt := 11) hX dX8_plain_3 rfl (by decide) (fun c3 => ?_) (fun c3 => ?_)
  · refine g_lload (n := 13) hX dX8_plain_11 rfl rfl ?_
    refine g_lconst (n := 14) (v := 0) hX dX8_plain_13 rfl rfl ?_
    refine g_lcmp (n := 15) hX dX8_plain_14 rfl ?_
    refine g_if_ne (n := 18) (tgt := 22) hX dX8_plain_15 rfl (by decide) (fun c15 => ?_) (fun c15 => ?_)
    · have c15 := fun h9 => c15 (lg0.mpr h9)
      refine g_iload_n (n := 23) hX dX8_plain_22 rfl rfl rfl ?_
      refine g_iconst (n := 24) (v := 5) hX dX8_plain_23 rfl rfl ?_
      refine g_icmp_ne (n := 27) (tgt := 37) hX dX8_plain_24 rfl (by decide) (fun c24 => ?_) (fun c24 => ?_)
      · refine g_iconst (n := 38) (v := 0) hX dX8_plain_37 rfl rfl ?_
        refine g_mput (n := 41) 0 hX hU dX8_plain_38 rfl uf_X8_87 rfl rfl rfl rfl rfl ?_
        refine g_aload_n (n := 42) hX dX8_plain_41 rfl rfl rfl ?_
        refine g_mget (n := 45) 0 (v := .int 0) hX hU dX8_plain_42 rfl uf_X8_87 rfl rfl rfl ?_
        refine g_if_le (n := 48) (tgt := 50) hX dX8_plain_45 rfl (by decide) (fun c45 => ?_) (fun c45 => absurd (by decide) c45)
        exact key (plT_0 (by intro h9; simp_all) (by intro h9; simp_all))
      · refine g_lload_n (n := 28) hX dX8_plain_27 rfl rfl rfl ?_
        refine g_lconst (n := 29) (v := 0) hX dX8_plain_28 rfl rfl ?_
        refine g_lcmp (n := 30) hX dX8_plain_29 rfl ?_
        refine g_if_ge (n := 33) (tgt := 37) hX dX8_plain_30 rfl (by decide) (fun c30 => ?_) (fun c30 => ?_)
        · have c30 := (lg_cmp_ge a 0).mp c30
          refine g_iconst (n := 38) (v := 0) hX dX8_plain_37 rfl rfl ?_
          refine g_mput (n := 41) 0 hX hU dX8_plain_38 rfl uf_X8_87 rfl rfl rfl rfl rfl ?_
          refine g_aload_n (n := 42) hX dX8_plain_41 rfl rfl rfl ?_
          refine g_mget (n := 45) 0 (v := .int 0) hX hU dX8_plain_42 rfl uf_X8_87 rfl rfl rfl ?_
          refine g_if_le (n := 48) (tgt := 50) hX dX8_plain_45 rfl (by decide) (fun c45 => ?_) (fun c45 => absurd (by decide) c45)
          exact key (plT_0 (by intro h9; simp_all) (by intro h9; simp_all))
        · have c30 := fun h9 => c30 ((lg_cmp_ge a 0).mpr h9)
          refine g_iconst (n := 34) (v := 2) hX dX8_plain_33 rfl rfl ?_
          refine g_goto (n := 38) hX dX8_plain_34 (by decide) ?_
          refine g_mput (n := 41) 0 hX hU dX8_plain_38 rfl uf_X8_87 rfl rfl rfl rfl rfl ?_
          refine g_aload_n (n := 42) hX dX8_plain_41 rfl rfl rfl ?_
          refine g_mget (n := 45) 0 (v := .int 2) hX hU dX8_plain_42 rfl uf_X8_87 rfl rfl rfl ?_
          refine g_if_le (n := 48) (tgt := 50) hX dX8_plain_45 rfl (by decide) (fun c45 => absurd c45 (by decide)) (fun c45 => ?_)
          refine g_lconst (n := 49) (v := 0) hX dX8_plain_48 rfl rfl ?_
          exact g_lret hX hR dX8_plain_49 (by have hT : plT o a b = 2 := plT_2 (by intro h9; simp_all) c24 c30; rw [S_plain, if_neg (by rw [hT]; decide), hT]; exact ⟨rfl, rfl⟩)
    · have c15 := lg0.mp c15
      refine g_iconst (n := 19) (v := 1) hX dX8_plain_18 rfl rfl ?_
      refine g_goto (n := 38) hX dX8_plain_19 (by decide) ?_
      refine g_mput (n := 41) 0 hX hU dX8_plain_38 rfl uf_X8_87 rfl rfl rfl rfl rfl ?_
      refine g_aload_n (n := 42) hX dX8_plain_41 rfl rfl rfl ?_
      refine g_mget (n := 45) 0 (v := .int 1) hX hU dX8_plain_42 rfl uf_X8_87 rfl rfl rfl ?_
      refine g_if_le (n := 48) (tgt := 50) hX dX8_plain_45 rfl (by decide) (fun c45 => absurd c45 (by decide)) (fun c45 => ?_)
      refine g_lconst (n := 49) (v := 0) hX dX8_plain_48 rfl rfl ?_
      exact g_lret hX hR dX8_plain_49 (by have hT : plT o a b = 1 := plT_1 (by simp_all) c15; rw [S_plain, if_neg (by rw [hT]; decide), hT]; exact ⟨rfl, rfl⟩)
  · refine g_iload_n (n := 7) hX dX8_plain_6 rfl rfl rfl ?_
    refine g_iconst (n := 8) (v := 4) hX dX8_plain_7 rfl rfl ?_
    refine g_icmp_ne (n := 11) (tgt := 22) hX dX8_plain_8 rfl (by decide) (fun c8 => ?_) (fun c8 => ?_)
    · refine g_iload_n (n := 23) hX dX8_plain_22 rfl rfl rfl ?_
      refine g_iconst (n := 24) (v := 5) hX dX8_plain_23 rfl rfl ?_
      refine g_icmp_ne (n := 27) (tgt := 37) hX dX8_plain_24 rfl (by decide) (fun c24 => ?_) (fun c24 => ?_)
      · refine g_iconst (n := 38) (v := 0) hX dX8_plain_37 rfl rfl ?_
        refine g_mput (n := 41) 0 hX hU dX8_plain_38 rfl uf_X8_87 rfl rfl rfl rfl rfl ?_
        refine g_aload_n (n := 42) hX dX8_plain_41 rfl rfl rfl ?_
        refine g_mget (n := 45) 0 (v := .int 0) hX hU dX8_plain_42 rfl uf_X8_87 rfl rfl rfl ?_
        refine g_if_le (n := 48) (tgt := 50) hX dX8_plain_45 rfl (by decide) (fun c45 => ?_) (fun c45 => absurd (by decide) c45)
        exact key (plT_0 (by intro h9; simp_all) (by intro h9; simp_all))
      · refine g_lload_n (n := 28) hX dX8_plain_27 rfl rfl rfl ?_
        refine g_lconst (n := 29) (v := 0) hX dX8_plain_28 rfl rfl ?_
        refine g_lcmp (n := 30) hX dX8_plain_29 rfl ?_
        refine g_if_ge (n := 33) (tgt := 37) hX dX8_plain_30 rfl (by decide) (fun c30 => ?_) (fun c30 => ?_)
        · have c30 := (lg_cmp_ge a 0).mp c30
          refine g_iconst (n := 38) (v := 0) hX dX8_plain_37 rfl rfl ?_
          refine g_mput (n := 41) 0 hX hU dX8_plain_38 rfl uf_X8_87 rfl rfl rfl rfl rfl ?_
          refine g_aload_n (n := 42) hX dX8_plain_41 rfl rfl rfl ?_
          refine g_mget (n := 45) 0 (v := .int 0) hX hU dX8_plain_42 rfl uf_X8_87 rfl rfl rfl ?_
          refine g_if_le (n := 48) (tgt := 50) hX dX8_plain_45 rfl (by decide) (fun c45 => ?_) (fun c45 => absurd (by decide) c45)
          exact key (plT_0 (by intro h9; simp_all) (by intro h9; simp_all))
        · have c30 := fun h9 => c30 ((lg_cmp_ge a 0).mpr h9)
          refine g_iconst (n := 34) (v := 2) hX dX8_plain_33 rfl rfl ?_
          refine g_goto (n := 38) hX dX8_plain_34 (by decide) ?_
          refine g_mput (n := 41) 0 hX hU dX8_plain_38 rfl uf_X8_87 rfl rfl rfl rfl rfl ?_
          refine g_aload_n (n := 42) hX dX8_plain_41 rfl rfl rfl ?_
          refine g_mget (n := 45) 0 (v := .int 2) hX hU dX8_plain_42 rfl uf_X8_87 rfl rfl rfl ?_
          refine g_if_le (n := 48) (tgt := 50) hX dX8_plain_45 rfl (by decide) (fun c45 => absurd c45 (by decide)) (fun c45 => ?_)
          refine g_lconst (n := 49) (v := 0) hX dX8_plain_48 rfl rfl ?_
          exact g_lret hX hR dX8_plain_49 (by have hT : plT o a b = 2 := plT_2 (by intro h9; simp_all) c24 c30; rw [S_plain, if_neg (by rw [hT]; decide), hT]; exact ⟨rfl, rfl⟩)
    · refine g_lload (n := 13) hX dX8_plain_11 rfl rfl ?_
      refine g_lconst (n := 14) (v := 0) hX dX8_plain_13 rfl rfl ?_
      refine g_lcmp (n := 15) hX dX8_plain_14 rfl ?_
      refine g_if_ne (n := 18) (tgt := 22) hX dX8_plain_15 rfl (by decide) (fun c15 => ?_) (fun c15 => ?_)
      · have c15 := fun h9 => c15 (lg0.mpr h9)
        refine g_iload_n (n := 23) hX dX8_plain_22 rfl rfl rfl ?_
        refine g_iconst (n := 24) (v := 5) hX dX8_plain_23 rfl rfl ?_
        refine g_icmp_ne (n := 27) (tgt := 37) hX dX8_plain_24 rfl (by decide) (fun c24 => ?_) (fun c24 => ?_)
        · refine g_iconst (n := 38) (v := 0) hX dX8_plain_37 rfl rfl ?_
          refine g_mput (n := 41) 0 hX hU dX8_plain_38 rfl uf_X8_87 rfl rfl rfl rfl rfl ?_
          refine g_aload_n (n := 42) hX dX8_plain_41 rfl rfl rfl ?_
          refine g_mget (n := 45) 0 (v := .int 0) hX hU dX8_plain_42 rfl uf_X8_87 rfl rfl rfl ?_
          refine g_if_le (n := 48) (tgt := 50) hX dX8_plain_45 rfl (by decide) (fun c45 => ?_) (fun c45 => absurd (by decide) c45)
          exact key (plT_0 (by intro h9; simp_all) (by intro h9; simp_all))
        · refine g_lload_n (n := 28) hX dX8_plain_27 rfl rfl rfl ?_
          refine g_lconst (n := 29) (v := 0) hX dX8_plain_28 rfl rfl ?_
          refine g_lcmp (n := 30) hX dX8_plain_29 rfl ?_
          refine g_if_ge (n := 33) (tgt := 37) hX dX8_plain_30 rfl (by decide) (fun c30 => ?_) (fun c30 => ?_)
          · have c30 := (lg_cmp_ge a 0).mp c30
            refine g_iconst (n := 38) (v := 0) hX dX8_plain_37 rfl rfl ?_
            refine g_mput (n := 41) 0 hX hU dX8_plain_38 rfl uf_X8_87 rfl rfl rfl rfl rfl ?_
            refine g_aload_n (n := 42) hX dX8_plain_41 rfl rfl rfl ?_
            refine g_mget (n := 45) 0 (v := .int 0) hX hU dX8_plain_42 rfl uf_X8_87 rfl rfl rfl ?_
            refine g_if_le (n := 48) (tgt := 50) hX dX8_plain_45 rfl (by decide) (fun c45 => ?_) (fun c45 => absurd (by decide) c45)
            exact key (plT_0 (by intro h9; simp_all) (by intro h9; simp_all))
          · have c30 := fun h9 => c30 ((lg_cmp_ge a 0).mpr h9)
            refine g_iconst (n := 34) (v := 2) hX dX8_plain_33 rfl rfl ?_
            refine g_goto (n := 38) hX dX8_plain_34 (by decide) ?_
            refine g_mput (n := 41) 0 hX hU dX8_plain_38 rfl uf_X8_87 rfl rfl rfl rfl rfl ?_
            refine g_aload_n (n := 42) hX dX8_plain_41 rfl rfl rfl ?_
            refine g_mget (n := 45) 0 (v := .int 2) hX hU dX8_plain_42 rfl uf_X8_87 rfl rfl rfl ?_
            refine g_if_le (n := 48) (tgt := 50) hX dX8_plain_45 rfl (by decide) (fun c45 => absurd c45 (by decide)) (fun c45 => ?_)
            refine g_lconst (n := 49) (v := 0) hX dX8_plain_48 rfl rfl ?_
            exact g_lret hX hR dX8_plain_49 (by have hT : plT o a b = 2 := plT_2 (by intro h9; simp_all) c24 c30; rw [S_plain, if_neg (by rw [hT]; decide), hT]; exact ⟨rfl, rfl⟩)
      · have c15 := lg0.mp c15
        refine g_iconst (n := 19) (v := 1) hX dX8_plain_18 rfl rfl ?_
        refine g_goto (n := 38) hX dX8_plain_19 (by decide) ?_
        refine g_mput (n := 41) 0 hX hU dX8_plain_38 rfl uf_X8_87 rfl rfl rfl rfl rfl ?_
        refine g_aload_n (n := 42) hX dX8_plain_41 rfl rfl rfl ?_
        refine g_mget (n := 45) 0 (v := .int 1) hX hU dX8_plain_42 rfl uf_X8_87 rfl rfl rfl ?_
        refine g_if_le (n := 48) (tgt := 50) hX dX8_plain_45 rfl (by decide) (fun c45 => absurd c45 (by decide)) (fun c45 => ?_)
        refine g_lconst (n := 49) (v := 0) hX dX8_plain_48 rfl rfl ?_
        exact g_lret hX hR dX8_plain_49 (by have hT : plT o a b = 1 := plT_1 (by simp_all) c15; rw [S_plain, if_neg (by rw [hT]; decide), hT]; exact ⟨rfl, rfl⟩)

