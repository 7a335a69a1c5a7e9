set_option maxHeartbeats 4000000 in
set_option maxRecDepth 100000 in
theorem lp_enter {Γ : gT} {K : Nat → ClassId} {am : Nat} {A : Nat → Nat} (hX : gOk Γ cX8_enter (wM yX8_enter cX8_enter 5 (some .int)) RX8) (hE : gEv Γ) (hRm : gRm Γ = rmL 0 0 0) (hnL : gnL Γ = 5) (hY : gY Γ = yY K) (τ : MS) (c u p : Nat) (hu1 : 1 ≤ u) (hu2 : u ≤ 8) (hp1 : 1 ≤ p) (hp2 : p ≤ 12) : ∀ (j k : Nat), k + j = 100 → G Γ (mW K am A (zW τ (wk u p 0) 100)) 0 0 122 [(4, .int 100), (3, .int (nI p)), (2, .int (nI u)), (0, .ref am), (1, .int (nI c))] [] → G Γ (mW K am A (zW τ (wk u p 0) k)) 0 0 83 [(4, .int (nI k)), (3, .int (nI p)), (2, .int (nI u)), (0, .ref am), (1, .int (nI c))] [] := by
  have hU : ∀ w ∈ wU, w ∈ wM yX8_enter cX8_enter 5 (some .int) := fun w h => wM_in h
  intro j
  induction j with
  | zero =>
    intro k hk hk0
    have hkk : k = 100 := by omega
    subst hkk
    show G Γ (mW K am A (zW τ (wk u p 0) 100)) 0 0 83 [(4, .int 100), (3, .int (nI p)), (2, .int (nI u)), (0, .ref am), (1, .int (nI c))] []
    refine g_iload (n := 85) hX dX8_enter_83 rfl rfl ?_
    refine g_bipush (n := 87) (v := 100) hX dX8_enter_85 rfl rfl ?_
    refine g_icmp_ge (n := 90) (tgt := 122) hX dX8_enter_87 rfl (by decide) (fun c87 => ?_) (fun c87 => absurd (by decide) c87)
    exact hk0
  | succ j ih =>
    intro k hk hk0
    refine g_iload (n := 85) hX dX8_enter_83 rfl rfl ?_
    refine g_bipush (n := 87) (v := 100) hX dX8_enter_85 rfl rfl ?_
    refine g_icmp_ge (n := 90) (tgt := 122) hX dX8_enter_87 rfl (by decide) (fun c87 => absurd c87 (nI_ge (a := k) (b := 100) (by omega) (by decide))) (fun c87 => ?_)
    refine g_aload_n (n := 91) hX dX8_enter_90 rfl rfl rfl ?_
    refine g_mget (n := 94) 24 (v := .ref (A 20)) hX hU dX8_enter_91 rfl uf_X8_71 rfl rfl rfl ?_
    refine g_sipush (n := 97) (v := 1200) hX dX8_enter_94 rfl rfl ?_
    refine g_iload_n (n := 98) hX dX8_enter_97 rfl rfl rfl ?_
    refine g_imul (n := 99) (v := nI (1200 * u)) hX dX8_enter_98 rfl (pk_mul (1200) (u)) ?_
    refine g_sipush (n := 102) (v := 1200) hX dX8_enter_99 rfl rfl ?_
    refine g_isub (n := 103) (v := nI (1200 * u - 1200)) hX dX8_enter_102 rfl (by rw [show (1200 : Int32) = nI 1200 from rfl, pk_sub (by omega)]) ?_
    refine g_bipush (n := 105) (v := 100) hX dX8_enter_103 rfl rfl ?_
    refine g_iload_n (n := 106) hX dX8_enter_105 rfl rfl rfl ?_
    refine g_imul (n := 107) (v := nI (100 * p)) hX dX8_enter_106 rfl (pk_mul (100) (p)) ?_
    refine g_iadd (n := 108) (v := nI (1200 * u - 1200 + 100 * p)) hX dX8_enter_107 rfl (nI_add (1200 * u - 1200) (100 * p)) ?_
    refine g_bipush (n := 110) (v := 100) hX dX8_enter_108 rfl rfl ?_
    refine g_isub (n := 111) (v := nI (1200 * u - 1200 + 100 * p - 100)) hX dX8_enter_110 rfl (by rw [show (100 : Int32) = nI 100 from rfl, pk_sub (by omega)]) ?_
    refine g_iload (n := 113) hX dX8_enter_111 rfl rfl ?_
    refine g_iadd (n := 114) (v := nI (1200 * u - 1200 + 100 * p - 100 + k)) hX dX8_enter_113 rfl (nI_add (1200 * u - 1200 + 100 * p - 100) (k)) ?_
    refine g_iconst (n := 115) (v := 0) hX dX8_enter_114 rfl rfl ?_
    refine g_mbst (n := 116) 20 (i0 := wk u p 0 + k) hX hY dX8_enter_115 rfl rfl rfl (vp_in_nI (show 1200 * u - 1200 + 100 * p - 100 + k < mN 20 by show 1200 * u - 1200 + 100 * p - 100 + k < 12000; omega) (by decide)) (by rw [nI_clamp (by omega)]; unfold wk; omega) ?_
    refine g_iinc (n := 119) (v := nI (k + 1)) (lv' := [(4, .int (nI (k + 1))), (3, .int (nI p)), (2, .int (nI u)), (0, .ref am), (1, .int (nI c))]) hX dX8_enter_116 rfl rfl (nI_add k 1) (by rw [hnL]; rfl) rfl ?_
    refine g_goto (n := 83) hX dX8_enter_119 (by decide) ?_
    refine g_pick (lv' := [(4, .int (nI (k + 1))), (3, .int (nI p)), (2, .int (nI u)), (0, .ref am), (1, .int (nI c))]) [0, 1, 2, 3, 4] rfl ?_
    exact ih (k + 1) (by omega) hk0
set_option maxHeartbeats 4000000 in
set_option maxRecDepth 100000 in
theorem m_enter (l : Launch) (D : va_G) (K : Nat → ClassId) (am : Nat) (A : Nat → Nat) (σ : MS) (c u p d : Nat) (hc2 : c ≤ 40) (huc : σ.1 6 c = nI u) (hu1 : 1 ≤ u) (hu2 : u ≤ 8) (hpc : σ.1 7 c = nI p) (hp1 : 1 ≤ p) (hp2 : p ≤ 12) (hd : σ.2 26 = nI d) (hd2 : d ≤ 11) : Mc l yX8_enter (wM yX8_enter cX8_enter 5 (some .int)) (rmL 0 0 0) D (yY K) [.ref am, .int (nI c)] (mW K am A σ) (fun v w => v = some (.int (S_enter σ c).1) ∧ w = mW K am A (S_enter σ c).2) 0 0 := by
  refine m_start (lv := [(0, .ref am), (1, .int (nI c))]) rfl (Nat.le_of_ble_eq_true rfl) rfl (fun Γ hX hRm hnL hY hDD hLa hR hI hE => ?_)
  have hU : ∀ w ∈ wU, w ∈ wM yX8_enter cX8_enter 5 (some .int) := fun w h => wM_in h
  subst hLa
  subst hDD
  have euc : nA σ 6 c = u := nA_of huc (by omega)
  have epc : nA σ 7 c = p := nA_of hpc (by omega)
  have ed : nF σ 26 = d := nF_of hd (by omega)
  refine g_aload_n (n := 1) hX dX8_enter_0 rfl rfl rfl ?_
  refine g_mget (n := 4) 10 (v := .ref (A 6)) hX hU dX8_enter_1 rfl uf_X8_29 rfl rfl rfl ?_
  refine g_iload_n (n := 5) hX dX8_enter_4 rfl rfl rfl ?_
  refine g_mild (n := 6) 6 (v := nI u) hX hY dX8_enter_5 rfl rfl rfl (vp_in_nI (show c < mN 6 by show c < 41; omega) (by decide)) (by rw [nI_clamp (by omega)]; exact huc) ?_
  refine g_istore_n (lv' := [(2, .int (nI u)), (0, .ref am), (1, .int (nI c))]) (n := 7) hX dX8_enter_6 rfl rfl (by rw [hnL]; rfl) rfl ?_
  refine g_aload_n (n := 8) hX dX8_enter_7 rfl rfl rfl ?_
  refine g_mget (n := 11) 11 (v := .ref (A 7)) hX hU dX8_enter_8 rfl uf_X8_32 rfl rfl rfl ?_
  refine g_iload_n (n := 12) hX dX8_enter_11 rfl rfl rfl ?_
  refine g_mild (n := 13) 7 (v := nI p) hX hY dX8_enter_12 rfl rfl rfl (vp_in_nI (show c < mN 7 by show c < 41; omega) (by decide)) (by rw [nI_clamp (by omega)]; exact hpc) ?_
  refine g_istore_n (lv' := [(3, .int (nI p)), (2, .int (nI u)), (0, .ref am), (1, .int (nI c))]) (n := 14) hX dX8_enter_13 rfl rfl (by rw [hnL]; rfl) rfl ?_
  refine g_aload_n (n := 15) hX dX8_enter_14 rfl rfl rfl ?_
  refine g_mget (n := 18) 27 (v := .ref (A 22)) hX hU dX8_enter_15 rfl uf_X8_78 rfl rfl rfl ?_
  refine g_aload_n (n := 19) hX dX8_enter_18 rfl rfl rfl ?_
  refine g_mget (n := 22) 26 (v := .int (nI d)) hX hU dX8_enter_19 rfl uf_X8_122 rfl rfl (congrArg (fun z => some (Value.int z)) hd) ?_
  refine g_iload_n (n := 23) hX dX8_enter_22 rfl rfl rfl ?_
  refine g_mist (n := 24) 22 (i0 := d) hX hY dX8_enter_23 rfl rfl rfl (vp_in_nI (show d < mN 22 by show d < 12; omega) (by decide)) (nI_clamp (by omega)) ?_
  refine g_aload_n (n := 25) hX dX8_enter_24 rfl rfl rfl ?_
  refine g_mget (n := 28) 28 (v := .ref (A 23)) hX hU dX8_enter_25 rfl uf_X8_81 rfl rfl rfl ?_
  refine g_aload_n (n := 29) hX dX8_enter_28 rfl rfl rfl ?_
  refine g_mget (n := 32) 26 (v := .int (nI d)) hX hU dX8_enter_29 rfl uf_X8_122 rfl rfl (congrArg (fun z => some (Value.int z)) hd) ?_
  refine g_iconst (n := 33) (v := 1) hX dX8_enter_32 rfl rfl ?_
  refine g_mist (n := 34) 23 (i0 := d) hX hY dX8_enter_33 rfl rfl rfl (vp_in_nI (show d < mN 23 by show d < 12; omega) (by decide)) (nI_clamp (by omega)) ?_
  refine g_aload_n (n := 35) hX dX8_enter_34 rfl rfl rfl ?_
  refine g_dup (n := 36) hX dX8_enter_35 rfl rfl ?_
  refine g_mget (n := 39) 26 (v := .int (nI d)) hX hU dX8_enter_36 rfl uf_X8_122 rfl rfl (congrArg (fun z => some (Value.int z)) hd) ?_
  refine g_iconst (n := 40) (v := 1) hX dX8_enter_39 rfl rfl ?_
  refine g_iadd (n := 41) (v := nI (d + 1)) hX dX8_enter_40 rfl (nI_add (d) (1)) ?_
  refine g_mput (n := 44) 26 hX hU dX8_enter_41 rfl uf_X8_122 rfl rfl rfl rfl rfl ?_
  refine g_aload_n (n := 45) hX dX8_enter_44 rfl rfl rfl ?_
  refine g_mget (n := 48) 14 (v := .ref (A 10)) hX hU dX8_enter_45 rfl uf_X8_41 rfl rfl rfl ?_
  refine g_iload_n (n := 49) hX dX8_enter_48 rfl rfl rfl ?_
  refine g_mzld (n := 50) 10 (v := σ.1 10 c) hX hY dX8_enter_49 rfl rfl rfl (vp_in_nI (show c < mN 10 by show c < 41; omega) (by decide)) (by rw [nI_clamp (by omega)] <;> rfl) ?_
  refine g_if_eq (n := 53) (tgt := 55) hX dX8_enter_50 rfl (by decide) (fun c50 => ?_) (fun c50 => ?_)
  · refine g_aload_n (n := 56) hX dX8_enter_55 rfl rfl rfl ?_
    refine g_mget (n := 59) 9 (v := .ref (A 5)) hX hU dX8_enter_56 rfl uf_X8_25 rfl rfl rfl ?_
    refine g_iload_n (n := 60) hX dX8_enter_59 rfl rfl rfl ?_
    refine g_mzld (n := 61) 5 (v := σ.1 5 p) hX hY dX8_enter_60 rfl rfl rfl (vp_in_nI (show p < mN 5 by show p < 13; omega) (by decide)) (by rw [nI_clamp (by omega)] <;> rfl) ?_
    refine g_if_eq (n := 64) (tgt := 80) hX dX8_enter_61 rfl (by decide) (fun c61 => ?_) (fun c61 => ?_)
    · refine g_iconst (n := 81) (v := 0) hX dX8_enter_80 rfl rfl ?_
      refine g_istore (lv' := [(4, .int 0), (3, .int (nI p)), (2, .int (nI u)), (0, .ref am), (1, .int (nI c))]) (n := 83) hX dX8_enter_81 rfl (by rw [hnL]; rfl) rfl ?_
      refine g_pick (lv' := [(4, .int 0), (3, .int (nI p)), (2, .int (nI u)), (0, .ref am), (1, .int (nI c))]) [0, 1, 2, 3, 4] rfl ?_
      refine lp_enter hX hE hRm hnL hY (sF (sA (sA σ 22 d (nI c)) 23 d 1) 26 (nI (d + 1))) c u p hu1 hu2 hp1 hp2 100 0 rfl ?_
      refine g_aload_n (n := 123) hX dX8_enter_122 rfl rfl rfl ?_
      refine g_mget (n := 126) 14 (v := .ref (A 10)) hX hU dX8_enter_123 rfl uf_X8_41 rfl rfl rfl ?_
      refine g_iload_n (n := 127) hX dX8_enter_126 rfl rfl rfl ?_
      refine g_iconst (n := 128) (v := 1) hX dX8_enter_127 rfl rfl ?_
      refine g_mzst (n := 129) 10 (i0 := c) hX hY dX8_enter_128 rfl rfl rfl (vp_in_nI (show c < mN 10 by show c < 41; omega) (by decide)) (nI_clamp (by omega)) ?_
      refine g_iconst (n := 130) (v := 0) hX dX8_enter_129 rfl rfl ?_
      exact g_iret hX hR dX8_enter_130 (by rw [S_enter, if_pos c50, euc, epc, if_pos c61, pushF, ed]; exact ⟨rfl, rfl⟩)
    · refine g_aload_n (n := 65) hX dX8_enter_64 rfl rfl rfl ?_
      refine g_mget (n := 68) 15 (v := .ref (A 11)) hX hU dX8_enter_65 rfl uf_X8_44 rfl rfl rfl ?_
      refine g_iload_n (n := 69) hX dX8_enter_68 rfl rfl rfl ?_
      refine g_iconst (n := 70) (v := 1) hX dX8_enter_69 rfl rfl ?_
      refine g_mzst (n := 71) 11 (i0 := c) hX hY dX8_enter_70 rfl rfl rfl (vp_in_nI (show c < mN 11 by show c < 41; omega) (by decide)) (nI_clamp (by omega)) ?_
      refine g_aload_n (n := 72) hX dX8_enter_71 rfl rfl rfl ?_
      refine g_mget (n := 75) 16 (v := .ref (A 12)) hX hU dX8_enter_72 rfl uf_X8_47 rfl rfl rfl ?_
      refine g_iload_n (n := 76) hX dX8_enter_75 rfl rfl rfl ?_
      refine g_iconst (n := 77) (v := 1) hX dX8_enter_76 rfl rfl ?_
      refine g_mzst (n := 78) 12 (i0 := u) hX hY dX8_enter_77 rfl rfl rfl (vp_in_nI (show u < mN 12 by show u < 9; omega) (by decide)) (nI_clamp (by omega)) ?_
      refine g_iconst (n := 79) (v := 5) hX dX8_enter_78 rfl rfl ?_
      exact g_iret hX hR dX8_enter_79 (by rw [S_enter, if_pos c50, euc, epc, if_neg c61, pushF, ed]; exact ⟨rfl, rfl⟩)
  · refine g_iconst (n := 54) (v := 0) hX dX8_enter_53 rfl rfl ?_
    exact g_iret hX hR dX8_enter_54 (by rw [S_enter, if_neg c50, pushF, ed]; exact ⟨rfl, rfl⟩)

def madeN (σ : MS) (u p : Nat) : MS := sA (sA (sA (sA (sF σ 3 (nI (nF σ 3 + 1))) 6 (nF σ 3 + 1) (nI u)) 7 (nF σ 3 + 1) (nI p)) 8 (nF σ 3 + 1) (σ.1 1 p)) 14 (13 * u + p) (nI (nF σ 3 + 1))
theorem made_full {σ : MS} {u p : Nat} (h : nA σ 14 (13 * u + p) = 0) (h4 : nF σ 3 = 40) : S_made σ u p = (-1, σ) := by
  rw [S_made, h, if_neg (fun h9 => absurd h9.1 (by decide)), if_pos h4]
theorem made_new {σ : MS} {u p : Nat} (h : nA σ 14 (13 * u + p) = 0) (h4 : ¬ nF σ 3 = 40) : S_made σ u p = (nI (nF σ 3 + 1), madeN σ u p) := by
  rw [S_made, h, if_neg (fun h9 => absurd h9.1 (by decide)), if_neg h4, if_neg (by decide)]; rfl
theorem madeN_u (σ : MS) (u p : Nat) : (madeN σ u p).1 6 (nF σ 3 + 1) = nI u := pk_us
theorem madeN_p (σ : MS) (u p : Nat) : (madeN σ u p).1 7 (nF σ 3 + 1) = nI p := pk_us
set_option maxHeartbeats 4000000 in
set_option maxRecDepth 100000 in
theorem m_called (l : Launch) (D : va_G) (K : Nat → ClassId) (am : Nat) (A : Nat → Nat) (σ : MS) (u d : Nat) (a : Int32) (hg : rg σ) (hu1 : 1 ≤ u) (hu2 : u ≤ 8) (hd : σ.2 26 = nI d) (hd2 : d ≤ 11) (hlat : ∀ p, 1 ≤ p → p ≤ nF σ 1 → 0 < nA σ 14 (13 * u + p) → σ.1 6 (nA σ 14 (13 * u + p)) = nI u ∧ ∃ pq, σ.1 7 (nA σ 14 (13 * u + p)) = nI pq ∧ 1 ≤ pq ∧ pq ≤ 12) : Mc l yX8_called (wM yX8_called cX8_called 4 (some .int)) (rmL 2 0 0) D (yY K) [.ref am, .int (nI u), .int a] (mW K am A σ) (fun v w => v = some (.int (S_called σ u a).1) ∧ w = mW K am A (S_called σ u a).2) 0 0 := by
  refine m_start (lv := [(0, .ref am), (1, .int (nI u)), (2, .int a)]) rfl (Nat.le_of_ble_eq_true rfl) rfl (fun Γ hX hRm hnL hY hDD hLa hR hI hE => ?_)
  have hU : ∀ w ∈ wU, w ∈ wM yX8_called cX8_called 4 (some .int) := fun w h => wM_in h
  subst hLa
  subst hDD
  have ed : nF σ 26 = d := nF_of hd (by omega)
  by_cases h11 : d = 11
  · refine g_aload_n (n := 1) hX dX8_called_0 rfl rfl rfl ?_
    refine g_mget (n := 4) 26 (v := .int (nI d)) hX hU dX8_called_1 rfl uf_X8_122 rfl rfl (congrArg (fun z => some (Value.int z)) hd) ?_
    refine g_bipush (n := 6) (v := 11) hX dX8_called_4 rfl rfl ?_
    refine g_icmp_ne (n := 9) (tgt := 11) hX dX8_called_6 rfl (by decide) (fun c6 => absurd (by rw [h11] <;> rfl) c6) (fun c6 => ?_)
    refine g_iconst (n := 10) (v := 3) hX dX8_called_9 rfl rfl ?_
    exact g_iret hX hR dX8_called_10 (by rw [S_called, ed, if_pos h11]; exact ⟨rfl, rfl⟩)
  · by_cases hP : 1 ≤ a ∧ a ≤ σ.2 1
    · obtain ⟨p, rfl, hp1, hp2, -, hpn⟩ := in1 hg.1 (by decide) hP
      have ecp : (nI p).toNatClampNeg = p := nI_clamp (by omega)
      obtain ⟨old, hold, hold2⟩ := hg.2.2.2.2.2.2.1 (13 * u + p) (by omega)
      have eold : nA σ 14 (13 * u + p) = old := nA_of hold (by omega)
      obtain ⟨nc, hnc, hnc2⟩ := hg.2.2.1
      have enc : nF σ 3 = nc := nF_of hnc (by omega)
      by_cases h0 : old = 0
      · have h0n : nA σ 14 (13 * u + p) = 0 := eold.trans h0
        by_cases h40 : nF σ 3 = 40
        · refine g_aload_n (n := 1) hX dX8_called_0 rfl rfl rfl ?_
          refine g_mget (n := 4) 26 (v := .int (nI d)) hX hU dX8_called_1 rfl uf_X8_122 rfl rfl (congrArg (fun z => some (Value.int z)) hd) ?_
          refine g_bipush (n := 6) (v := 11) hX dX8_called_4 rfl rfl ?_
          refine g_icmp_ne (n := 9) (tgt := 11) hX dX8_called_6 rfl (by decide) (fun c6 => ?_) (fun c6 => absurd c6 (fun h9 => h11 ((nI_eq (by omega) (by decide)).mp (h9 : nI d = nI 11))))
          refine g_aload_n (n := 12) hX dX8_called_11 rfl rfl rfl ?_
          refine g_iload_n (n := 13) hX dX8_called_12 rfl rfl rfl ?_
          refine g_callV0 (n := 16) (As := [.int (nI p)]) (rest := []) hX hE hU hY dX8_called_13 rfl yv_X8_isProgram um_X8_101 (m_isProgram _ _ K am A σ (nI p)) ⟨rfl, rfl⟩ (rm_le hRm rfl rfl) rfl (ci := 10) (q0 := 0) rfl rfl rfl rfl (Nat.le_of_ble_eq_true rfl) ⟨Nat.zero_le _, Nat.zero_le _⟩ (fun v0 w0 hq0 => ?_)
          obtain ⟨rfl, rfl⟩ := hq0
          show G Γ (mW K am A σ) 0 0 16 [(0, .ref am), (1, .int (nI u)), (2, .int (nI p))] [.int (bI (1 ≤ (nI p) ∧ (nI p) ≤ σ.2 1))]
          refine g_if_ne (n := 19) (tgt := 22) hX dX8_called_16 rfl (by decide) (fun c16 => ?_) (fun c16 => absurd c16 (fun h9 => bI_z.mp h9 hP))
          refine g_aload_n (n := 23) hX dX8_called_22 rfl rfl rfl ?_
          refine g_iload_n (n := 24) hX dX8_called_23 rfl rfl rfl ?_
          refine g_iload_n (n := 25) hX dX8_called_24 rfl rfl rfl ?_
          refine g_callV0 (n := 28) (As := [.int (nI u), .int (nI p)]) (rest := []) hX hE hU hY dX8_called_25 rfl yv_X8_latestOf um_X8_109 (m_latestOf _ _ K am A σ u p (by omega) (by omega)) ⟨rfl, rfl⟩ (rm_le hRm rfl rfl) rfl (ci := 10) (q0 := 0) rfl rfl rfl rfl (Nat.le_of_ble_eq_true rfl) ⟨Nat.zero_le _, Nat.zero_le _⟩ (fun v0 w0 hq0 => ?_)
          rw [show σ.1 14 (13 * u + p) = nI old from hold] at hq0; obtain ⟨rfl, rfl⟩ := hq0
          show G Γ (mW K am A σ) 0 0 28 [(0, .ref am), (1, .int (nI u)), (2, .int (nI p))] [.int (nI old)]
          refine g_istore_n (lv' := [(3, .int (nI old)), (0, .ref am), (1, .int (nI u)), (2, .int (nI p))]) (n := 29) hX dX8_called_28 rfl rfl (by rw [hnL]; rfl) rfl ?_
          refine g_iload_n (n := 30) hX dX8_called_29 rfl rfl rfl ?_
          refine g_if_ne (n := 33) (tgt := 40) hX dX8_called_30 rfl (by decide) (fun c30 => absurd (by rw [h0] <;> rfl) c30) (fun c30 => ?_)
          refine g_aload_n (n := 34) hX dX8_called_33 rfl rfl rfl ?_
          refine g_iload_n (n := 35) hX dX8_called_34 rfl rfl rfl ?_
          refine g_iload_n (n := 36) hX dX8_called_35 rfl rfl rfl ?_
          refine g_callV0 (n := 39) (As := [.int (nI u), .int (nI p)]) (rest := []) hX hE hU hY dX8_called_36 rfl yv_X8_made um_X8_119 (m_made _ _ K am A σ u p hg (by omega) (by omega)) ⟨rfl, rfl⟩ (rm_le hRm rfl rfl) rfl (ci := 10) (q0 := 0) rfl rfl rfl rfl (Nat.le_of_ble_eq_true rfl) ⟨Nat.zero_le _, Nat.zero_le _⟩ (fun v0 w0 hq0 => ?_)
          rw [made_full h0n h40] at hq0; obtain ⟨rfl, rfl⟩ := hq0
          show G Γ (mW K am A σ) 0 0 39 [(3, .int (nI old)), (0, .ref am), (1, .int (nI u)), (2, .int (nI p))] [.int (-1)]
          refine g_istore_n (lv' := [(3, .int (-1)), (0, .ref am), (1, .int (nI u)), (2, .int (nI p))]) (n := 40) hX dX8_called_39 rfl rfl (by rw [hnL]; rfl) rfl ?_
          refine g_iload_n (n := 41) hX dX8_called_40 rfl rfl rfl ?_
          refine g_iconst (n := 42) (v := (-1)) hX dX8_called_41 rfl rfl ?_
          refine g_icmp_ne (n := 45) (tgt := 50) hX dX8_called_42 rfl (by decide) (fun c42 => absurd rfl c42) (fun c42 => ?_)
          refine g_bipush (n := 47) (v := 6) hX dX8_called_45 rfl rfl ?_
          refine g_goto (n := 55) hX dX8_called_47 (by decide) ?_
          exact g_iret hX hR dX8_called_55 (by rw [S_called, ed, if_neg h11, if_pos hP, ecp, if_pos h0n, made_full h0n h40, if_pos rfl]; exact ⟨rfl, rfl⟩)
        · have hne : ¬ nI (nF σ 3 + 1) = -1 := fun h9 => nI_pos (n := nF σ 3 + 1) (by omega) (by rw [h9]; decide)
          have ecn : (nI (nF σ 3 + 1)).toNatClampNeg = nF σ 3 + 1 := nI_clamp (by omega)
          refine g_aload_n (n := 1) hX dX8_called_0 rfl rfl rfl ?_
          refine g_mget (n := 4) 26 (v := .int (nI d)) hX hU dX8_called_1 rfl uf_X8_122 rfl rfl (congrArg (fun z => some (Value.int z)) hd) ?_
          refine g_bipush (n := 6) (v := 11) hX dX8_called_4 rfl rfl ?_
          refine g_icmp_ne (n := 9) (tgt := 11) hX dX8_called_6 rfl (by decide) (fun c6 => ?_) (fun c6 => absurd c6 (fun h9 => h11 ((nI_eq (by omega) (by decide)).mp (h9 : nI d = nI 11))))
          refine g_aload_n (n := 12) hX dX8_called_11 rfl rfl rfl ?_
          refine g_iload_n (n := 13) hX dX8_called_12 rfl rfl rfl ?_
          refine g_callV0 (n := 16) (As := [.int (nI p)]) (rest := []) hX hE hU hY dX8_called_13 rfl yv_X8_isProgram um_X8_101 (m_isProgram _ _ K am A σ (nI p)) ⟨rfl, rfl⟩ (rm_le hRm rfl rfl) rfl (ci := 10) (q0 := 0) rfl rfl rfl rfl (Nat.le_of_ble_eq_true rfl) ⟨Nat.zero_le _, Nat.zero_le _⟩ (fun v0 w0 hq0 => ?_)
          obtain ⟨rfl, rfl⟩ := hq0
          show G Γ (mW K am A σ) 0 0 16 [(0, .ref am), (1, .int (nI u)), (2, .int (nI p))] [.int (bI (1 ≤ (nI p) ∧ (nI p) ≤ σ.2 1))]
          refine g_if_ne (n := 19) (tgt := 22) hX dX8_called_16 rfl (by decide) (fun c16 => ?_) (fun c16 => absurd c16 (fun h9 => bI_z.mp h9 hP))
          refine g_aload_n (n := 23) hX dX8_called_22 rfl rfl rfl ?_
          refine g_iload_n (n := 24) hX dX8_called_23 rfl rfl rfl ?_
          refine g_iload_n (n := 25) hX dX8_called_24 rfl rfl rfl ?_
          refine g_callV0 (n := 28) (As := [.int (nI u), .int (nI p)]) (rest := []) hX hE hU hY dX8_called_25 rfl yv_X8_latestOf um_X8_109 (m_latestOf _ _ K am A σ u p (by omega) (by omega)) ⟨rfl, rfl⟩ (rm_le hRm rfl rfl) rfl (ci := 10) (q0 := 0) rfl rfl rfl rfl (Nat.le_of_ble_eq_true rfl) ⟨Nat.zero_le _, Nat.zero_le _⟩ (fun v0 w0 hq0 => ?_)
          rw [show σ.1 14 (13 * u + p) = nI old from hold] at hq0; obtain ⟨rfl, rfl⟩ := hq0
          show G Γ (mW K am A σ) 0 0 28 [(0, .ref am), (1, .int (nI u)), (2, .int (nI p))] [.int (nI old)]
          refine g_istore_n (lv' := [(3, .int (nI old)), (0, .ref am), (1, .int (nI u)), (2, .int (nI p))]) (n := 29) hX dX8_called_28 rfl rfl (by rw [hnL]; rfl) rfl ?_
          refine g_iload_n (n := 30) hX dX8_called_29 rfl rfl rfl ?_
          refine g_if_ne (n := 33) (tgt := 40) hX dX8_called_30 rfl (by decide) (fun c30 => absurd (by rw [h0] <;> rfl) c30) (fun c30 => ?_)
          refine g_aload_n (n := 34) hX dX8_called_33 rfl rfl rfl ?_
          refine g_iload_n (n := 35) hX dX8_called_34 rfl rfl rfl ?_
          refine g_iload_n (n := 36) hX dX8_called_35 rfl rfl rfl ?_
          refine g_callV0 (n := 39) (As := [.int (nI u), .int (nI p)]) (rest := []) hX hE hU hY dX8_called_36 rfl yv_X8_made um_X8_119 (m_made _ _ K am A σ u p hg (by omega) (by omega)) ⟨rfl, rfl⟩ (rm_le hRm rfl rfl) rfl (ci := 10) (q0 := 0) rfl rfl rfl rfl (Nat.le_of_ble_eq_true rfl) ⟨Nat.zero_le _, Nat.zero_le _⟩ (fun v0 w0 hq0 => ?_)
          rw [made_new h0n h40] at hq0; obtain ⟨rfl, rfl⟩ := hq0
          show G Γ (mW K am A (madeN σ u p)) 0 0 39 [(3, .int (nI old)), (0, .ref am), (1, .int (nI u)), (2, .int (nI p))] [.int (nI (nF σ 3 + 1))]
          refine g_istore_n (lv' := [(3, .int (nI (nF σ 3 + 1))), (0, .ref am), (1, .int (nI u)), (2, .int (nI p))]) (n := 40) hX dX8_called_39 rfl rfl (by rw [hnL]; rfl) rfl ?_
          refine g_iload_n (n := 41) hX dX8_called_40 rfl rfl rfl ?_
          refine g_iconst (n := 42) (v := (-1)) hX dX8_called_41 rfl rfl ?_
          refine g_icmp_ne (n := 45) (tgt := 50) hX dX8_called_42 rfl (by decide) (fun c42 => ?_) (fun c42 => absurd c42 hne)
          refine g_aload_n (n := 51) hX dX8_called_50 rfl rfl rfl ?_
          refine g_iload_n (n := 52) hX dX8_called_51 rfl rfl rfl ?_
          refine g_callV0 (n := 55) (As := [.int (nI (nF σ 3 + 1))]) (rest := []) hX hE hU hY dX8_called_52 rfl yv_X8_enter um_X8_125 (m_enter _ _ K am A (madeN σ u p) (nF σ 3 + 1) u p d (by omega) (madeN_u σ u p) hu1 hu2 (madeN_p σ u p) hp1 hp2 hd hd2) ⟨rfl, rfl⟩ (rm_le hRm rfl rfl) rfl (ci := 10) (q0 := 0) rfl rfl rfl rfl (Nat.le_of_ble_eq_true rfl) ⟨Nat.zero_le _, Nat.zero_le _⟩ (fun v0 w0 hq0 => ?_)
          obtain ⟨rfl, rfl⟩ := hq0
          show G Γ (mW K am A ((S_enter (madeN σ u p) (nF σ 3 + 1)).2)) 0 0 55 [(3, .int (nI (nF σ 3 + 1))), (0, .ref am), (1, .int (nI u)), (2, .int (nI p))] [.int ((S_enter (madeN σ u p) (nF σ 3 + 1)).1)]
          exact g_iret hX hR dX8_called_55 (by rw [S_called, ed, if_neg h11, if_pos hP, ecp, if_pos h0n, made_new h0n h40, if_neg hne, ecn]; exact ⟨rfl, rfl⟩)
      · obtain ⟨hou, pq, hop, hq1, hq2⟩ := hlat p hp1 hpn (by rw [eold]; omega)
        rw [eold] at hou hop
        refine g_aload_n (n := 1) hX dX8_called_0 rfl rfl rfl ?_
        refine g_mget (n := 4) 26 (v := .int (nI d)) hX hU dX8_called_1 rfl uf_X8_122 rfl rfl (congrArg (fun z => some (Value.int z)) hd) ?_
        refine g_bipush (n := 6) (v := 11) hX dX8_called_4 rfl rfl ?_
        refine g_icmp_ne (n := 9) (tgt := 11) hX dX8_called_6 rfl (by decide) (fun c6 => ?_) (fun c6 => absurd c6 (fun h9 => h11 ((nI_eq (by omega) (by decide)).mp (h9 : nI d = nI 11))))
        refine g_aload_n (n := 12) hX dX8_called_11 rfl rfl rfl ?_
        refine g_iload_n (n := 13) hX dX8_called_12 rfl rfl rfl ?_
        refine g_callV0 (n := 16) (As := [.int (nI p)]) (rest := []) hX hE hU hY dX8_called_13 rfl yv_X8_isProgram um_X8_101 (m_isProgram _ _ K am A σ (nI p)) ⟨rfl, rfl⟩ (rm_le hRm rfl rfl) rfl (ci := 10) (q0 := 0) rfl rfl rfl rfl (Nat.le_of_ble_eq_true rfl) ⟨Nat.zero_le _, Nat.zero_le _⟩ (fun v0 w0 hq0 => ?_)
        obtain ⟨rfl, rfl⟩ := hq0
        show G Γ (mW K am A σ) 0 0 16 [(0, .ref am), (1, .int (nI u)), (2, .int (nI p))] [.int (bI (1 ≤ (nI p) ∧ (nI p) ≤ σ.2 1))]
        refine g_if_ne (n := 19) (tgt := 22) hX dX8_called_16 rfl (by decide) (fun c16 => ?_) (fun c16 => absurd c16 (fun h9 => bI_z.mp h9 hP))
        refine g_aload_n (n := 23) hX dX8_called_22 rfl rfl rfl ?_
        refine g_iload_n (n := 24) hX dX8_called_23 rfl rfl rfl ?_
        refine g_iload_n (n := 25) hX dX8_called_24 rfl rfl rfl ?_
        refine g_callV0 (n := 28) (As := [.int (nI u), .int (nI p)]) (rest := []) hX hE hU hY dX8_called_25 rfl yv_X8_latestOf um_X8_109 (m_latestOf _ _ K am A σ u p (by omega) (by omega)) ⟨rfl, rfl⟩ (rm_le hRm rfl rfl) rfl (ci := 10) (q0 := 0) rfl rfl rfl rfl (Nat.le_of_ble_eq_true rfl) ⟨Nat.zero_le _, Nat.zero_le _⟩ (fun v0 w0 hq0 => ?_)
        rw [show σ.1 14 (13 * u + p) = nI old from hold] at hq0; obtain ⟨rfl, rfl⟩ := hq0
        show G Γ (mW K am A σ) 0 0 28 [(0, .ref am), (1, .int (nI u)), (2, .int (nI p))] [.int (nI old)]
        refine g_istore_n (lv' := [(3, .int (nI old)), (0, .ref am), (1, .int (nI u)), (2, .int (nI p))]) (n := 29) hX dX8_called_28 rfl rfl (by rw [hnL]; rfl) rfl ?_
        refine g_iload_n (n := 30) hX dX8_called_29 rfl rfl rfl ?_
        refine g_if_ne (n := 33) (tgt := 40) hX dX8_called_30 rfl (by decide) (fun c30 => ?_) (fun c30 => absurd c30 (nI_ne0 (by omega) (by omega)))
        refine g_iload_n (n := 41) hX dX8_called_40 rfl rfl rfl ?_
        refine g_iconst (n := 42) (v := (-1)) hX dX8_called_41 rfl rfl ?_
        refine g_icmp_ne (n := 45) (tgt := 50) hX dX8_called_42 rfl (by decide) (fun c42 => ?_) (fun c42 => absurd c42 (fun h9 => nI_pos (n := old) (by omega) (by rw [h9]; decide)))
        refine g_aload_n (n := 51) hX dX8_called_50 rfl rfl rfl ?_
        refine g_iload_n (n := 52) hX dX8_called_51 rfl rfl rfl ?_
        refine g_callV0 (n := 55) (As := [.int (nI old)]) (rest := []) hX hE hU hY dX8_called_52 rfl yv_X8_enter um_X8_125 (m_enter _ _ K am A σ old u pq d (by omega) hou hu1 hu2 hop hq1 hq2 hd hd2) ⟨rfl, rfl⟩ (rm_le hRm rfl rfl) rfl (ci := 10) (q0 := 0) rfl rfl rfl rfl (Nat.le_of_ble_eq_true rfl) ⟨Nat.zero_le _, Nat.zero_le _⟩ (fun v0 w0 hq0 => ?_)
        obtain ⟨rfl, rfl⟩ := hq0
        show G Γ (mW K am A ((S_enter σ old).2)) 0 0 55 [(3, .int (nI old)), (0, .ref am), (1, .int (nI u)), (2, .int (nI p))] [.int ((S_enter σ old).1)]
        exact g_iret hX hR dX8_called_55 (by rw [S_called, ed, if_neg h11, if_pos hP, ecp, eold, if_neg h0]; exact ⟨rfl, rfl⟩)
    · refine g_aload_n (n := 1) hX dX8_called_0 rfl rfl rfl ?_
      refine g_mget (n := 4) 26 (v := .int (nI d)) hX hU dX8_called_1 rfl uf_X8_122 rfl rfl (congrArg (fun z => some (Value.int z)) hd) ?_
      refine g_bipush (n := 6) (v := 11) hX dX8_called_4 rfl rfl ?_
      refine g_icmp_ne (n := 9) (tgt := 11) hX dX8_called_6 rfl (by decide) (fun c6 => ?_) (fun c6 => absurd c6 (fun h9 => h11 ((nI_eq (by omega) (by decide)).mp (h9 : nI d = nI 11))))
      refine g_aload_n (n := 12) hX dX8_called_11 rfl rfl rfl ?_
      refine g_iload_n (n := 13) hX dX8_called_12 rfl rfl rfl ?_
      refine g_callV0 (n := 16) (As := [.int a]) (rest := []) hX hE hU hY dX8_called_13 rfl yv_X8_isProgram um_X8_101 (m_isProgram _ _ K am A σ a) ⟨rfl, rfl⟩ (rm_le hRm rfl rfl) rfl (ci := 10) (q0 := 0) rfl rfl rfl rfl (Nat.le_of_ble_eq_true rfl) ⟨Nat.zero_le _, Nat.zero_le _⟩ (fun v0 w0 hq0 => ?_)
      obtain ⟨rfl, rfl⟩ := hq0
      show G Γ (mW K am A σ) 0 0 16 [(0, .ref am), (1, .int (nI u)), (2, .int a)] [.int (bI (1 ≤ a ∧ a ≤ σ.2 1))]
      refine g_if_ne (n := 19) (tgt := 22) hX dX8_called_16 rfl (by decide) (fun c16 => absurd (bI_z.mpr hP) c16) (fun c16 => ?_)
      refine g_bipush (n := 21) (v := 6) hX dX8_called_19 rfl rfl ?_
      exact g_iret hX hR dX8_called_21 (by rw [S_called, ed, if_neg h11, if_neg hP]; exact ⟨rfl, rfl⟩)

