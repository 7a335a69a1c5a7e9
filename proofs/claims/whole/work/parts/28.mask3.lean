set_option maxHeartbeats 4000000 in
set_option maxRecDepth 100000 in
theorem m_at (l : Launch) (D : va_G) (K : Nat → ClassId) (am : Nat) (A : Nat → Nat) (σ : MS) (uu pp i : Int32) (hg : rg σ) (hwk : wkB σ) : Mc l yX8_at (wM yX8_at cX8_at 5 (some .byte)) (rmL 1 0 0) D (yY K) [.ref am, .int uu, .int pp, .int i] (mW K am A σ) (fun v w => v = some (.int (S_at σ uu pp i).1) ∧ w = mW K am A (S_at σ uu pp i).2) 0 0 := by
  refine m_start (lv := [(0, .ref am), (1, .int uu), (2, .int pp), (3, .int i)]) rfl (Nat.le_of_ble_eq_true rfl) rfl (fun Γ hX hRm hnL hY hDD hLa hR hI hE => ?_)
  have hU : ∀ w ∈ wU, w ∈ wM yX8_at cX8_at 5 (some .byte) := fun w h => wM_in h
  subst hLa
  subst hDD
  by_cases hU1 : 1 ≤ uu ∧ uu ≤ σ.2 2
  · by_cases hP : 1 ≤ pp ∧ pp ≤ σ.2 1
    · obtain ⟨u, rfl, hu1, hu2, -, -⟩ := in1 hg.2.1 (by decide) hU1
      obtain ⟨p, rfl, hp1, hp2, -, -⟩ := in1 hg.1 (by decide) hP
      have ecu : (nI u).toNatClampNeg = u := nI_clamp (by omega)
      have ecp : (nI p).toNatClampNeg = p := nI_clamp (by omega)
      obtain ⟨old, hold, hold2⟩ := hg.2.2.2.2.2.2.1 (13 * u + p) (by omega)
      have eold : nA σ 14 (13 * u + p) = old := nA_of hold (by omega)
      obtain ⟨z, hz, hz2⟩ := hg.2.2.2.1 p (by omega)
      by_cases h0 : old = 0
      · refine g_aload_n (n := 1) hX dX8_at_0 rfl rfl rfl ?_
        refine g_iload_n (n := 2) hX dX8_at_1 rfl rfl rfl ?_
        refine g_callV0 (n := 5) (As := [.int (nI u)]) (rest := []) hX hE hU hY dX8_at_2 rfl yv_X8_isUnit um_X8_116 (m_isUnit _ _ K am A σ (nI u)) ⟨rfl, rfl⟩ (rm_le hRm rfl rfl) rfl (ci := 10) (q0 := 0) rfl rfl rfl rfl (Nat.le_of_ble_eq_true rfl) ⟨Nat.zero_le _, Nat.zero_le _⟩ (fun v0 w0 hq0 => ?_)
        obtain ⟨rfl, rfl⟩ := hq0
        show G Γ (mW K am A σ) 0 0 5 [(0, .ref am), (1, .int (nI u)), (2, .int (nI p)), (3, .int i)] [.int (bI (1 ≤ (nI u) ∧ (nI u) ≤ σ.2 2))]
        refine g_if_eq (n := 8) (tgt := 57) hX dX8_at_5 rfl (by decide) (fun c5 => absurd c5 (fun h9 => bI_z.mp h9 hU1)) (fun c5 => ?_)
        refine g_aload_n (n := 9) hX dX8_at_8 rfl rfl rfl ?_
        refine g_iload_n (n := 10) hX dX8_at_9 rfl rfl rfl ?_
        refine g_callV0 (n := 13) (As := [.int (nI p)]) (rest := []) hX hE hU hY dX8_at_10 rfl yv_X8_isProgram um_X8_101 (m_isProgram _ _ K am A σ (nI p)) ⟨rfl, rfl⟩ (rm_le hRm rfl rfl) rfl (ci := 10) (q0 := 0) rfl rfl rfl rfl (Nat.le_of_ble_eq_true rfl) ⟨Nat.zero_le _, Nat.zero_le _⟩ (fun v0 w0 hq0 => ?_)
        obtain ⟨rfl, rfl⟩ := hq0
        show G Γ (mW K am A σ) 0 0 13 [(0, .ref am), (1, .int (nI u)), (2, .int (nI p)), (3, .int i)] [.int (bI (1 ≤ (nI p) ∧ (nI p) ≤ σ.2 1))]
        refine g_if_eq (n := 16) (tgt := 57) hX dX8_at_13 rfl (by decide) (fun c13 => absurd c13 (fun h9 => bI_z.mp h9 hP)) (fun c13 => ?_)
        refine g_aload_n (n := 17) hX dX8_at_16 rfl rfl rfl ?_
        refine g_iload_n (n := 18) hX dX8_at_17 rfl rfl rfl ?_
        refine g_iload_n (n := 19) hX dX8_at_18 rfl rfl rfl ?_
        refine g_callV0 (n := 22) (As := [.int (nI u), .int (nI p)]) (rest := []) hX hE hU hY dX8_at_19 rfl yv_X8_latestOf um_X8_109 (m_latestOf _ _ K am A σ u p (by omega) (by omega)) ⟨rfl, rfl⟩ (rm_le hRm rfl rfl) rfl (ci := 10) (q0 := 0) rfl rfl rfl rfl (Nat.le_of_ble_eq_true rfl) ⟨Nat.zero_le _, Nat.zero_le _⟩ (fun v0 w0 hq0 => ?_)
        rw [show σ.1 14 (13 * u + p) = nI old from hold] at hq0; obtain ⟨rfl, rfl⟩ := hq0
        show G Γ (mW K am A σ) 0 0 22 [(0, .ref am), (1, .int (nI u)), (2, .int (nI p)), (3, .int i)] [.int (nI old)]
        refine g_if_le (n := 25) (tgt := 57) hX dX8_at_22 rfl (by decide) (fun c22 => ?_) (fun c22 => absurd (by rw [h0]; decide) c22)
        refine g_iconst (n := 58) (v := 0) hX dX8_at_57 rfl rfl ?_
        refine g_istore (lv' := [(4, .int 0), (0, .ref am), (1, .int (nI u)), (2, .int (nI p)), (3, .int i)]) (n := 60) hX dX8_at_58 rfl (by rw [hnL]; rfl) rfl ?_
        refine g_aload_n (n := 61) hX dX8_at_60 rfl rfl rfl ?_
        refine g_iload (n := 63) hX dX8_at_61 rfl rfl ?_
        refine g_if_eq (n := 66) (tgt := 70) hX dX8_at_63 rfl (by decide) (fun c63 => ?_) (fun c63 => absurd rfl c63)
        refine g_iconst (n := 71) (v := 1) hX dX8_at_70 rfl rfl ?_
        refine g_mput (n := 74) 0 hX hU dX8_at_71 rfl uf_X8_87 rfl rfl rfl rfl rfl ?_
        refine g_iload (n := 76) hX dX8_at_74 rfl rfl ?_
        refine g_if_eq (n := 79) (tgt := 106) hX dX8_at_76 rfl (by decide) (fun c76 => ?_) (fun c76 => absurd rfl c76)
        refine g_iconst (n := 107) (v := 0) hX dX8_at_106 rfl rfl ?_
        exact g_zret hX hR dX8_at_107 rfl (by rw [S_at, if_pos hU1, if_pos hP, ecu, ecp, eold, if_pos h0]; exact ⟨rfl, rfl⟩)
      · refine g_aload_n (n := 1) hX dX8_at_0 rfl rfl rfl ?_
        refine g_iload_n (n := 2) hX dX8_at_1 rfl rfl rfl ?_
        refine g_callV0 (n := 5) (As := [.int (nI u)]) (rest := []) hX hE hU hY dX8_at_2 rfl yv_X8_isUnit um_X8_116 (m_isUnit _ _ K am A σ (nI u)) ⟨rfl, rfl⟩ (rm_le hRm rfl rfl) rfl (ci := 10) (q0 := 0) rfl rfl rfl rfl (Nat.le_of_ble_eq_true rfl) ⟨Nat.zero_le _, Nat.zero_le _⟩ (fun v0 w0 hq0 => ?_)
        obtain ⟨rfl, rfl⟩ := hq0
        show G Γ (mW K am A σ) 0 0 5 [(0, .ref am), (1, .int (nI u)), (2, .int (nI p)), (3, .int i)] [.int (bI (1 ≤ (nI u) ∧ (nI u) ≤ σ.2 2))]
        refine g_if_eq (n := 8) (tgt := 57) hX dX8_at_5 rfl (by decide) (fun c5 => absurd c5 (fun h9 => bI_z.mp h9 hU1)) (fun c5 => ?_)
        refine g_aload_n (n := 9) hX dX8_at_8 rfl rfl rfl ?_
        refine g_iload_n (n := 10) hX dX8_at_9 rfl rfl rfl ?_
        refine g_callV0 (n := 13) (As := [.int (nI p)]) (rest := []) hX hE hU hY dX8_at_10 rfl yv_X8_isProgram um_X8_101 (m_isProgram _ _ K am A σ (nI p)) ⟨rfl, rfl⟩ (rm_le hRm rfl rfl) rfl (ci := 10) (q0 := 0) rfl rfl rfl rfl (Nat.le_of_ble_eq_true rfl) ⟨Nat.zero_le _, Nat.zero_le _⟩ (fun v0 w0 hq0 => ?_)
        obtain ⟨rfl, rfl⟩ := hq0
        show G Γ (mW K am A σ) 0 0 13 [(0, .ref am), (1, .int (nI u)), (2, .int (nI p)), (3, .int i)] [.int (bI (1 ≤ (nI p) ∧ (nI p) ≤ σ.2 1))]
        refine g_if_eq (n := 16) (tgt := 57) hX dX8_at_13 rfl (by decide) (fun c13 => absurd c13 (fun h9 => bI_z.mp h9 hP)) (fun c13 => ?_)
        refine g_aload_n (n := 17) hX dX8_at_16 rfl rfl rfl ?_
        refine g_iload_n (n := 18) hX dX8_at_17 rfl rfl rfl ?_
        refine g_iload_n (n := 19) hX dX8_at_18 rfl rfl rfl ?_
        refine g_callV0 (n := 22) (As := [.int (nI u), .int (nI p)]) (rest := []) hX hE hU hY dX8_at_19 rfl yv_X8_latestOf um_X8_109 (m_latestOf _ _ K am A σ u p (by omega) (by omega)) ⟨rfl, rfl⟩ (rm_le hRm rfl rfl) rfl (ci := 10) (q0 := 0) rfl rfl rfl rfl (Nat.le_of_ble_eq_true rfl) ⟨Nat.zero_le _, Nat.zero_le _⟩ (fun v0 w0 hq0 => ?_)
        rw [show σ.1 14 (13 * u + p) = nI old from hold] at hq0; obtain ⟨rfl, rfl⟩ := hq0
        show G Γ (mW K am A σ) 0 0 22 [(0, .ref am), (1, .int (nI u)), (2, .int (nI p)), (3, .int i)] [.int (nI old)]
        refine g_if_le (n := 25) (tgt := 57) hX dX8_at_22 rfl (by decide) (fun c22 => absurd c22 (nI_nle (by omega) (by omega))) (fun c22 => ?_)
        refine g_aload_n (n := 26) hX dX8_at_25 rfl rfl rfl ?_
        refine g_mget (n := 29) 14 (v := .ref (A 10)) hX hU dX8_at_26 rfl uf_X8_41 rfl rfl rfl ?_
        refine g_aload_n (n := 30) hX dX8_at_29 rfl rfl rfl ?_
        refine g_iload_n (n := 31) hX dX8_at_30 rfl rfl rfl ?_
        refine g_iload_n (n := 32) hX dX8_at_31 rfl rfl rfl ?_
        refine g_callV0 (n := 35) (As := [.int (nI u), .int (nI p)]) (rest := [.ref (A 10)]) hX hE hU hY dX8_at_32 rfl yv_X8_latestOf um_X8_109 (m_latestOf _ _ K am A σ u p (by omega) (by omega)) ⟨rfl, rfl⟩ (rm_le hRm rfl rfl) rfl (ci := 10) (q0 := 0) rfl rfl rfl rfl (Nat.le_of_ble_eq_true rfl) ⟨Nat.zero_le _, Nat.zero_le _⟩ (fun v0 w0 hq0 => ?_)
        rw [show σ.1 14 (13 * u + p) = nI old from hold] at hq0; obtain ⟨rfl, rfl⟩ := hq0
        show G Γ (mW K am A σ) 0 0 35 [(0, .ref am), (1, .int (nI u)), (2, .int (nI p)), (3, .int i)] [.int (nI old), .ref (A 10)]
        refine g_mzld (n := 36) 10 (v := σ.1 10 old) hX hY dX8_at_35 rfl rfl rfl (vp_in_nI (show old < mN 10 by show old < 41; omega) (by decide)) (by rw [nI_clamp (by omega)] <;> rfl) ?_
        refine g_if_eq (n := 39) (tgt := 57) hX dX8_at_36 rfl (by decide) (fun c36 => ?_) (fun c36 => ?_)
        · refine g_iconst (n := 58) (v := 0) hX dX8_at_57 rfl rfl ?_
          refine g_istore (lv' := [(4, .int 0), (0, .ref am), (1, .int (nI u)), (2, .int (nI p)), (3, .int i)]) (n := 60) hX dX8_at_58 rfl (by rw [hnL]; rfl) rfl ?_
          refine g_aload_n (n := 61) hX dX8_at_60 rfl rfl rfl ?_
          refine g_iload (n := 63) hX dX8_at_61 rfl rfl ?_
          refine g_if_eq (n := 66) (tgt := 70) hX dX8_at_63 rfl (by decide) (fun c63 => ?_) (fun c63 => absurd rfl c63)
          refine g_iconst (n := 71) (v := 1) hX dX8_at_70 rfl rfl ?_
          refine g_mput (n := 74) 0 hX hU dX8_at_71 rfl uf_X8_87 rfl rfl rfl rfl rfl ?_
          refine g_iload (n := 76) hX dX8_at_74 rfl rfl ?_
          refine g_if_eq (n := 79) (tgt := 106) hX dX8_at_76 rfl (by decide) (fun c76 => ?_) (fun c76 => absurd rfl c76)
          refine g_iconst (n := 107) (v := 0) hX dX8_at_106 rfl rfl ?_
          exact g_zret hX hR dX8_at_107 rfl (by rw [S_at, if_pos hU1, if_pos hP, ecu, ecp, eold, if_neg h0, if_pos c36]; exact ⟨rfl, rfl⟩)
        · refine g_iload_n (n := 40) hX dX8_at_39 rfl rfl rfl ?_
          refine g_if_lt (n := 43) (tgt := 57) hX dX8_at_40 rfl (by decide) (fun c40 => ?_) (fun c40 => ?_)
          · refine g_iconst (n := 58) (v := 0) hX dX8_at_57 rfl rfl ?_
            refine g_istore (lv' := [(4, .int 0), (0, .ref am), (1, .int (nI u)), (2, .int (nI p)), (3, .int i)]) (n := 60) hX dX8_at_58 rfl (by rw [hnL]; rfl) rfl ?_
            refine g_aload_n (n := 61) hX dX8_at_60 rfl rfl rfl ?_
            refine g_iload (n := 63) hX dX8_at_61 rfl rfl ?_
            refine g_if_eq (n := 66) (tgt := 70) hX dX8_at_63 rfl (by decide) (fun c63 => ?_) (fun c63 => absurd rfl c63)
            refine g_iconst (n := 71) (v := 1) hX dX8_at_70 rfl rfl ?_
            refine g_mput (n := 74) 0 hX hU dX8_at_71 rfl uf_X8_87 rfl rfl rfl rfl rfl ?_
            refine g_iload (n := 76) hX dX8_at_74 rfl rfl ?_
            refine g_if_eq (n := 79) (tgt := 106) hX dX8_at_76 rfl (by decide) (fun c76 => ?_) (fun c76 => absurd rfl c76)
            refine g_iconst (n := 107) (v := 0) hX dX8_at_106 rfl rfl ?_
            exact g_zret hX hR dX8_at_107 rfl (by rw [S_at, if_pos hU1, if_pos hP, ecu, ecp, eold, if_neg h0, if_neg c36, if_pos c40]; exact ⟨rfl, rfl⟩)
          · refine g_iload_n (n := 44) hX dX8_at_43 rfl rfl rfl ?_
            refine g_aload_n (n := 45) hX dX8_at_44 rfl rfl rfl ?_
            refine g_mget (n := 48) 4 (v := .ref (A 0)) hX hU dX8_at_45 rfl uf_X8_7 rfl rfl rfl ?_
            refine g_iload_n (n := 49) hX dX8_at_48 rfl rfl rfl ?_
            refine g_mild (n := 50) 0 (v := σ.1 0 p) hX hY dX8_at_49 rfl rfl rfl (vp_in_nI (show p < mN 0 by show p < 13; omega) (by decide)) (by rw [nI_clamp (by omega)] <;> rfl) ?_
            refine g_icmp_ge (n := 53) (tgt := 57) hX dX8_at_50 rfl (by decide) (fun c50 => ?_) (fun c50 => ?_)
            · refine g_iconst (n := 58) (v := 0) hX dX8_at_57 rfl rfl ?_
              refine g_istore (lv' := [(4, .int 0), (0, .ref am), (1, .int (nI u)), (2, .int (nI p)), (3, .int i)]) (n := 60) hX dX8_at_58 rfl (by rw [hnL]; rfl) rfl ?_
              refine g_aload_n (n := 61) hX dX8_at_60 rfl rfl rfl ?_
              refine g_iload (n := 63) hX dX8_at_61 rfl rfl ?_
              refine g_if_eq (n := 66) (tgt := 70) hX dX8_at_63 rfl (by decide) (fun c63 => ?_) (fun c63 => absurd rfl c63)
              refine g_iconst (n := 71) (v := 1) hX dX8_at_70 rfl rfl ?_
              refine g_mput (n := 74) 0 hX hU dX8_at_71 rfl uf_X8_87 rfl rfl rfl rfl rfl ?_
              refine g_iload (n := 76) hX dX8_at_74 rfl rfl ?_
              refine g_if_eq (n := 79) (tgt := 106) hX dX8_at_76 rfl (by decide) (fun c76 => ?_) (fun c76 => absurd rfl c76)
              refine g_iconst (n := 107) (v := 0) hX dX8_at_106 rfl rfl ?_
              exact g_zret hX hR dX8_at_107 rfl (by rw [S_at, if_pos hU1, if_pos hP, ecu, ecp, eold, if_neg h0, if_neg c36, if_neg c40, if_pos c50]; exact ⟨rfl, rfl⟩)
            · obtain ⟨j, hj, rfl⟩ := nI_of c40
              have hjm : j < z := by rcases Nat.lt_or_ge j z with h9 | h9; exact h9; exact absurd (by rw [hz]; exact nI_le h9 (by omega)) c50
              have ej : (nI j).toNatClampNeg = j := nI_clamp hj
              refine g_iconst (n := 54) (v := 1) hX dX8_at_53 rfl rfl ?_
              refine g_goto (n := 58) hX dX8_at_54 (by decide) ?_
              refine g_istore (lv' := [(4, .int 1), (0, .ref am), (1, .int (nI u)), (2, .int (nI p)), (3, .int (nI j))]) (n := 60) hX dX8_at_58 rfl (by rw [hnL]; rfl) rfl ?_
              refine g_aload_n (n := 61) hX dX8_at_60 rfl rfl rfl ?_
              refine g_iload (n := 63) hX dX8_at_61 rfl rfl ?_
              refine g_if_eq (n := 66) (tgt := 70) hX dX8_at_63 rfl (by decide) (fun c63 => absurd c63 (by decide)) (fun c63 => ?_)
              refine g_iconst (n := 67) (v := 0) hX dX8_at_66 rfl rfl ?_
              refine g_goto (n := 71) hX dX8_at_67 (by decide) ?_
              refine g_mput (n := 74) 0 hX hU dX8_at_71 rfl uf_X8_87 rfl rfl rfl rfl rfl ?_
              refine g_iload (n := 76) hX dX8_at_74 rfl rfl ?_
              refine g_if_eq (n := 79) (tgt := 106) hX dX8_at_76 rfl (by decide) (fun c76 => absurd c76 (by decide)) (fun c76 => ?_)
              refine g_aload_n (n := 80) hX dX8_at_79 rfl rfl rfl ?_
              refine g_mget (n := 83) 24 (v := .ref (A 20)) hX hU dX8_at_80 rfl uf_X8_71 rfl rfl rfl ?_
              refine g_sipush (n := 86) (v := 1200) hX dX8_at_83 rfl rfl ?_
              refine g_iload_n (n := 87) hX dX8_at_86 rfl rfl rfl ?_
              refine g_imul (n := 88) (v := nI (1200 * u)) hX dX8_at_87 rfl (pk_mul (1200) (u)) ?_
              refine g_sipush (n := 91) (v := 1200) hX dX8_at_88 rfl rfl ?_
              refine g_isub (n := 92) (v := nI (1200 * u - 1200)) hX dX8_at_91 rfl (by rw [show (1200 : Int32) = nI 1200 from rfl, pk_sub (by omega)]) ?_
              refine g_bipush (n := 94) (v := 100) hX dX8_at_92 rfl rfl ?_
              refine g_iload_n (n := 95) hX dX8_at_94 rfl rfl rfl ?_
              refine g_imul (n := 96) (v := nI (100 * p)) hX dX8_at_95 rfl (pk_mul (100) (p)) ?_
              refine g_iadd (n := 97) (v := nI (1200 * u - 1200 + 100 * p)) hX dX8_at_96 rfl (nI_add (1200 * u - 1200) (100 * p)) ?_
              refine g_bipush (n := 99) (v := 100) hX dX8_at_97 rfl rfl ?_
              refine g_isub (n := 100) (v := nI (1200 * u - 1200 + 100 * p - 100)) hX dX8_at_99 rfl (by rw [show (100 : Int32) = nI 100 from rfl, pk_sub (by omega)]) ?_
              refine g_iload_n (n := 101) hX dX8_at_100 rfl rfl rfl ?_
              refine g_iadd (n := 102) (v := nI (1200 * u - 1200 + 100 * p - 100 + j)) hX dX8_at_101 rfl (nI_add (1200 * u - 1200 + 100 * p - 100) (j)) ?_
              refine g_mbld (n := 103) 20 (v := σ.1 20 (1200 * u - 1200 + 100 * p - 100 + j)) hX hY dX8_at_102 rfl rfl rfl (vp_in_nI (show 1200 * u - 1200 + 100 * p - 100 + j < mN 20 by show 1200 * u - 1200 + 100 * p - 100 + j < 12000; omega) (by decide)) (by rw [nI_clamp (by omega)] <;> rfl) ?_
              refine g_goto (n := 107) hX dX8_at_103 (by decide) ?_
              exact g_zret hX hR dX8_at_107 (by rw [← hwk _ (by omega)]; exact pk_nb _) (by rw [S_at, if_pos hU1, if_pos hP, ecu, ecp, eold, if_neg h0, if_neg c36, if_neg c40, if_neg c50, ej]; exact ⟨rfl, rfl⟩)
    · refine g_aload_n (n := 1) hX dX8_at_0 rfl rfl rfl ?_
      refine g_iload_n (n := 2) hX dX8_at_1 rfl rfl rfl ?_
      refine g_callV0 (n := 5) (As := [.int uu]) (rest := []) hX hE hU hY dX8_at_2 rfl yv_X8_isUnit um_X8_116 (m_isUnit _ _ K am A σ uu) ⟨rfl, rfl⟩ (rm_le hRm rfl rfl) rfl (ci := 10) (q0 := 0) rfl rfl rfl rfl (Nat.le_of_ble_eq_true rfl) ⟨Nat.zero_le _, Nat.zero_le _⟩ (fun v0 w0 hq0 => ?_)
      obtain ⟨rfl, rfl⟩ := hq0
      show G Γ (mW K am A σ) 0 0 5 [(0, .ref am), (1, .int uu), (2, .int pp), (3, .int i)] [.int (bI (1 ≤ uu ∧ uu ≤ σ.2 2))]
      refine g_if_eq (n := 8) (tgt := 57) hX dX8_at_5 rfl (by decide) (fun c5 => absurd c5 (fun h9 => bI_z.mp h9 hU1)) (fun c5 => ?_)
      refine g_aload_n (n := 9) hX dX8_at_8 rfl rfl rfl ?_
      refine g_iload_n (n := 10) hX dX8_at_9 rfl rfl rfl ?_
      refine g_callV0 (n := 13) (As := [.int pp]) (rest := []) hX hE hU hY dX8_at_10 rfl yv_X8_isProgram um_X8_101 (m_isProgram _ _ K am A σ pp) ⟨rfl, rfl⟩ (rm_le hRm rfl rfl) rfl (ci := 10) (q0 := 0) rfl rfl rfl rfl (Nat.le_of_ble_eq_true rfl) ⟨Nat.zero_le _, Nat.zero_le _⟩ (fun v0 w0 hq0 => ?_)
      obtain ⟨rfl, rfl⟩ := hq0
      show G Γ (mW K am A σ) 0 0 13 [(0, .ref am), (1, .int uu), (2, .int pp), (3, .int i)] [.int (bI (1 ≤ pp ∧ pp ≤ σ.2 1))]
      refine g_if_eq (n := 16) (tgt := 57) hX dX8_at_13 rfl (by decide) (fun c13 => ?_) (fun c13 => absurd (bI_z.mpr hP) c13)
      refine g_iconst (n := 58) (v := 0) hX dX8_at_57 rfl rfl ?_
      refine g_istore (lv' := [(4, .int 0), (0, .ref am), (1, .int uu), (2, .int pp), (3, .int i)]) (n := 60) hX dX8_at_58 rfl (by rw [hnL]; rfl) rfl ?_
      refine g_aload_n (n := 61) hX dX8_at_60 rfl rfl rfl ?_
      refine g_iload (n := 63) hX dX8_at_61 rfl rfl ?_
      refine g_if_eq (n := 66) (tgt := 70) hX dX8_at_63 rfl (by decide) (fun c63 => ?_) (fun c63 => absurd rfl c63)
      refine g_iconst (n := 71) (v := 1) hX dX8_at_70 rfl rfl ?_
      refine g_mput (n := 74) 0 hX hU dX8_at_71 rfl uf_X8_87 rfl rfl rfl rfl rfl ?_
      refine g_iload (n := 76) hX dX8_at_74 rfl rfl ?_
      refine g_if_eq (n := 79) (tgt := 106) hX dX8_at_76 rfl (by decide) (fun c76 => ?_) (fun c76 => absurd rfl c76)
      refine g_iconst (n := 107) (v := 0) hX dX8_at_106 rfl rfl ?_
      exact g_zret hX hR dX8_at_107 rfl (by rw [S_at, if_pos hU1, if_neg hP]; exact ⟨rfl, rfl⟩)
  · refine g_aload_n (n := 1) hX dX8_at_0 rfl rfl rfl ?_
    refine g_iload_n (n := 2) hX dX8_at_1 rfl rfl rfl ?_
    refine g_callV0 (n := 5) (As := [.int uu]) (rest := []) hX hE hU hY dX8_at_2 rfl yv_X8_isUnit um_X8_116 (m_isUnit _ _ K am A σ uu) ⟨rfl, rfl⟩ (rm_le hRm rfl rfl) rfl (ci := 10) (q0 := 0) rfl rfl rfl rfl (Nat.le_of_ble_eq_true rfl) ⟨Nat.zero_le _, Nat.zero_le _⟩ (fun v0 w0 hq0 => ?_)
    obtain ⟨rfl, rfl⟩ := hq0
    show G Γ (mW K am A σ) 0 0 5 [(0, .ref am), (1, .int uu), (2, .int pp), (3, .int i)] [.int (bI (1 ≤ uu ∧ uu ≤ σ.2 2))]
    refine g_if_eq (n := 8) (tgt := 57) hX dX8_at_5 rfl (by decide) (fun c5 => ?_) (fun c5 => absurd (bI_z.mpr hU1) c5)
    refine g_iconst (n := 58) (v := 0) hX dX8_at_57 rfl rfl ?_
    refine g_istore (lv' := [(4, .int 0), (0, .ref am), (1, .int uu), (2, .int pp), (3, .int i)]) (n := 60) hX dX8_at_58 rfl (by rw [hnL]; rfl) rfl ?_
    refine g_aload_n (n := 61) hX dX8_at_60 rfl rfl rfl ?_
    refine g_iload (n := 63) hX dX8_at_61 rfl rfl ?_
    refine g_if_eq (n := 66) (tgt := 70) hX dX8_at_63 rfl (by decide) (fun c63 => ?_) (fun c63 => absurd rfl c63)
    refine g_iconst (n := 71) (v := 1) hX dX8_at_70 rfl rfl ?_
    refine g_mput (n := 74) 0 hX hU dX8_at_71 rfl uf_X8_87 rfl rfl rfl rfl rfl ?_
    refine g_iload (n := 76) hX dX8_at_74 rfl rfl ?_
    refine g_if_eq (n := 79) (tgt := 106) hX dX8_at_76 rfl (by decide) (fun c76 => ?_) (fun c76 => absurd rfl c76)
    refine g_iconst (n := 107) (v := 0) hX dX8_at_106 rfl rfl ?_
    exact g_zret hX hR dX8_at_107 rfl (by rw [S_at, if_neg hU1]; exact ⟨rfl, rfl⟩)

set_option maxHeartbeats 4000000 in
set_option maxRecDepth 100000 in
theorem m_octet (l : Launch) (D : va_G) (K : Nat → ClassId) (am : Nat) (A : Nat → Nat) (σ : MS) (cc0 i : Int32) (hg : rg σ) (hop : opsOk σ) : Mc l yX8_octet (wM yX8_octet cX8_octet 3 (some .byte)) (rmL 8 0 0) D (yY K) [.ref am, .int cc0, .int i] (mW K am A σ) (fun v w => v = some (.int (S_octet σ cc0 i).1) ∧ w = mW K am A (S_octet σ cc0 i).2) 0 0 := by
  refine m_start (lv := [(0, .ref am), (1, .int cc0), (2, .int i)]) rfl (Nat.le_of_ble_eq_true rfl) rfl (fun Γ hX hRm hnL hY hDD hLa hR hI hE => ?_)
  have hU : ∀ w ∈ wU, w ∈ wM yX8_octet cX8_octet 3 (some .byte) := fun w h => wM_in h
  subst hLa
  subst hDD
  by_cases hC : 1 ≤ cc0 ∧ cc0 ≤ σ.2 3
  · obtain ⟨c, rfl, hc1, hc2, -, -⟩ := in1 hg.2.2.1 (by decide) hC
    have ecc : (nI c).toNatClampNeg = c := nI_clamp (by omega)
    obtain ⟨p, hcp, hp2⟩ := (hg.2.2.2.2.2.1 c hc2).2.1
    obtain ⟨n0, hcn, hn2⟩ := (hg.2.2.2.2.2.1 c hc2).2.2
    have ecp : nA σ 7 c = p := nA_of hcp (by omega)
    have ecn : nA σ 8 c = n0 := nA_of hcn (by omega)
    obtain ⟨bs, ebs⟩ : ∃ z, z = fB σ c := ⟨_, rfl⟩
    have ebs2 : bFile p (σ.1 5 p) (σ.1 0 p) (prO σ p) n0 = bs := by rw [ebs, fB, ecp, ecn]
    have hbl : bs.length ≤ 2300 := by rw [← ebs2]; exact bFile_len _ _ _ _ _ hn2
    have hops : ∀ r, 1 ≤ r → r ≤ n0 → opOk (prO σ p r).1 := fun r a b => by have := hop c hc2 r a (by rw [ecn]; exact b); rw [ecp] at this; exact this
    have hlen : (ap (sF (sF σ 0 1) 29 0) bs).2 29 = nI bs.length := by have := ap_len (σ := sF (sF σ 0 1) 29 0) (n := 0) rfl bs; rw [Nat.zero_add] at this; exact this
    refine g_aload_n (n := 1) hX dX8_octet_0 rfl rfl rfl ?_
    refine g_iconst (n := 2) (v := 1) hX dX8_octet_1 rfl rfl ?_
    refine g_mput (n := 5) 0 hX hU dX8_octet_2 rfl uf_X8_87 rfl rfl rfl rfl rfl ?_
    refine g_iload_n (n := 6) hX dX8_octet_5 rfl rfl rfl ?_
    refine g_iconst (n := 7) (v := 1) hX dX8_octet_6 rfl rfl ?_
    refine g_icmp_lt (n := 10) (tgt := 18) hX dX8_octet_7 rfl (by decide) (fun c7 => absurd c7 (Int32.not_lt.mpr hC.1)) (fun c7 => ?_)
    refine g_iload_n (n := 11) hX dX8_octet_10 rfl rfl rfl ?_
    refine g_aload_n (n := 12) hX dX8_octet_11 rfl rfl rfl ?_
    refine g_mget (n := 15) 3 (v := .int (σ.2 3)) hX hU dX8_octet_12 rfl uf_X8_113 rfl rfl rfl ?_
    refine g_icmp_le (n := 18) (tgt := 20) hX dX8_octet_15 rfl (by decide) (fun c15 => ?_) (fun c15 => absurd hC.2 c15)
    refine g_aload_n (n := 21) hX dX8_octet_20 rfl rfl rfl ?_
    refine g_iload_n (n := 22) hX dX8_octet_21 rfl rfl rfl ?_
    refine g_callV0 (n := 25) (As := [.int (nI c)]) (rest := []) hX hE hU hY dX8_octet_22 rfl yv_X8_build um_X8_240 (m_build _ _ K am A (sF σ 0 1) (prO σ p) c p n0 (by omega) hcp hcn rfl hp2 hn2 hops) ⟨rfl, rfl⟩ (rm_le hRm rfl rfl) rfl (ci := 10) (q0 := 0) rfl rfl rfl rfl (Nat.le_of_ble_eq_true rfl) ⟨Nat.zero_le _, Nat.zero_le _⟩ (fun v0 w0 hq0 => ?_)
    have hq1 : v0 = none ∧ w0 = mW K am A (ap (sF (sF σ 0 1) 29 0) bs) := by rw [← ebs2]; exact hq0
    obtain ⟨rfl, rfl⟩ := hq1
    show G Γ (mW K am A (ap (sF (sF σ 0 1) 29 0) bs)) 0 0 25 [(0, .ref am), (1, .int (nI c)), (2, .int i)] []
    refine g_aload_n (n := 26) hX dX8_octet_25 rfl rfl rfl ?_
    refine g_iload_n (n := 27) hX dX8_octet_26 rfl rfl rfl ?_
    refine g_if_lt (n := 30) (tgt := 42) hX dX8_octet_27 rfl (by decide) (fun c27 => ?_) (fun c27 => ?_)
    · refine g_iconst (n := 43) (v := 1) hX dX8_octet_42 rfl rfl ?_
      refine g_mput (n := 46) 0 hX hU dX8_octet_43 rfl uf_X8_87 rfl rfl rfl rfl rfl ?_
      refine g_aload_n (n := 47) hX dX8_octet_46 rfl rfl rfl ?_
      refine g_mget (n := 50) 0 (v := .int 1) hX hU dX8_octet_47 rfl uf_X8_87 rfl rfl rfl ?_
      refine g_if_ne (n := 53) (tgt := 63) hX dX8_octet_50 rfl (by decide) (fun c50 => ?_) (fun c50 => absurd c50 (by decide))
      refine g_iconst (n := 64) (v := 0) hX dX8_octet_63 rfl rfl ?_
      exact g_zret hX hR dX8_octet_64 rfl (by rw [S_octet, if_pos hC, ecc, ← ebs, if_pos c27]; exact ⟨rfl, rfl⟩)
    · refine g_iload_n (n := 31) hX dX8_octet_30 rfl rfl rfl ?_
      refine g_aload_n (n := 32) hX dX8_octet_31 rfl rfl rfl ?_
      refine g_mget (n := 35) 29 (v := .int (nI bs.length)) hX hU dX8_octet_32 rfl uf_X8_135 rfl rfl (congrArg (fun z => some (Value.int z)) hlen) ?_
      refine g_icmp_ge (n := 38) (tgt := 42) hX dX8_octet_35 rfl (by decide) (fun c35 => ?_) (fun c35 => ?_)
      · refine g_iconst (n := 43) (v := 1) hX dX8_octet_42 rfl rfl ?_
        refine g_mput (n := 46) 0 hX hU dX8_octet_43 rfl uf_X8_87 rfl rfl rfl rfl rfl ?_
        refine g_aload_n (n := 47) hX dX8_octet_46 rfl rfl rfl ?_
        refine g_mget (n := 50) 0 (v := .int 1) hX hU dX8_octet_47 rfl uf_X8_87 rfl rfl rfl ?_
        refine g_if_ne (n := 53) (tgt := 63) hX dX8_octet_50 rfl (by decide) (fun c50 => ?_) (fun c50 => absurd c50 (by decide))
        refine g_iconst (n := 64) (v := 0) hX dX8_octet_63 rfl rfl ?_
        exact g_zret hX hR dX8_octet_64 rfl (by rw [S_octet, if_pos hC, ecc, ← ebs, if_neg c27, if_pos c35]; exact ⟨rfl, rfl⟩)
      · obtain ⟨j, hj, rfl⟩ := nI_of c27
        have hjm : j < bs.length := by rcases Nat.lt_or_ge j bs.length with h9 | h9; exact h9; exact absurd (nI_le h9 (by omega)) c35
        have ej : (nI j).toNatClampNeg = j := nI_clamp hj
        refine g_iconst (n := 39) (v := 0) hX dX8_octet_38 rfl rfl ?_
        refine g_goto (n := 43) hX dX8_octet_39 (by decide) ?_
        refine g_mput (n := 46) 0 hX hU dX8_octet_43 rfl uf_X8_87 rfl rfl rfl rfl rfl ?_
        refine g_aload_n (n := 47) hX dX8_octet_46 rfl rfl rfl ?_
        refine g_mget (n := 50) 0 (v := .int 0) hX hU dX8_octet_47 rfl uf_X8_87 rfl rfl rfl ?_
        refine g_if_ne (n := 53) (tgt := 63) hX dX8_octet_50 rfl (by decide) (fun c50 => absurd rfl c50) (fun c50 => ?_)
        refine g_aload_n (n := 54) hX dX8_octet_53 rfl rfl rfl ?_
        refine g_mget (n := 57) 30 (v := .ref (A 24)) hX hU dX8_octet_54 rfl uf_X8_84 rfl rfl rfl ?_
        refine g_iload_n (n := 58) hX dX8_octet_57 rfl rfl rfl ?_
        refine g_mild (n := 59) 24 (v := bs.getD j 0 &&& 255) hX hY dX8_octet_58 rfl rfl rfl (vp_in_nI (show j < mN 24 by show j < 3000; omega) (by decide)) (by rw [nI_clamp (by omega)]; have h7 := ap_new (σ := sF (sF σ 0 1) 29 0) (n := 0) rfl bs (by omega) hjm; rw [Nat.zero_add] at h7; exact h7) ?_
        refine g_i2b (n := 60) (v := (bs.getD j 0 &&& 255).toInt8.toInt32) hX dX8_octet_59 rfl rfl ?_
        refine g_goto (n := 64) hX dX8_octet_60 (by decide) ?_
        exact g_zret hX hR dX8_octet_64 (pk_nb _) (by rw [S_octet, if_pos hC, ecc, ← ebs, if_neg c27, if_neg c35, ej]; exact ⟨rfl, rfl⟩)
  · refine g_aload_n (n := 1) hX dX8_octet_0 rfl rfl rfl ?_
    refine g_iconst (n := 2) (v := 1) hX dX8_octet_1 rfl rfl ?_
    refine g_mput (n := 5) 0 hX hU dX8_octet_2 rfl uf_X8_87 rfl rfl rfl rfl rfl ?_
    refine g_iload_n (n := 6) hX dX8_octet_5 rfl rfl rfl ?_
    refine g_iconst (n := 7) (v := 1) hX dX8_octet_6 rfl rfl ?_
    refine g_icmp_lt (n := 10) (tgt := 18) hX dX8_octet_7 rfl (by decide) (fun c7 => ?_) (fun c7 => ?_)
    · refine g_iconst (n := 19) (v := 0) hX dX8_octet_18 rfl rfl ?_
      exact g_zret hX hR dX8_octet_19 rfl (by rw [S_octet, if_neg hC]; exact ⟨rfl, rfl⟩)
    · refine g_iload_n (n := 11) hX dX8_octet_10 rfl rfl rfl ?_
      refine g_aload_n (n := 12) hX dX8_octet_11 rfl rfl rfl ?_
      refine g_mget (n := 15) 3 (v := .int (σ.2 3)) hX hU dX8_octet_12 rfl uf_X8_113 rfl rfl rfl ?_
      refine g_icmp_le (n := 18) (tgt := 20) hX dX8_octet_15 rfl (by decide) (fun c15 => absurd c15 (fun h9 => hC ⟨Int32.not_lt.mp c7, h9⟩)) (fun c15 => ?_)
      refine g_iconst (n := 19) (v := 0) hX dX8_octet_18 rfl rfl ?_
      exact g_zret hX hR dX8_octet_19 rfl (by rw [S_octet, if_neg hC]; exact ⟨rfl, rfl⟩)

set_option maxHeartbeats 4000000 in
set_option maxRecDepth 100000 in
theorem m_count (l : Launch) (D : va_G) (K : Nat → ClassId) (am : Nat) (A : Nat → Nat) (σ : MS) (x : Int32) (hg : rg σ) (hop : opsOk σ) : Mc l yX8_count (wM yX8_count cX8_count 2 (some .int)) (rmL 8 0 0) D (yY K) [.ref am, .int x] (mW K am A σ) (fun v w => v = some (.int (S_count σ x).1) ∧ w = mW K am A (S_count σ x).2) 0 0 := by
  refine m_start (lv := [(0, .ref am), (1, .int x)]) rfl (Nat.le_of_ble_eq_true rfl) rfl (fun Γ hX hRm hnL hY hDD hLa hR hI hE => ?_)
  have hU : ∀ w ∈ wU, w ∈ wM yX8_count cX8_count 2 (some .int) := fun w h => wM_in h
  subst hLa
  subst hDD
  obtain ⟨c, hnc, hc2⟩ := hg.2.2.1
  have enc : nF σ 3 = c := nF_of hnc (by omega)
  obtain ⟨p, hcp, hp2⟩ := (hg.2.2.2.2.2.1 c hc2).2.1
  obtain ⟨n0, hcn, hn2⟩ := (hg.2.2.2.2.2.1 c hc2).2.2
  have ecp : nA σ 7 c = p := nA_of hcp (by omega)
  have ecn : nA σ 8 c = n0 := nA_of hcn (by omega)
  obtain ⟨bs, ebs⟩ : ∃ z, z = fB σ c := ⟨_, rfl⟩
  have ebs2 : bFile p (σ.1 5 p) (σ.1 0 p) (prO σ p) n0 = bs := by rw [ebs, fB, ecp, ecn]
  have hbl : bs.length ≤ 2300 := by rw [← ebs2]; exact bFile_len _ _ _ _ _ hn2
  have hops : ∀ r, 1 ≤ r → r ≤ n0 → opOk (prO σ p r).1 := fun r a b => by have := hop c hc2 r a (by rw [ecn]; exact b); rw [ecp] at this; exact this
  have hlen : (ap (sF (sF σ 0 0) 29 0) bs).2 29 = nI bs.length := by have := ap_len (σ := sF (sF σ 0 0) 29 0) (n := 0) rfl bs; rw [Nat.zero_add] at this; exact this
  by_cases h0 : c = 0
  · refine g_aload_n (n := 1) hX dX8_count_0 rfl rfl rfl ?_
    refine g_iconst (n := 2) (v := 0) hX dX8_count_1 rfl rfl ?_
    refine g_mput (n := 5) 0 hX hU dX8_count_2 rfl uf_X8_87 rfl rfl rfl rfl rfl ?_
    refine g_iload_n (n := 6) hX dX8_count_5 rfl rfl rfl ?_
    rcases sw_split x (0) (3) with hsw | hsw
    · refine g_tableOut (n := 73) hX dX8_count_6 hsw (by decide) ?_
      have hno : ∀ q : Int32, (0 ≤ q.toInt ∧ q.toInt ≤ 3) → ¬ x = q := fun q hq h9 => by rw [h9] at hsw; omega
      refine g_iconst (n := 74) (v := (-1)) hX dX8_count_73 rfl rfl ?_
      exact g_iret hX hR dX8_count_74 (by rw [S_count, if_neg (hno 0 (by decide)), if_neg (hno 1 (by decide)), if_neg (hno 2 (by decide)), if_neg (hno 3 (by decide))]; exact ⟨rfl, rfl⟩)
    · obtain ⟨kz, hk1, hk2⟩ := hsw
      rcases (show kz = (0 : Int) ∨ kz = (1 : Int) ∨ kz = (2 : Int) ∨ kz = (3 : Int) by omega) with hkz | hkz | hkz | hkz
      · have hxe : x = (0 : Int32) := sw_val (hkz ▸ hk1) (by decide)
        refine g_tableIn (n := 36) (off := 30) hX dX8_count_6 (by rw [hxe]; decide) (by rw [hxe]; decide) (by rw [hxe]; rfl) (by decide) ?_
        refine g_aload_n (n := 37) hX dX8_count_36 rfl rfl rfl ?_
        refine g_mget (n := 40) 1 (v := .int (σ.2 1)) hX hU dX8_count_37 rfl uf_X8_91 rfl rfl rfl ?_
        exact g_iret hX hR dX8_count_40 (by rw [S_count, if_pos hxe]; exact ⟨rfl, rfl⟩)
      · have hxe : x = (1 : Int32) := sw_val (hkz ▸ hk1) (by decide)
        refine g_tableIn (n := 41) (off := 35) hX dX8_count_6 (by rw [hxe]; decide) (by rw [hxe]; decide) (by rw [hxe]; rfl) (by decide) ?_
        refine g_aload_n (n := 42) hX dX8_count_41 rfl rfl rfl ?_
        refine g_mget (n := 45) 2 (v := .int (σ.2 2)) hX hU dX8_count_42 rfl uf_X8_94 rfl rfl rfl ?_
        exact g_iret hX hR dX8_count_45 (by rw [S_count, if_neg (by rw [hxe]; decide), if_pos hxe]; exact ⟨rfl, rfl⟩)
      · have hxe : x = (2 : Int32) := sw_val (hkz ▸ hk1) (by decide)
        refine g_tableIn (n := 46) (off := 40) hX dX8_count_6 (by rw [hxe]; decide) (by rw [hxe]; decide) (by rw [hxe]; rfl) (by decide) ?_
        refine g_aload_n (n := 47) hX dX8_count_46 rfl rfl rfl ?_
        refine g_mget (n := 50) 3 (v := .int (σ.2 3)) hX hU dX8_count_47 rfl uf_X8_113 rfl rfl rfl ?_
        exact g_iret hX hR dX8_count_50 (by rw [S_count, if_neg (by rw [hxe]; decide), if_neg (by rw [hxe]; decide), if_pos hxe]; exact ⟨rfl, rfl⟩)
      · have hxe : x = (3 : Int32) := sw_val (hkz ▸ hk1) (by decide)
        refine g_tableIn (n := 51) (off := 45) hX dX8_count_6 (by rw [hxe]; decide) (by rw [hxe]; decide) (by rw [hxe]; rfl) (by decide) ?_
        refine g_aload_n (n := 52) hX dX8_count_51 rfl rfl rfl ?_
        refine g_mget (n := 55) 3 (v := .int (nI c)) hX hU dX8_count_52 rfl uf_X8_113 rfl rfl (congrArg (fun z => some (Value.int z)) hnc) ?_
        refine g_if_ne (n := 58) (tgt := 60) hX dX8_count_55 rfl (by decide) (fun c55 => absurd (by rw [h0] <;> rfl) c55) (fun c55 => ?_)
        refine g_iconst (n := 59) (v := 0) hX dX8_count_58 rfl rfl ?_
        exact g_iret hX hR dX8_count_59 (by rw [S_count, if_neg (by rw [hxe]; decide), if_neg (by rw [hxe]; decide), if_neg (by rw [hxe]; decide), if_pos hxe, enc, if_pos h0]; exact ⟨rfl, rfl⟩)
  · refine g_aload_n (n := 1) hX dX8_count_0 rfl rfl rfl ?_
    refine g_iconst (n := 2) (v := 0) hX dX8_count_1 rfl rfl ?_
    refine g_mput (n := 5) 0 hX hU dX8_count_2 rfl uf_X8_87 rfl rfl rfl rfl rfl ?_
    refine g_iload_n (n := 6) hX dX8_count_5 rfl rfl rfl ?_
    rcases sw_split x (0) (3) with hsw | hsw
    · refine g_tableOut (n := 73) hX dX8_count_6 hsw (by decide) ?_
      have hno : ∀ q : Int32, (0 ≤ q.toInt ∧ q.toInt ≤ 3) → ¬ x = q := fun q hq h9 => by rw [h9] at hsw; omega
      refine g_iconst (n := 74) (v := (-1)) hX dX8_count_73 rfl rfl ?_
      exact g_iret hX hR dX8_count_74 (by rw [S_count, if_neg (hno 0 (by decide)), if_neg (hno 1 (by decide)), if_neg (hno 2 (by decide)), if_neg (hno 3 (by decide))]; exact ⟨rfl, rfl⟩)
    · obtain ⟨kz, hk1, hk2⟩ := hsw
      rcases (show kz = (0 : Int) ∨ kz = (1 : Int) ∨ kz = (2 : Int) ∨ kz = (3 : Int) by omega) with hkz | hkz | hkz | hkz
      · have hxe : x = (0 : Int32) := sw_val (hkz ▸ hk1) (by decide)
        refine g_tableIn (n := 36) (off := 30) hX dX8_count_6 (by rw [hxe]; decide) (by rw [hxe]; decide) (by rw [hxe]; rfl) (by decide) ?_
        refine g_aload_n (n := 37) hX dX8_count_36 rfl rfl rfl ?_
        refine g_mget (n := 40) 1 (v := .int (σ.2 1)) hX hU dX8_count_37 rfl uf_X8_91 rfl rfl rfl ?_
        exact g_iret hX hR dX8_count_40 (by rw [S_count, if_pos hxe]; exact ⟨rfl, rfl⟩)
      · have hxe : x = (1 : Int32) := sw_val (hkz ▸ hk1) (by decide)
        refine g_tableIn (n := 41) (off := 35) hX dX8_count_6 (by rw [hxe]; decide) (by rw [hxe]; decide) (by rw [hxe]; rfl) (by decide) ?_
        refine g_aload_n (n := 42) hX dX8_count_41 rfl rfl rfl ?_
        refine g_mget (n := 45) 2 (v := .int (σ.2 2)) hX hU dX8_count_42 rfl uf_X8_94 rfl rfl rfl ?_
        exact g_iret hX hR dX8_count_45 (by rw [S_count, if_neg (by rw [hxe]; decide), if_pos hxe]; exact ⟨rfl, rfl⟩)
      · have hxe : x = (2 : Int32) := sw_val (hkz ▸ hk1) (by decide)
        refine g_tableIn (n := 46) (off := 40) hX dX8_count_6 (by rw [hxe]; decide) (by rw [hxe]; decide) (by rw [hxe]; rfl) (by decide) ?_
        refine g_aload_n (n := 47) hX dX8_count_46 rfl rfl rfl ?_
        refine g_mget (n := 50) 3 (v := .int (σ.2 3)) hX hU dX8_count_47 rfl uf_X8_113 rfl rfl rfl ?_
        exact g_iret hX hR dX8_count_50 (by rw [S_count, if_neg (by rw [hxe]; decide), if_neg (by rw [hxe]; decide), if_pos hxe]; exact ⟨rfl, rfl⟩)
      · have hxe : x = (3 : Int32) := sw_val (hkz ▸ hk1) (by decide)
        refine g_tableIn (n := 51) (off := 45) hX dX8_count_6 (by rw [hxe]; decide) (by rw [hxe]; decide) (by rw [hxe]; rfl) (by decide) ?_
        refine g_aload_n (n := 52) hX dX8_count_51 rfl rfl rfl ?_
        refine g_mget (n := 55) 3 (v := .int (nI c)) hX hU dX8_count_52 rfl uf_X8_113 rfl rfl (congrArg (fun z => some (Value.int z)) hnc) ?_
        refine g_if_ne (n := 58) (tgt := 60) hX dX8_count_55 rfl (by decide) (fun c55 => ?_) (fun c55 => absurd c55 (nI_ne0 (by omega) (by omega)))
        refine g_aload_n (n := 61) hX dX8_count_60 rfl rfl rfl ?_
        refine g_aload_n (n := 62) hX dX8_count_61 rfl rfl rfl ?_
        refine g_mget (n := 65) 3 (v := .int (nI c)) hX hU dX8_count_62 rfl uf_X8_113 rfl rfl (congrArg (fun z => some (Value.int z)) hnc) ?_
        refine g_callV0 (n := 68) (As := [.int (nI c)]) (rest := []) hX hE hU hY dX8_count_65 rfl yv_X8_build um_X8_240 (m_build _ _ K am A (sF σ 0 0) (prO σ p) c p n0 (by omega) hcp hcn rfl hp2 hn2 hops) ⟨rfl, rfl⟩ (rm_le hRm rfl rfl) rfl (ci := 10) (q0 := 0) rfl rfl rfl rfl (Nat.le_of_ble_eq_true rfl) ⟨Nat.zero_le _, Nat.zero_le _⟩ (fun v0 w0 hq0 => ?_)
        have hq1 : v0 = none ∧ w0 = mW K am A (ap (sF (sF σ 0 0) 29 0) bs) := by rw [← ebs2]; exact hq0
        obtain ⟨rfl, rfl⟩ := hq1
        show G Γ (mW K am A (ap (sF (sF σ 0 0) 29 0) bs)) 0 0 68 [(0, .ref am), (1, .int x)] []
        refine g_aload_n (n := 69) hX dX8_count_68 rfl rfl rfl ?_
        refine g_mget (n := 72) 29 (v := .int (nI bs.length)) hX hU dX8_count_69 rfl uf_X8_135 rfl rfl (congrArg (fun z => some (Value.int z)) hlen) ?_
        exact g_iret hX hR dX8_count_72 (by rw [S_count, if_neg (by rw [hxe]; decide), if_neg (by rw [hxe]; decide), if_neg (by rw [hxe]; decide), if_pos hxe, enc, if_neg h0, ← ebs]; exact ⟨rfl, rfl⟩)

