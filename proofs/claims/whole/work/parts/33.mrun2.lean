set_option maxHeartbeats 4000000 in
set_option maxRecDepth 100000 in
theorem m_run (l : Launch) (D : va_G) (K : Nat → ClassId) (am : Nat) (A : Nat → Nat) (σ : MS) (uu pp : Int32) (n : Nat) (hg : rg σ) (H : ∀ u p : Nat, uu = nI u → pp = nI p → 1 ≤ u → u ≤ 8 → 1 ≤ p → p ≤ 12 → σ.1 12 u = 0 → 0 < nA σ 14 (13 * u + p) → σ.1 6 (nA σ 14 (13 * u + p)) = nI u ∧ (∃ pq, σ.1 7 (nA σ 14 (13 * u + p)) = nI pq ∧ 1 ≤ pq ∧ pq ≤ 12) ∧ RA u (S_enter (runBeg σ u) (nA σ 14 (13 * u + p))) ∧ doneD 0 (itD u 0 n (S_enter (runBeg σ u) (nA σ 14 (13 * u + p)))) ∧ ((itD u 0 n (S_enter (runBeg σ u) (nA σ 14 (13 * u + p)))).1 = 5 → ∃ d c : Nat, (itD u 0 n (S_enter (runBeg σ u) (nA σ 14 (13 * u + p)))).2.2 26 = nI (d + 1) ∧ d ≤ 11 ∧ (itD u 0 n (S_enter (runBeg σ u) (nA σ 14 (13 * u + p)))).2.1 22 d = nI c ∧ c ≤ 40)) : Mc l yX8_run (wM yX8_run cX8_run 7 (some .int)) (rmL 4 0 0) D (yY K) [.ref am, .int uu, .int pp] (mW K am A σ) (fun v w => v = some (.int (S_run n σ uu pp).1) ∧ w = mW K am A (S_run n σ uu pp).2) 0 0 := by
  refine m_start (lv := [(0, .ref am), (1, .int uu), (2, .int pp)]) rfl (Nat.le_of_ble_eq_true rfl) rfl (fun Γ hX hRm hnL hY hDD hLa hR hI hE => ?_)
  have hU : ∀ w ∈ wU, w ∈ wM yX8_run cX8_run 7 (some .int) := fun w h => wM_in h
  subst hLa
  subst hDD
  by_cases hU1 : 1 ≤ uu ∧ uu ≤ σ.2 2
  · by_cases hP : 1 ≤ pp ∧ pp ≤ σ.2 1
    · obtain ⟨u, rfl, hu1, hu2, -, -⟩ := in1 hg.2.1 (by decide) hU1
      obtain ⟨p, rfl, hp1, hp2, -, -⟩ := in1 hg.1 (by decide) hP
      have ecu : (nI u).toNatClampNeg = u := nI_clamp (by omega)
      have ecp : (nI p).toNatClampNeg = p := nI_clamp (by omega)
      obtain ⟨old, hold, hold2⟩ := hg.2.2.2.2.2.2.1 (13 * u + p) (by omega)
      have eold : nA σ 14 (13 * u + p) = old := nA_of hold (by omega)
      by_cases h12 : σ.1 12 u = 0
      · by_cases h0 : old = 0
        · refine g_aload_n (n := 1) hX dX8_run_0 rfl rfl rfl ?_
          refine g_iconst (n := 2) (v := 0) hX dX8_run_1 rfl rfl ?_
          refine g_mput (n := 5) 0 hX hU dX8_run_2 rfl uf_X8_87 rfl rfl rfl rfl rfl ?_
          refine g_aload_n (n := 6) hX dX8_run_5 rfl rfl rfl ?_
          refine g_iload_n (n := 7) hX dX8_run_6 rfl rfl rfl ?_
          refine g_callV0 (n := 10) (As := [.int (nI u)]) (rest := []) hX hE hU hY dX8_run_7 rfl yv_X8_isUnit um_X8_116 (m_isUnit _ _ K am A (sF σ 0 0) (nI u)) ⟨rfl, rfl⟩ (rm_le hRm rfl rfl) rfl (ci := 10) (q0 := 0) rfl rfl rfl rfl (Nat.le_of_ble_eq_true rfl) ⟨Nat.zero_le _, Nat.zero_le _⟩ (fun v0 w0 hq0 => ?_)
          obtain ⟨rfl, rfl⟩ := hq0
          show G Γ (mW K am A (sF σ 0 0)) 0 0 10 [(0, .ref am), (1, .int (nI u)), (2, .int (nI p))] [.int (bI (1 ≤ (nI u) ∧ (nI u) ≤ σ.2 2))]
          refine g_if_eq (n := 13) (tgt := 21) hX dX8_run_10 rfl (by decide) (fun c10 => absurd c10 (fun h9 => bI_z.mp h9 hU1)) (fun c10 => ?_)
          refine g_aload_n (n := 14) hX dX8_run_13 rfl rfl rfl ?_
          refine g_iload_n (n := 15) hX dX8_run_14 rfl rfl rfl ?_
          refine g_callV0 (n := 18) (As := [.int (nI p)]) (rest := []) hX hE hU hY dX8_run_15 rfl yv_X8_isProgram um_X8_101 (m_isProgram _ _ K am A (sF σ 0 0) (nI p)) ⟨rfl, rfl⟩ (rm_le hRm rfl rfl) rfl (ci := 10) (q0 := 0) rfl rfl rfl rfl (Nat.le_of_ble_eq_true rfl) ⟨Nat.zero_le _, Nat.zero_le _⟩ (fun v0 w0 hq0 => ?_)
          obtain ⟨rfl, rfl⟩ := hq0
          show G Γ (mW K am A (sF σ 0 0)) 0 0 18 [(0, .ref am), (1, .int (nI u)), (2, .int (nI p))] [.int (bI (1 ≤ (nI p) ∧ (nI p) ≤ σ.2 1))]
          refine g_if_ne (n := 21) (tgt := 24) hX dX8_run_18 rfl (by decide) (fun c18 => ?_) (fun c18 => absurd c18 (fun h9 => bI_z.mp h9 hP))
          refine g_aload_n (n := 25) hX dX8_run_24 rfl rfl rfl ?_
          refine g_iload_n (n := 26) hX dX8_run_25 rfl rfl rfl ?_
          refine g_iload_n (n := 27) hX dX8_run_26 rfl rfl rfl ?_
          refine g_callV0 (n := 30) (As := [.int (nI u), .int (nI p)]) (rest := []) hX hE hU hY dX8_run_27 rfl yv_X8_latestOf um_X8_109 (m_latestOf _ _ K am A (sF σ 0 0) u p (by omega) (by omega)) ⟨rfl, rfl⟩ (rm_le hRm rfl rfl) rfl (ci := 10) (q0 := 0) rfl rfl rfl rfl (Nat.le_of_ble_eq_true rfl) ⟨Nat.zero_le _, Nat.zero_le _⟩ (fun v0 w0 hq0 => ?_)
          rw [show (sF σ 0 0).1 14 (13 * u + p) = nI old from hold] at hq0; obtain ⟨rfl, rfl⟩ := hq0
          show G Γ (mW K am A (sF σ 0 0)) 0 0 30 [(0, .ref am), (1, .int (nI u)), (2, .int (nI p))] [.int (nI old)]
          refine g_istore_n (lv' := [(3, .int (nI old)), (0, .ref am), (1, .int (nI u)), (2, .int (nI p))]) (n := 31) hX dX8_run_30 rfl rfl (by rw [hnL]; rfl) rfl ?_
          refine g_aload_n (n := 32) hX dX8_run_31 rfl rfl rfl ?_
          refine g_mget (n := 35) 16 (v := .ref (A 12)) hX hU dX8_run_32 rfl uf_X8_47 rfl rfl rfl ?_
          refine g_iload_n (n := 36) hX dX8_run_35 rfl rfl rfl ?_
          refine g_mzld (n := 37) 12 (v := σ.1 12 u) hX hY dX8_run_36 rfl rfl rfl (vp_in_nI (show u < mN 12 by show u < 9; omega) (by decide)) (by rw [nI_clamp (by omega)] <;> rfl) ?_
          refine g_if_ne (n := 40) (tgt := 44) hX dX8_run_37 rfl (by decide) (fun c37 => absurd h12 c37) (fun c37 => ?_)
          refine g_iload_n (n := 41) hX dX8_run_40 rfl rfl rfl ?_
          refine g_if_ne (n := 44) (tgt := 47) hX dX8_run_41 rfl (by decide) (fun c41 => absurd (by rw [h0] <;> rfl) c41) (fun c41 => ?_)
          refine g_bipush (n := 46) (v := (-5)) hX dX8_run_44 rfl rfl ?_
          exact g_iret hX hR dX8_run_46 (by rw [S_run, if_pos hU1, if_pos hP, ecu, ecp, eold, if_pos h12, if_pos h0]; exact ⟨rfl, rfl⟩)
        · obtain ⟨hou, ⟨pq, hop, hq1, hq2⟩, hRA, hdn, hend⟩ := H u p rfl rfl hu1 hu2 hp1 hp2 h12 (by rw [eold]; omega)
          rw [eold] at hou hop hRA hdn hend
          refine g_aload_n (n := 1) hX dX8_run_0 rfl rfl rfl ?_
          refine g_iconst (n := 2) (v := 0) hX dX8_run_1 rfl rfl ?_
          refine g_mput (n := 5) 0 hX hU dX8_run_2 rfl uf_X8_87 rfl rfl rfl rfl rfl ?_
          refine g_aload_n (n := 6) hX dX8_run_5 rfl rfl rfl ?_
          refine g_iload_n (n := 7) hX dX8_run_6 rfl rfl rfl ?_
          refine g_callV0 (n := 10) (As := [.int (nI u)]) (rest := []) hX hE hU hY dX8_run_7 rfl yv_X8_isUnit um_X8_116 (m_isUnit _ _ K am A (sF σ 0 0) (nI u)) ⟨rfl, rfl⟩ (rm_le hRm rfl rfl) rfl (ci := 10) (q0 := 0) rfl rfl rfl rfl (Nat.le_of_ble_eq_true rfl) ⟨Nat.zero_le _, Nat.zero_le _⟩ (fun v0 w0 hq0 => ?_)
          obtain ⟨rfl, rfl⟩ := hq0
          show G Γ (mW K am A (sF σ 0 0)) 0 0 10 [(0, .ref am), (1, .int (nI u)), (2, .int (nI p))] [.int (bI (1 ≤ (nI u) ∧ (nI u) ≤ σ.2 2))]
          refine g_if_eq (n := 13) (tgt := 21) hX dX8_run_10 rfl (by decide) (fun c10 => absurd c10 (fun h9 => bI_z.mp h9 hU1)) (fun c10 => ?_)
          refine g_aload_n (n := 14) hX dX8_run_13 rfl rfl rfl ?_
          refine g_iload_n (n := 15) hX dX8_run_14 rfl rfl rfl ?_
          refine g_callV0 (n := 18) (As := [.int (nI p)]) (rest := []) hX hE hU hY dX8_run_15 rfl yv_X8_isProgram um_X8_101 (m_isProgram _ _ K am A (sF σ 0 0) (nI p)) ⟨rfl, rfl⟩ (rm_le hRm rfl rfl) rfl (ci := 10) (q0 := 0) rfl rfl rfl rfl (Nat.le_of_ble_eq_true rfl) ⟨Nat.zero_le _, Nat.zero_le _⟩ (fun v0 w0 hq0 => ?_)
          obtain ⟨rfl, rfl⟩ := hq0
          show G Γ (mW K am A (sF σ 0 0)) 0 0 18 [(0, .ref am), (1, .int (nI u)), (2, .int (nI p))] [.int (bI (1 ≤ (nI p) ∧ (nI p) ≤ σ.2 1))]
          refine g_if_ne (n := 21) (tgt := 24) hX dX8_run_18 rfl (by decide) (fun c18 => ?_) (fun c18 => absurd c18 (fun h9 => bI_z.mp h9 hP))
          refine g_aload_n (n := 25) hX dX8_run_24 rfl rfl rfl ?_
          refine g_iload_n (n := 26) hX dX8_run_25 rfl rfl rfl ?_
          refine g_iload_n (n := 27) hX dX8_run_26 rfl rfl rfl ?_
          refine g_callV0 (n := 30) (As := [.int (nI u), .int (nI p)]) (rest := []) hX hE hU hY dX8_run_27 rfl yv_X8_latestOf um_X8_109 (m_latestOf _ _ K am A (sF σ 0 0) u p (by omega) (by omega)) ⟨rfl, rfl⟩ (rm_le hRm rfl rfl) rfl (ci := 10) (q0 := 0) rfl rfl rfl rfl (Nat.le_of_ble_eq_true rfl) ⟨Nat.zero_le _, Nat.zero_le _⟩ (fun v0 w0 hq0 => ?_)
          rw [show (sF σ 0 0).1 14 (13 * u + p) = nI old from hold] at hq0; obtain ⟨rfl, rfl⟩ := hq0
          show G Γ (mW K am A (sF σ 0 0)) 0 0 30 [(0, .ref am), (1, .int (nI u)), (2, .int (nI p))] [.int (nI old)]
          refine g_istore_n (lv' := [(3, .int (nI old)), (0, .ref am), (1, .int (nI u)), (2, .int (nI p))]) (n := 31) hX dX8_run_30 rfl rfl (by rw [hnL]; rfl) rfl ?_
          refine g_aload_n (n := 32) hX dX8_run_31 rfl rfl rfl ?_
          refine g_mget (n := 35) 16 (v := .ref (A 12)) hX hU dX8_run_32 rfl uf_X8_47 rfl rfl rfl ?_
          refine g_iload_n (n := 36) hX dX8_run_35 rfl rfl rfl ?_
          refine g_mzld (n := 37) 12 (v := σ.1 12 u) hX hY dX8_run_36 rfl rfl rfl (vp_in_nI (show u < mN 12 by show u < 9; omega) (by decide)) (by rw [nI_clamp (by omega)] <;> rfl) ?_
          refine g_if_ne (n := 40) (tgt := 44) hX dX8_run_37 rfl (by decide) (fun c37 => absurd h12 c37) (fun c37 => ?_)
          refine g_iload_n (n := 41) hX dX8_run_40 rfl rfl rfl ?_
          refine g_if_ne (n := 44) (tgt := 47) hX dX8_run_41 rfl (by decide) (fun c41 => ?_) (fun c41 => absurd c41 (nI_ne0 (by omega) (by omega)))
          refine g_aload_n (n := 48) hX dX8_run_47 rfl rfl rfl ?_
          refine g_mget (n := 51) 17 (v := .ref (A 13)) hX hU dX8_run_48 rfl uf_X8_50 rfl rfl rfl ?_
          refine g_iload_n (n := 52) hX dX8_run_51 rfl rfl rfl ?_
          refine g_iconst (n := 53) (v := 1) hX dX8_run_52 rfl rfl ?_
          refine g_mzst (n := 54) 13 (i0 := u) hX hY dX8_run_53 rfl rfl rfl (vp_in_nI (show u < mN 13 by show u < 9; omega) (by decide)) (nI_clamp (by omega)) ?_
          refine g_aload_n (n := 55) hX dX8_run_54 rfl rfl rfl ?_
          refine g_mget (n := 58) 19 (v := .ref (A 15)) hX hU dX8_run_55 rfl uf_X8_56 rfl rfl rfl ?_
          refine g_iload_n (n := 59) hX dX8_run_58 rfl rfl rfl ?_
          refine g_iconst (n := 60) (v := 0) hX dX8_run_59 rfl rfl ?_
          refine g_mist (n := 61) 15 (i0 := u) hX hY dX8_run_60 rfl rfl rfl (vp_in_nI (show u < mN 15 by show u < 9; omega) (by decide)) (nI_clamp (by omega)) ?_
          refine g_aload_n (n := 62) hX dX8_run_61 rfl rfl rfl ?_
          refine g_mget (n := 65) 20 (v := .ref (A 16)) hX hU dX8_run_62 rfl uf_X8_59 rfl rfl rfl ?_
          refine g_iload_n (n := 66) hX dX8_run_65 rfl rfl rfl ?_
          refine g_iconst (n := 67) (v := (-1)) hX dX8_run_66 rfl rfl ?_
          refine g_mist (n := 68) 16 (i0 := u) hX hY dX8_run_67 rfl rfl rfl (vp_in_nI (show u < mN 16 by show u < 9; omega) (by decide)) (nI_clamp (by omega)) ?_
          refine g_aload_n (n := 69) hX dX8_run_68 rfl rfl rfl ?_
          refine g_mget (n := 72) 21 (v := .ref (A 17)) hX hU dX8_run_69 rfl uf_X8_62 rfl rfl rfl ?_
          refine g_iload_n (n := 73) hX dX8_run_72 rfl rfl rfl ?_
          refine g_iconst (n := 74) (v := (-1)) hX dX8_run_73 rfl rfl ?_
          refine g_mist (n := 75) 17 (i0 := u) hX hY dX8_run_74 rfl rfl rfl (vp_in_nI (show u < mN 17 by show u < 9; omega) (by decide)) (nI_clamp (by omega)) ?_
          refine g_aload_n (n := 76) hX dX8_run_75 rfl rfl rfl ?_
          refine g_mget (n := 79) 22 (v := .ref (A 18)) hX hU dX8_run_76 rfl uf_X8_65 rfl rfl rfl ?_
          refine g_iload_n (n := 80) hX dX8_run_79 rfl rfl rfl ?_
          refine g_iconst (n := 81) (v := 0) hX dX8_run_80 rfl rfl ?_
          refine g_mist (n := 82) 18 (i0 := u) hX hY dX8_run_81 rfl rfl rfl (vp_in_nI (show u < mN 18 by show u < 9; omega) (by decide)) (nI_clamp (by omega)) ?_
          refine g_aload_n (n := 83) hX dX8_run_82 rfl rfl rfl ?_
          refine g_mget (n := 86) 23 (v := .ref (A 19)) hX hU dX8_run_83 rfl uf_X8_68 rfl rfl rfl ?_
          refine g_iload_n (n := 87) hX dX8_run_86 rfl rfl rfl ?_
          refine g_iconst (n := 88) (v := 0) hX dX8_run_87 rfl rfl ?_
          refine g_mist (n := 89) 19 (i0 := u) hX hY dX8_run_88 rfl rfl rfl (vp_in_nI (show u < mN 19 by show u < 9; omega) (by decide)) (nI_clamp (by omega)) ?_
          refine g_aload_n (n := 90) hX dX8_run_89 rfl rfl rfl ?_
          refine g_iconst (n := 91) (v := 0) hX dX8_run_90 rfl rfl ?_
          refine g_mput (n := 94) 26 hX hU dX8_run_91 rfl uf_X8_122 rfl rfl rfl rfl rfl ?_
          refine g_aload_n (n := 95) hX dX8_run_94 rfl rfl rfl ?_
          refine g_iload_n (n := 96) hX dX8_run_95 rfl rfl rfl ?_
          refine g_callV0 (n := 99) (As := [.int (nI old)]) (rest := []) hX hE hU hY dX8_run_96 rfl yv_X8_enter um_X8_125 (m_enter _ _ K am A (runBeg σ u) old u pq 0 (by omega) hou hu1 hu2 hop hq1 hq2 rfl (by omega)) ⟨rfl, rfl⟩ (rm_le hRm rfl rfl) rfl (ci := 10) (q0 := 0) rfl rfl rfl rfl (Nat.le_of_ble_eq_true rfl) ⟨Nat.zero_le _, Nat.zero_le _⟩ (fun v0 w0 hq0 => ?_)
          obtain ⟨rfl, rfl⟩ := hq0
          show G Γ (mW K am A ((S_enter (runBeg σ u) old).2)) 0 0 99 [(3, .int (nI old)), (0, .ref am), (1, .int (nI u)), (2, .int (nI p))] [.int ((S_enter (runBeg σ u) old).1)]
          refine g_istore (lv' := [(4, .int ((S_enter (runBeg σ u) old).1)), (3, .int (nI old)), (0, .ref am), (1, .int (nI u)), (2, .int (nI p))]) (n := 101) hX dX8_run_99 rfl (by rw [hnL]; rfl) rfl ?_
          refine g_pick (lv' := [(4, .int (S_enter (runBeg σ u) old).1), (0, .ref am), (1, .int (nI u)), (2, .int (nI p)), (3, .int (nI old))]) [0, 2, 3, 4, 1] rfl ?_
          refine lp_run hX hE hRm hnL hY u p old hu1 hu2 n (S_enter (runBeg σ u) old) hRA hdn ?_
          refine tl_run hX hE hRm hnL hY u p old hu2 _ hend hR (fun v w hvw => ?_)
          rw [S_run, if_pos hU1, if_pos hP, ecu, ecp, eold, if_pos h12, if_neg h0]
          exact hvw
      · refine g_aload_n (n := 1) hX dX8_run_0 rfl rfl rfl ?_
        refine g_iconst (n := 2) (v := 0) hX dX8_run_1 rfl rfl ?_
        refine g_mput (n := 5) 0 hX hU dX8_run_2 rfl uf_X8_87 rfl rfl rfl rfl rfl ?_
        refine g_aload_n (n := 6) hX dX8_run_5 rfl rfl rfl ?_
        refine g_iload_n (n := 7) hX dX8_run_6 rfl rfl rfl ?_
        refine g_callV0 (n := 10) (As := [.int (nI u)]) (rest := []) hX hE hU hY dX8_run_7 rfl yv_X8_isUnit um_X8_116 (m_isUnit _ _ K am A (sF σ 0 0) (nI u)) ⟨rfl, rfl⟩ (rm_le hRm rfl rfl) rfl (ci := 10) (q0 := 0) rfl rfl rfl rfl (Nat.le_of_ble_eq_true rfl) ⟨Nat.zero_le _, Nat.zero_le _⟩ (fun v0 w0 hq0 => ?_)
        obtain ⟨rfl, rfl⟩ := hq0
        show G Γ (mW K am A (sF σ 0 0)) 0 0 10 [(0, .ref am), (1, .int (nI u)), (2, .int (nI p))] [.int (bI (1 ≤ (nI u) ∧ (nI u) ≤ σ.2 2))]
        refine g_if_eq (n := 13) (tgt := 21) hX dX8_run_10 rfl (by decide) (fun c10 => absurd c10 (fun h9 => bI_z.mp h9 hU1)) (fun c10 => ?_)
        refine g_aload_n (n := 14) hX dX8_run_13 rfl rfl rfl ?_
        refine g_iload_n (n := 15) hX dX8_run_14 rfl rfl rfl ?_
        refine g_callV0 (n := 18) (As := [.int (nI p)]) (rest := []) hX hE hU hY dX8_run_15 rfl yv_X8_isProgram um_X8_101 (m_isProgram _ _ K am A (sF σ 0 0) (nI p)) ⟨rfl, rfl⟩ (rm_le hRm rfl rfl) rfl (ci := 10) (q0 := 0) rfl rfl rfl rfl (Nat.le_of_ble_eq_true rfl) ⟨Nat.zero_le _, Nat.zero_le _⟩ (fun v0 w0 hq0 => ?_)
        obtain ⟨rfl, rfl⟩ := hq0
        show G Γ (mW K am A (sF σ 0 0)) 0 0 18 [(0, .ref am), (1, .int (nI u)), (2, .int (nI p))] [.int (bI (1 ≤ (nI p) ∧ (nI p) ≤ σ.2 1))]
        refine g_if_ne (n := 21) (tgt := 24) hX dX8_run_18 rfl (by decide) (fun c18 => ?_) (fun c18 => absurd c18 (fun h9 => bI_z.mp h9 hP))
        refine g_aload_n (n := 25) hX dX8_run_24 rfl rfl rfl ?_
        refine g_iload_n (n := 26) hX dX8_run_25 rfl rfl rfl ?_
        refine g_iload_n (n := 27) hX dX8_run_26 rfl rfl rfl ?_
        refine g_callV0 (n := 30) (As := [.int (nI u), .int (nI p)]) (rest := []) hX hE hU hY dX8_run_27 rfl yv_X8_latestOf um_X8_109 (m_latestOf _ _ K am A (sF σ 0 0) u p (by omega) (by omega)) ⟨rfl, rfl⟩ (rm_le hRm rfl rfl) rfl (ci := 10) (q0 := 0) rfl rfl rfl rfl (Nat.le_of_ble_eq_true rfl) ⟨Nat.zero_le _, Nat.zero_le _⟩ (fun v0 w0 hq0 => ?_)
        rw [show (sF σ 0 0).1 14 (13 * u + p) = nI old from hold] at hq0; obtain ⟨rfl, rfl⟩ := hq0
        show G Γ (mW K am A (sF σ 0 0)) 0 0 30 [(0, .ref am), (1, .int (nI u)), (2, .int (nI p))] [.int (nI old)]
        refine g_istore_n (lv' := [(3, .int (nI old)), (0, .ref am), (1, .int (nI u)), (2, .int (nI p))]) (n := 31) hX dX8_run_30 rfl rfl (by rw [hnL]; rfl) rfl ?_
        refine g_aload_n (n := 32) hX dX8_run_31 rfl rfl rfl ?_
        refine g_mget (n := 35) 16 (v := .ref (A 12)) hX hU dX8_run_32 rfl uf_X8_47 rfl rfl rfl ?_
        refine g_iload_n (n := 36) hX dX8_run_35 rfl rfl rfl ?_
        refine g_mzld (n := 37) 12 (v := σ.1 12 u) hX hY dX8_run_36 rfl rfl rfl (vp_in_nI (show u < mN 12 by show u < 9; omega) (by decide)) (by rw [nI_clamp (by omega)] <;> rfl) ?_
        refine g_if_ne (n := 40) (tgt := 44) hX dX8_run_37 rfl (by decide) (fun c37 => ?_) (fun c37 => absurd c37 h12)
        refine g_bipush (n := 46) (v := (-5)) hX dX8_run_44 rfl rfl ?_
        exact g_iret hX hR dX8_run_46 (by rw [S_run, if_pos hU1, if_pos hP, ecu, ecp, if_neg h12]; exact ⟨rfl, rfl⟩)
    · refine g_aload_n (n := 1) hX dX8_run_0 rfl rfl rfl ?_
      refine g_iconst (n := 2) (v := 0) hX dX8_run_1 rfl rfl ?_
      refine g_mput (n := 5) 0 hX hU dX8_run_2 rfl uf_X8_87 rfl rfl rfl rfl rfl ?_
      refine g_aload_n (n := 6) hX dX8_run_5 rfl rfl rfl ?_
      refine g_iload_n (n := 7) hX dX8_run_6 rfl rfl rfl ?_
      refine g_callV0 (n := 10) (As := [.int uu]) (rest := []) hX hE hU hY dX8_run_7 rfl yv_X8_isUnit um_X8_116 (m_isUnit _ _ K am A (sF σ 0 0) uu) ⟨rfl, rfl⟩ (rm_le hRm rfl rfl) rfl (ci := 10) (q0 := 0) rfl rfl rfl rfl (Nat.le_of_ble_eq_true rfl) ⟨Nat.zero_le _, Nat.zero_le _⟩ (fun v0 w0 hq0 => ?_)
      obtain ⟨rfl, rfl⟩ := hq0
      show G Γ (mW K am A (sF σ 0 0)) 0 0 10 [(0, .ref am), (1, .int uu), (2, .int pp)] [.int (bI (1 ≤ uu ∧ uu ≤ σ.2 2))]
      refine g_if_eq (n := 13) (tgt := 21) hX dX8_run_10 rfl (by decide) (fun c10 => absurd c10 (fun h9 => bI_z.mp h9 hU1)) (fun c10 => ?_)
      refine g_aload_n (n := 14) hX dX8_run_13 rfl rfl rfl ?_
      refine g_iload_n (n := 15) hX dX8_run_14 rfl rfl rfl ?_
      refine g_callV0 (n := 18) (As := [.int pp]) (rest := []) hX hE hU hY dX8_run_15 rfl yv_X8_isProgram um_X8_101 (m_isProgram _ _ K am A (sF σ 0 0) pp) ⟨rfl, rfl⟩ (rm_le hRm rfl rfl) rfl (ci := 10) (q0 := 0) rfl rfl rfl rfl (Nat.le_of_ble_eq_true rfl) ⟨Nat.zero_le _, Nat.zero_le _⟩ (fun v0 w0 hq0 => ?_)
      obtain ⟨rfl, rfl⟩ := hq0
      show G Γ (mW K am A (sF σ 0 0)) 0 0 18 [(0, .ref am), (1, .int uu), (2, .int pp)] [.int (bI (1 ≤ pp ∧ pp ≤ σ.2 1))]
      refine g_if_ne (n := 21) (tgt := 24) hX dX8_run_18 rfl (by decide) (fun c18 => absurd (bI_z.mpr hP) c18) (fun c18 => ?_)
      refine g_bipush (n := 23) (v := (-2)) hX dX8_run_21 rfl rfl ?_
      exact g_iret hX hR dX8_run_23 (by rw [S_run, if_pos hU1, if_neg hP]; exact ⟨rfl, rfl⟩)
  · refine g_aload_n (n := 1) hX dX8_run_0 rfl rfl rfl ?_
    refine g_iconst (n := 2) (v := 0) hX dX8_run_1 rfl rfl ?_
    refine g_mput (n := 5) 0 hX hU dX8_run_2 rfl uf_X8_87 rfl rfl rfl rfl rfl ?_
    refine g_aload_n (n := 6) hX dX8_run_5 rfl rfl rfl ?_
    refine g_iload_n (n := 7) hX dX8_run_6 rfl rfl rfl ?_
    refine g_callV0 (n := 10) (As := [.int uu]) (rest := []) hX hE hU hY dX8_run_7 rfl yv_X8_isUnit um_X8_116 (m_isUnit _ _ K am A (sF σ 0 0) uu) ⟨rfl, rfl⟩ (rm_le hRm rfl rfl) rfl (ci := 10) (q0 := 0) rfl rfl rfl rfl (Nat.le_of_ble_eq_true rfl) ⟨Nat.zero_le _, Nat.zero_le _⟩ (fun v0 w0 hq0 => ?_)
    obtain ⟨rfl, rfl⟩ := hq0
    show G Γ (mW K am A (sF σ 0 0)) 0 0 10 [(0, .ref am), (1, .int uu), (2, .int pp)] [.int (bI (1 ≤ uu ∧ uu ≤ σ.2 2))]
    refine g_if_eq (n := 13) (tgt := 21) hX dX8_run_10 rfl (by decide) (fun c10 => ?_) (fun c10 => absurd (bI_z.mpr hU1) c10)
    refine g_bipush (n := 23) (v := (-2)) hX dX8_run_21 rfl rfl ?_
    exact g_iret hX hR dX8_run_23 (by rw [S_run, if_neg hU1]; exact ⟨rfl, rfl⟩)

