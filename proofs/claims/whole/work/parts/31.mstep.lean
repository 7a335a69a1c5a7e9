set_option maxHeartbeats 4000000 in
set_option maxRecDepth 100000 in
theorem m_step (l : Launch) (D : va_G) (K : Nat → ClassId) (am : Nat) (A : Nat → Nat) (σ : MS) (c r u p z d : Nat) (hc2 : c ≤ 40) (huc : σ.1 6 c = nI u) (hu1 : 1 ≤ u) (hu2 : u ≤ 8) (hpc : σ.1 7 c = nI p) (hp1 : 1 ≤ p) (hp2 : p ≤ 12) (hd : σ.2 26 = nI d) (hr1 : 1 ≤ r) (hr2 : r ≤ 60) (hz : σ.1 0 p = nI z) (hz2 : z ≤ 100) (hV : rowV z (prO σ p r).1 (prO σ p r).2.1 (prO σ p r).2.2) (hd1 : 1 ≤ d) (hd2 : d ≤ 11) (hg : rg σ) (hlat : ∀ p, 1 ≤ p → p ≤ nF σ 1 → 0 < nA σ 14 (13 * u + p) → σ.1 6 (nA σ 14 (13 * u + p)) = nI u ∧ ∃ pq, σ.1 7 (nA σ 14 (13 * u + p)) = nI pq ∧ 1 ≤ pq ∧ pq ≤ 12) : Mc l yX8_step (wM yX8_step cX8_step 12 (some .int)) (rmL 3 0 0) D (yY K) [.ref am, .int (nI c), .int (nI r)] (mW K am A σ) (fun v w => v = some (.int (S_step σ c r).1) ∧ w = mW K am A (S_step σ c r).2) 0 0 := by
  refine m_start (lv := [(0, .ref am), (1, .int (nI c)), (2, .int (nI r))]) rfl (Nat.le_of_ble_eq_true rfl) rfl (fun Γ hX hRm hnL hY hDD hLa hR hI hE => ?_)
  have hU : ∀ w ∈ wU, w ∈ wM yX8_step cX8_step 12 (some .int) := fun w h => wM_in h
  subst hLa
  subst hDD
  have hV : rowV z (σ.1 2 (60 * p + r)) (σ.1 3 (60 * p + r)) (σ.1 4 (60 * p + r)) := hV
  have euc : nA σ 6 c = u := nA_of huc (by omega)
  have epc : nA σ 7 c = p := nA_of hpc (by omega)
  have ed : nF σ 26 = d := nF_of hd (by omega)
  have hS : S_step σ c r = S_stepO σ u p (σ.1 2 (60 * p + r)) (σ.1 3 (60 * p + r)) (σ.1 4 (60 * p + r)) := by rw [S_step, euc, epc]; rfl
  rw [hS] at hR
  obtain ⟨a, ea⟩ : ∃ q, σ.1 3 (60 * p + r) = q := ⟨_, rfl⟩
  obtain ⟨b, eb⟩ : ∃ q, σ.1 4 (60 * p + r) = q := ⟨_, rfl⟩
  obtain ⟨o, eo⟩ : ∃ q, σ.1 2 (60 * p + r) = q := ⟨_, rfl⟩
  rw [ea, eb, eo] at hV hR
  obtain ⟨hop, hv1, hv2, hv3, hv4, hv5, hv6⟩ := hV
  rcases op_cases hop with e | e | e | e | e | e | e | e | e | e | e | e | e | e
  · obtain ⟨aa, rfl, haa⟩ := hv1 (Or.inl e)
    have hca : (nI aa).toNatClampNeg = aa := nI_clamp (by omega)
    refine g_aload_n (n := 1) hX dX8_step_0 rfl rfl rfl ?_
    refine g_mget (n := 4) 10 (v := .ref (A 6)) hX hU dX8_step_1 rfl uf_X8_29 rfl rfl rfl ?_
    refine g_iload_n (n := 5) hX dX8_step_4 rfl rfl rfl ?_
    refine g_mild (n := 6) 6 (v := nI u) hX hY dX8_step_5 rfl rfl rfl (vp_in_nI (show c < mN 6 by show c < 41; omega) (by decide)) (by rw [nI_clamp (by omega)]; exact huc) ?_
    refine g_istore_n (lv' := [(3, .int (nI u)), (0, .ref am), (1, .int (nI c)), (2, .int (nI r))]) (n := 7) hX dX8_step_6 rfl rfl (by rw [hnL]; rfl) rfl ?_
    refine g_aload_n (n := 8) hX dX8_step_7 rfl rfl rfl ?_
    refine g_mget (n := 11) 11 (v := .ref (A 7)) hX hU dX8_step_8 rfl uf_X8_32 rfl rfl rfl ?_
    refine g_iload_n (n := 12) hX dX8_step_11 rfl rfl rfl ?_
    refine g_mild (n := 13) 7 (v := nI p) hX hY dX8_step_12 rfl rfl rfl (vp_in_nI (show c < mN 7 by show c < 41; omega) (by decide)) (by rw [nI_clamp (by omega)]; exact hpc) ?_
    refine g_istore (lv' := [(4, .int (nI p)), (3, .int (nI u)), (0, .ref am), (1, .int (nI c)), (2, .int (nI r))]) (n := 15) hX dX8_step_13 rfl (by rw [hnL]; rfl) rfl ?_
    refine g_sipush (n := 18) (v := 1200) hX dX8_step_15 rfl rfl ?_
    refine g_iload_n (n := 19) hX dX8_step_18 rfl rfl rfl ?_
    refine g_imul (n := 20) (v := nI (1200 * u)) hX dX8_step_19 rfl (pk_mul (1200) (u)) ?_
    refine g_sipush (n := 23) (v := 1200) hX dX8_step_20 rfl rfl ?_
    refine g_isub (n := 24) (v := nI (1200 * u - 1200)) hX dX8_step_23 rfl (by rw [show (1200 : Int32) = nI 1200 from rfl, pk_sub (by omega)]) ?_
    refine g_bipush (n := 26) (v := 100) hX dX8_step_24 rfl rfl ?_
    refine g_iload (n := 28) hX dX8_step_26 rfl rfl ?_
    refine g_imul (n := 29) (v := nI (100 * p)) hX dX8_step_28 rfl (pk_mul (100) (p)) ?_
    refine g_iadd (n := 30) (v := nI (1200 * u - 1200 + 100 * p)) hX dX8_step_29 rfl (nI_add (1200 * u - 1200) (100 * p)) ?_
    refine g_bipush (n := 32) (v := 100) hX dX8_step_30 rfl rfl ?_
    refine g_isub (n := 33) (v := nI (1200 * u - 1200 + 100 * p - 100)) hX dX8_step_32 rfl (by rw [show (100 : Int32) = nI 100 from rfl, pk_sub (by omega)]) ?_
    refine g_istore (lv' := [(5, .int (nI (1200 * u - 1200 + 100 * p - 100))), (4, .int (nI p)), (3, .int (nI u)), (0, .ref am), (1, .int (nI c)), (2, .int (nI r))]) (n := 35) hX dX8_step_33 rfl (by rw [hnL]; rfl) rfl ?_
    refine g_bipush (n := 37) (v := 60) hX dX8_step_35 rfl rfl ?_
    refine g_iload (n := 39) hX dX8_step_37 rfl rfl ?_
    refine g_imul (n := 40) (v := nI (60 * p)) hX dX8_step_39 rfl (pk_mul (60) (p)) ?_
    refine g_iload_n (n := 41) hX dX8_step_40 rfl rfl rfl ?_
    refine g_iadd (n := 42) (v := nI (60 * p + r)) hX dX8_step_41 rfl (nI_add (60 * p) (r)) ?_
    refine g_istore (lv' := [(6, .int (nI (60 * p + r))), (5, .int (nI (1200 * u - 1200 + 100 * p - 100))), (4, .int (nI p)), (3, .int (nI u)), (0, .ref am), (1, .int (nI c)), (2, .int (nI r))]) (n := 44) hX dX8_step_42 rfl (by rw [hnL]; rfl) rfl ?_
    refine g_aload_n (n := 45) hX dX8_step_44 rfl rfl rfl ?_
    refine g_mget (n := 48) 7 (v := .ref (A 3)) hX hU dX8_step_45 rfl uf_X8_19 rfl rfl rfl ?_
    refine g_iload (n := 50) hX dX8_step_48 rfl rfl ?_
    refine g_mild (n := 51) 3 (v := nI aa) hX hY dX8_step_50 rfl rfl rfl (vp_in_nI (show 60 * p + r < mN 3 by show 60 * p + r < 793; omega) (by decide)) (by rw [nI_clamp (by omega)]; exact ea) ?_
    refine g_istore (lv' := [(7, .int (nI aa)), (6, .int (nI (60 * p + r))), (5, .int (nI (1200 * u - 1200 + 100 * p - 100))), (4, .int (nI p)), (3, .int (nI u)), (0, .ref am), (1, .int (nI c)), (2, .int (nI r))]) (n := 53) hX dX8_step_51 rfl (by rw [hnL]; rfl) rfl ?_
    refine g_aload_n (n := 54) hX dX8_step_53 rfl rfl rfl ?_
    refine g_mget (n := 57) 8 (v := .ref (A 4)) hX hU dX8_step_54 rfl uf_X8_22 rfl rfl rfl ?_
    refine g_iload (n := 59) hX dX8_step_57 rfl rfl ?_
    refine g_mild (n := 60) 4 (v := b) hX hY dX8_step_59 rfl rfl rfl (vp_in_nI (show 60 * p + r < mN 4 by show 60 * p + r < 793; omega) (by decide)) (by rw [nI_clamp (by omega)]; exact eb) ?_
    refine g_istore (lv' := [(8, .int b), (7, .int (nI aa)), (6, .int (nI (60 * p + r))), (5, .int (nI (1200 * u - 1200 + 100 * p - 100))), (4, .int (nI p)), (3, .int (nI u)), (0, .ref am), (1, .int (nI c)), (2, .int (nI r))]) (n := 62) hX dX8_step_60 rfl (by rw [hnL]; rfl) rfl ?_
    refine g_aload_n (n := 63) hX dX8_step_62 rfl rfl rfl ?_
    refine g_mget (n := 66) 6 (v := .ref (A 2)) hX hU dX8_step_63 rfl uf_X8_16 rfl rfl rfl ?_
    refine g_iload (n := 68) hX dX8_step_66 rfl rfl ?_
    refine g_mild (n := 69) 2 (v := o) hX hY dX8_step_68 rfl rfl rfl (vp_in_nI (show 60 * p + r < mN 2 by show 60 * p + r < 793; omega) (by decide)) (by rw [nI_clamp (by omega)]; exact eo) ?_
    refine g_istore (lv' := [(9, .int o), (8, .int b), (7, .int (nI aa)), (6, .int (nI (60 * p + r))), (5, .int (nI (1200 * u - 1200 + 100 * p - 100))), (4, .int (nI p)), (3, .int (nI u)), (0, .ref am), (1, .int (nI c)), (2, .int (nI r))]) (n := 71) hX dX8_step_69 rfl (by rw [hnL]; rfl) rfl ?_
    refine g_iload (n := 73) hX dX8_step_71 rfl rfl ?_
    refine g_bipush (n := 75) (v := 9) hX dX8_step_73 rfl rfl ?_
    refine g_icmp_lt (n := 78) (tgt := 85) hX dX8_step_75 rfl (by decide) (fun c75 => ?_) (fun c75 => absurd (by rw [e] <;> decide) c75)
    refine g_aload_n (n := 86) hX dX8_step_85 rfl rfl rfl ?_
    refine g_mget (n := 89) 24 (v := .ref (A 20)) hX hU dX8_step_86 rfl uf_X8_71 rfl rfl rfl ?_
    refine g_iload (n := 91) hX dX8_step_89 rfl rfl ?_
    refine g_iload (n := 93) hX dX8_step_91 rfl rfl ?_
    refine g_iadd (n := 94) (v := nI (wk u p aa)) hX dX8_step_93 rfl (nI_add _ _) ?_
    refine g_mbld (n := 95) 20 (v := σ.1 20 (wk u p aa)) hX hY dX8_step_94 rfl rfl rfl (vp_in_nI (show wk u p aa < mN 20 by show wk u p aa < 12000; unfold wk; omega) (by decide)) (by rw [nI_clamp (by unfold wk; omega)]) ?_
    refine g_goto (n := 99) hX dX8_step_95 (by decide) ?_
    refine g_istore (lv' := [(10, .int (σ.1 20 (wk u p aa))), (9, .int o), (8, .int b), (7, .int (nI aa)), (6, .int (nI (60 * p + r))), (5, .int (nI (1200 * u - 1200 + 100 * p - 100))), (4, .int (nI p)), (3, .int (nI u)), (0, .ref am), (1, .int (nI c)), (2, .int (nI r))]) (n := 101) hX dX8_step_99 rfl (by rw [hnL]; rfl) rfl ?_
    refine g_iload (n := 103) hX dX8_step_101 rfl rfl ?_
    refine g_if_le (n := 106) (tgt := 126) hX dX8_step_103 rfl (by decide) (fun c103 => ?_) (fun c103 => absurd (by rw [e] <;> decide) c103)
    refine g_iconst (n := 127) (v := 0) hX dX8_step_126 rfl rfl ?_
    refine g_istore (lv' := [(11, .int 0), (10, .int (σ.1 20 (wk u p aa))), (9, .int o), (8, .int b), (7, .int (nI aa)), (6, .int (nI (60 * p + r))), (5, .int (nI (1200 * u - 1200 + 100 * p - 100))), (4, .int (nI p)), (3, .int (nI u)), (0, .ref am), (1, .int (nI c)), (2, .int (nI r))]) (n := 129) hX dX8_step_127 rfl (by rw [hnL]; rfl) rfl ?_
    refine g_iload (n := 131) hX dX8_step_129 rfl rfl ?_
    refine g_iconst (n := 132) (v := 5) hX dX8_step_131 rfl rfl ?_
    refine g_icmp_eq (n := 135) (tgt := 142) hX dX8_step_132 rfl (by decide) (fun c132 => absurd c132 (by rw [e] <;> decide)) (fun c132 => ?_)
    refine g_iload (n := 137) hX dX8_step_135 rfl rfl ?_
    refine g_bipush (n := 139) (v := 6) hX dX8_step_137 rfl rfl ?_
    refine g_icmp_ne (n := 142) (tgt := 149) hX dX8_step_139 rfl (by decide) (fun c139 => ?_) (fun c139 => absurd c139 (by rw [e] <;> decide))
    refine g_iload (n := 151) hX dX8_step_149 rfl rfl ?_
    refine g_tableIn (n := 216) (off := 65) hX dX8_step_151 (by rw [e]; decide) (by rw [e]; decide) (by rw [e]; rfl) (by decide) ?_
    refine g_aload_n (n := 217) hX dX8_step_216 rfl rfl rfl ?_
    refine g_mget (n := 220) 24 (v := .ref (A 20)) hX hU dX8_step_217 rfl uf_X8_71 rfl rfl rfl ?_
    refine g_iload (n := 222) hX dX8_step_220 rfl rfl ?_
    refine g_iload (n := 224) hX dX8_step_222 rfl rfl ?_
    refine g_iadd (n := 225) (v := nI (wk u p aa)) hX dX8_step_224 rfl (nI_add _ _) ?_
    refine g_iload (n := 227) hX dX8_step_225 rfl rfl ?_
    refine g_i2b (n := 228) (v := b.toInt8.toInt32) hX dX8_step_227 rfl rfl ?_
    refine g_mbst (n := 229) 20 (i0 := wk u p aa) hX hY dX8_step_228 rfl rfl rfl (vp_in_nI (show wk u p aa < mN 20 by show wk u p aa < 12000; unfold wk; omega) (by decide)) (nI_clamp (by unfold wk; omega)) ?_
    refine g_iconst (n := 230) (v := 0) hX dX8_step_229 rfl rfl ?_
    exact g_iret hX hR dX8_step_230 (by unfold S_stepO; rw [if_pos e, hca]; (try rw [pk_vb]); exact ⟨rfl, rfl⟩)
  · obtain ⟨aa, rfl, haa⟩ := hv1 (Or.inr (Or.inr (Or.inr ⟨by rw [e]; decide, by rw [e]; decide⟩)))
    have hca : (nI aa).toNatClampNeg = aa := nI_clamp (by omega)
    obtain ⟨bb, rfl, hbb⟩ := hv2 ⟨by rw [e]; decide, by rw [e]; decide⟩
    have hcb : (nI bb).toNatClampNeg = bb := nI_clamp (by omega)
    refine g_aload_n (n := 1) hX dX8_step_0 rfl rfl rfl ?_
    refine g_mget (n := 4) 10 (v := .ref (A 6)) hX hU dX8_step_1 rfl uf_X8_29 rfl rfl rfl ?_
    refine g_iload_n (n := 5) hX dX8_step_4 rfl rfl rfl ?_
    refine g_mild (n := 6) 6 (v := nI u) hX hY dX8_step_5 rfl rfl rfl (vp_in_nI (show c < mN 6 by show c < 41; omega) (by decide)) (by rw [nI_clamp (by omega)]; exact huc) ?_
    refine g_istore_n (lv' := [(3, .int (nI u)), (0, .ref am), (1, .int (nI c)), (2, .int (nI r))]) (n := 7) hX dX8_step_6 rfl rfl (by rw [hnL]; rfl) rfl ?_
    refine g_aload_n (n := 8) hX dX8_step_7 rfl rfl rfl ?_
    refine g_mget (n := 11) 11 (v := .ref (A 7)) hX hU dX8_step_8 rfl uf_X8_32 rfl rfl rfl ?_
    refine g_iload_n (n := 12) hX dX8_step_11 rfl rfl rfl ?_
    refine g_mild (n := 13) 7 (v := nI p) hX hY dX8_step_12 rfl rfl rfl (vp_in_nI (show c < mN 7 by show c < 41; omega) (by decide)) (by rw [nI_clamp (by omega)]; exact hpc) ?_
    refine g_istore (lv' := [(4, .int (nI p)), (3, .int (nI u)), (0, .ref am), (1, .int (nI c)), (2, .int (nI r))]) (n := 15) hX dX8_step_13 rfl (by rw [hnL]; rfl) rfl ?_
    refine g_sipush (n := 18) (v := 1200) hX dX8_step_15 rfl rfl ?_
    refine g_iload_n (n := 19) hX dX8_step_18 rfl rfl rfl ?_
    refine g_imul (n := 20) (v := nI (1200 * u)) hX dX8_step_19 rfl (pk_mul (1200) (u)) ?_
    refine g_sipush (n := 23) (v := 1200) hX dX8_step_20 rfl rfl ?_
    refine g_isub (n := 24) (v := nI (1200 * u - 1200)) hX dX8_step_23 rfl (by rw [show (1200 : Int32) = nI 1200 from rfl, pk_sub (by omega)]) ?_
    refine g_bipush (n := 26) (v := 100) hX dX8_step_24 rfl rfl ?_
    refine g_iload (n := 28) hX dX8_step_26 rfl rfl ?_
    refine g_imul (n := 29) (v := nI (100 * p)) hX dX8_step_28 rfl (pk_mul (100) (p)) ?_
    refine g_iadd (n := 30) (v := nI (1200 * u - 1200 + 100 * p)) hX dX8_step_29 rfl (nI_add (1200 * u - 1200) (100 * p)) ?_
    refine g_bipush (n := 32) (v := 100) hX dX8_step_30 rfl rfl ?_
    refine g_isub (n := 33) (v := nI (1200 * u - 1200 + 100 * p - 100)) hX dX8_step_32 rfl (by rw [show (100 : Int32) = nI 100 from rfl, pk_sub (by omega)]) ?_
    refine g_istore (lv' := [(5, .int (nI (1200 * u - 1200 + 100 * p - 100))), (4, .int (nI p)), (3, .int (nI u)), (0, .ref am), (1, .int (nI c)), (2, .int (nI r))]) (n := 35) hX dX8_step_33 rfl (by rw [hnL]; rfl) rfl ?_
    refine g_bipush (n := 37) (v := 60) hX dX8_step_35 rfl rfl ?_
    refine g_iload (n := 39) hX dX8_step_37 rfl rfl ?_
    refine g_imul (n := 40) (v := nI (60 * p)) hX dX8_step_39 rfl (pk_mul (60) (p)) ?_
    refine g_iload_n (n := 41) hX dX8_step_40 rfl rfl rfl ?_
    refine g_iadd (n := 42) (v := nI (60 * p + r)) hX dX8_step_41 rfl (nI_add (60 * p) (r)) ?_
    refine g_istore (lv' := [(6, .int (nI (60 * p + r))), (5, .int (nI (1200 * u - 1200 + 100 * p - 100))), (4, .int (nI p)), (3, .int (nI u)), (0, .ref am), (1, .int (nI c)), (2, .int (nI r))]) (n := 44) hX dX8_step_42 rfl (by rw [hnL]; rfl) rfl ?_
    refine g_aload_n (n := 45) hX dX8_step_44 rfl rfl rfl ?_
    refine g_mget (n := 48) 7 (v := .ref (A 3)) hX hU dX8_step_45 rfl uf_X8_19 rfl rfl rfl ?_
    refine g_iload (n := 50) hX dX8_step_48 rfl rfl ?_
    refine g_mild (n := 51) 3 (v := nI aa) hX hY dX8_step_50 rfl rfl rfl (vp_in_nI (show 60 * p + r < mN 3 by show 60 * p + r < 793; omega) (by decide)) (by rw [nI_clamp (by omega)]; exact ea) ?_
    refine g_istore (lv' := [(7, .int (nI aa)), (6, .int (nI (60 * p + r))), (5, .int (nI (1200 * u - 1200 + 100 * p - 100))), (4, .int (nI p)), (3, .int (nI u)), (0, .ref am), (1, .int (nI c)), (2, .int (nI r))]) (n := 53) hX dX8_step_51 rfl (by rw [hnL]; rfl) rfl ?_
    refine g_aload_n (n := 54) hX dX8_step_53 rfl rfl rfl ?_
    refine g_mget (n := 57) 8 (v := .ref (A 4)) hX hU dX8_step_54 rfl uf_X8_22 rfl rfl rfl ?_
    refine g_iload (n := 59) hX dX8_step_57 rfl rfl ?_
    refine g_mild (n := 60) 4 (v := nI bb) hX hY dX8_step_59 rfl rfl rfl (vp_in_nI (show 60 * p + r < mN 4 by show 60 * p + r < 793; omega) (by decide)) (by rw [nI_clamp (by omega)]; exact eb) ?_
    refine g_istore (lv' := [(8, .int (nI bb)), (7, .int (nI aa)), (6, .int (nI (60 * p + r))), (5, .int (nI (1200 * u - 1200 + 100 * p - 100))), (4, .int (nI p)), (3, .int (nI u)), (0, .ref am), (1, .int (nI c)), (2, .int (nI r))]) (n := 62) hX dX8_step_60 rfl (by rw [hnL]; rfl) rfl ?_
    refine g_aload_n (n := 63) hX dX8_step_62 rfl rfl rfl ?_
    refine g_mget (n := 66) 6 (v := .ref (A 2)) hX hU dX8_step_63 rfl uf_X8_16 rfl rfl rfl ?_
    refine g_iload (n := 68) hX dX8_step_66 rfl rfl ?_
    refine g_mild (n := 69) 2 (v := o) hX hY dX8_step_68 rfl rfl rfl (vp_in_nI (show 60 * p + r < mN 2 by show 60 * p + r < 793; omega) (by decide)) (by rw [nI_clamp (by omega)]; exact eo) ?_
    refine g_istore (lv' := [(9, .int o), (8, .int (nI bb)), (7, .int (nI aa)), (6, .int (nI (60 * p + r))), (5, .int (nI (1200 * u - 1200 + 100 * p - 100))), (4, .int (nI p)), (3, .int (nI u)), (0, .ref am), (1, .int (nI c)), (2, .int (nI r))]) (n := 71) hX dX8_step_69 rfl (by rw [hnL]; rfl) rfl ?_
    refine g_iload (n := 73) hX dX8_step_71 rfl rfl ?_
    refine g_bipush (n := 75) (v := 9) hX dX8_step_73 rfl rfl ?_
    refine g_icmp_lt (n := 78) (tgt := 85) hX dX8_step_75 rfl (by decide) (fun c75 => ?_) (fun c75 => absurd (by rw [e] <;> decide) c75)
    refine g_aload_n (n := 86) hX dX8_step_85 rfl rfl rfl ?_
    refine g_mget (n := 89) 24 (v := .ref (A 20)) hX hU dX8_step_86 rfl uf_X8_71 rfl rfl rfl ?_
    refine g_iload (n := 91) hX dX8_step_89 rfl rfl ?_
    refine g_iload (n := 93) hX dX8_step_91 rfl rfl ?_
    refine g_iadd (n := 94) (v := nI (wk u p aa)) hX dX8_step_93 rfl (nI_add _ _) ?_
    refine g_mbld (n := 95) 20 (v := σ.1 20 (wk u p aa)) hX hY dX8_step_94 rfl rfl rfl (vp_in_nI (show wk u p aa < mN 20 by show wk u p aa < 12000; unfold wk; omega) (by decide)) (by rw [nI_clamp (by unfold wk; omega)]) ?_
    refine g_goto (n := 99) hX dX8_step_95 (by decide) ?_
    refine g_istore (lv' := [(10, .int (σ.1 20 (wk u p aa))), (9, .int o), (8, .int (nI bb)), (7, .int (nI aa)), (6, .int (nI (60 * p + r))), (5, .int (nI (1200 * u - 1200 + 100 * p - 100))), (4, .int (nI p)), (3, .int (nI u)), (0, .ref am), (1, .int (nI c)), (2, .int (nI r))]) (n := 101) hX dX8_step_99 rfl (by rw [hnL]; rfl) rfl ?_
    refine g_iload (n := 103) hX dX8_step_101 rfl rfl ?_
    refine g_if_le (n := 106) (tgt := 126) hX dX8_step_103 rfl (by decide) (fun c103 => absurd c103 (by rw [e] <;> decide)) (fun c103 => ?_)
    refine g_iload (n := 108) hX dX8_step_106 rfl rfl ?_
    refine g_bipush (n := 110) (v := 8) hX dX8_step_108 rfl rfl ?_
    refine g_icmp_ge (n := 113) (tgt := 126) hX dX8_step_110 rfl (by decide) (fun c110 => absurd c110 (by rw [e] <;> decide)) (fun c110 => ?_)
    refine g_aload_n (n := 114) hX dX8_step_113 rfl rfl rfl ?_
    refine g_mget (n := 117) 24 (v := .ref (A 20)) hX hU dX8_step_114 rfl uf_X8_71 rfl rfl rfl ?_
    refine g_iload (n := 119) hX dX8_step_117 rfl rfl ?_
    refine g_iload (n := 121) hX dX8_step_119 rfl rfl ?_
    refine g_iadd (n := 122) (v := nI (wk u p bb)) hX dX8_step_121 rfl (nI_add _ _) ?_
    refine g_mbld (n := 123) 20 (v := σ.1 20 (wk u p bb)) hX hY dX8_step_122 rfl rfl rfl (vp_in_nI (show wk u p bb < mN 20 by show wk u p bb < 12000; unfold wk; omega) (by decide)) (by rw [nI_clamp (by unfold wk; omega)]) ?_
    refine g_goto (n := 127) hX dX8_step_123 (by decide) ?_
    refine g_istore (lv' := [(11, .int (σ.1 20 (wk u p bb))), (10, .int (σ.1 20 (wk u p aa))), (9, .int o), (8, .int (nI bb)), (7, .int (nI aa)), (6, .int (nI (60 * p + r))), (5, .int (nI (1200 * u - 1200 + 100 * p - 100))), (4, .int (nI p)), (3, .int (nI u)), (0, .ref am), (1, .int (nI c)), (2, .int (nI r))]) (n := 129) hX dX8_step_127 rfl (by rw [hnL]; rfl) rfl ?_
    refine g_iload (n := 131) hX dX8_step_129 rfl rfl ?_
    refine g_iconst (n := 132) (v := 5) hX dX8_step_131 rfl rfl ?_
    refine g_icmp_eq (n := 135) (tgt := 142) hX dX8_step_132 rfl (by decide) (fun c132 => absurd c132 (by rw [e] <;> decide)) (fun c132 => ?_)
    refine g_iload (n := 137) hX dX8_step_135 rfl rfl ?_
    refine g_bipush (n := 139) (v := 6) hX dX8_step_137 rfl rfl ?_
    refine g_icmp_ne (n := 142) (tgt := 149) hX dX8_step_139 rfl (by decide) (fun c139 => ?_) (fun c139 => absurd c139 (by rw [e] <;> decide))
    refine g_iload (n := 151) hX dX8_step_149 rfl rfl ?_
    refine g_tableIn (n := 231) (off := 80) hX dX8_step_151 (by rw [e]; decide) (by rw [e]; decide) (by rw [e]; rfl) (by decide) ?_
    refine g_aload_n (n := 232) hX dX8_step_231 rfl rfl rfl ?_
    refine g_mget (n := 235) 24 (v := .ref (A 20)) hX hU dX8_step_232 rfl uf_X8_71 rfl rfl rfl ?_
    refine g_iload (n := 237) hX dX8_step_235 rfl rfl ?_
    refine g_iload (n := 239) hX dX8_step_237 rfl rfl ?_
    refine g_iadd (n := 240) (v := nI (wk u p aa)) hX dX8_step_239 rfl (nI_add _ _) ?_
    refine g_iload (n := 242) hX dX8_step_240 rfl rfl ?_
    refine g_i2b (n := 243) (v := (σ.1 20 (wk u p bb)).toInt8.toInt32) hX dX8_step_242 rfl rfl ?_
    refine g_mbst (n := 244) 20 (i0 := wk u p aa) hX hY dX8_step_243 rfl rfl rfl (vp_in_nI (show wk u p aa < mN 20 by show wk u p aa < 12000; unfold wk; omega) (by decide)) (nI_clamp (by unfold wk; omega)) ?_
    refine g_iconst (n := 245) (v := 0) hX dX8_step_244 rfl rfl ?_
    exact g_iret hX hR dX8_step_245 (by unfold S_stepO; rw [if_neg (by rw [e]; decide), if_pos e, hca, hcb]; (try rw [pk_vb]); exact ⟨rfl, rfl⟩)
  · obtain ⟨aa, rfl, haa⟩ := hv1 (Or.inr (Or.inr (Or.inr ⟨by rw [e]; decide, by rw [e]; decide⟩)))
    have hca : (nI aa).toNatClampNeg = aa := nI_clamp (by omega)
    obtain ⟨bb, rfl, hbb⟩ := hv2 ⟨by rw [e]; decide, by rw [e]; decide⟩
    have hcb : (nI bb).toNatClampNeg = bb := nI_clamp (by omega)
    refine g_aload_n (n := 1) hX dX8_step_0 rfl rfl rfl ?_
    refine g_mget (n := 4) 10 (v := .ref (A 6)) hX hU dX8_step_1 rfl uf_X8_29 rfl rfl rfl ?_
    refine g_iload_n (n := 5) hX dX8_step_4 rfl rfl rfl ?_
    refine g_mild (n := 6) 6 (v := nI u) hX hY dX8_step_5 rfl rfl rfl (vp_in_nI (show c < mN 6 by show c < 41; omega) (by decide)) (by rw [nI_clamp (by omega)]; exact huc) ?_
    refine g_istore_n (lv' := [(3, .int (nI u)), (0, .ref am), (1, .int (nI c)), (2, .int (nI r))]) (n := 7) hX dX8_step_6 rfl rfl (by rw [hnL]; rfl) rfl ?_
    refine g_aload_n (n := 8) hX dX8_step_7 rfl rfl rfl ?_
    refine g_mget (n := 11) 11 (v := .ref (A 7)) hX hU dX8_step_8 rfl uf_X8_32 rfl rfl rfl ?_
    refine g_iload_n (n := 12) hX dX8_step_11 rfl rfl rfl ?_
    refine g_mild (n := 13) 7 (v := nI p) hX hY dX8_step_12 rfl rfl rfl (vp_in_nI (show c < mN 7 by show c < 41; omega) (by decide)) (by rw [nI_clamp (by omega)]; exact hpc) ?_
    refine g_istore (lv' := [(4, .int (nI p)), (3, .int (nI u)), (0, .ref am), (1, .int (nI c)), (2, .int (nI r))]) (n := 15) hX dX8_step_13 rfl (by rw [hnL]; rfl) rfl ?_
    refine g_sipush (n := 18) (v := 1200) hX dX8_step_15 rfl rfl ?_
    refine g_iload_n (n := 19) hX dX8_step_18 rfl rfl rfl ?_
    refine g_imul (n := 20) (v := nI (1200 * u)) hX dX8_step_19 rfl (pk_mul (1200) (u)) ?_
    refine g_sipush (n := 23) (v := 1200) hX dX8_step_20 rfl rfl ?_
    refine g_isub (n := 24) (v := nI (1200 * u - 1200)) hX dX8_step_23 rfl (by rw [show (1200 : Int32) = nI 1200 from rfl, pk_sub (by omega)]) ?_
    refine g_bipush (n := 26) (v := 100) hX dX8_step_24 rfl rfl ?_
    refine g_iload (n := 28) hX dX8_step_26 rfl rfl ?_
    refine g_imul (n := 29) (v := nI (100 * p)) hX dX8_step_28 rfl (pk_mul (100) (p)) ?_
    refine g_iadd (n := 30) (v := nI (1200 * u - 1200 + 100 * p)) hX dX8_step_29 rfl (nI_add (1200 * u - 1200) (100 * p)) ?_
    refine g_bipush (n := 32) (v := 100) hX dX8_step_30 rfl rfl ?_
    refine g_isub (n := 33) (v := nI (1200 * u - 1200 + 100 * p - 100)) hX dX8_step_32 rfl (by rw [show (100 : Int32) = nI 100 from rfl, pk_sub (by omega)]) ?_
    refine g_istore (lv' := [(5, .int (nI (1200 * u - 1200 + 100 * p - 100))), (4, .int (nI p)), (3, .int (nI u)), (0, .ref am), (1, .int (nI c)), (2, .int (nI r))]) (n := 35) hX dX8_step_33 rfl (by rw [hnL]; rfl) rfl ?_
    refine g_bipush (n := 37) (v := 60) hX dX8_step_35 rfl rfl ?_
    refine g_iload (n := 39) hX dX8_step_37 rfl rfl ?_
    refine g_imul (n := 40) (v := nI (60 * p)) hX dX8_step_39 rfl (pk_mul (60) (p)) ?_
    refine g_iload_n (n := 41) hX dX8_step_40 rfl rfl rfl ?_
    refine g_iadd (n := 42) (v := nI (60 * p + r)) hX dX8_step_41 rfl (nI_add (60 * p) (r)) ?_
    refine g_istore (lv' := [(6, .int (nI (60 * p + r))), (5, .int (nI (1200 * u - 1200 + 100 * p - 100))), (4, .int (nI p)), (3, .int (nI u)), (0, .ref am), (1, .int (nI c)), (2, .int (nI r))]) (n := 44) hX dX8_step_42 rfl (by rw [hnL]; rfl) rfl ?_
    refine g_aload_n (n := 45) hX dX8_step_44 rfl rfl rfl ?_
    refine g_mget (n := 48) 7 (v := .ref (A 3)) hX hU dX8_step_45 rfl uf_X8_19 rfl rfl rfl ?_
    refine g_iload (n := 50) hX dX8_step_48 rfl rfl ?_
    refine g_mild (n := 51) 3 (v := nI aa) hX hY dX8_step_50 rfl rfl rfl (vp_in_nI (show 60 * p + r < mN 3 by show 60 * p + r < 793; omega) (by decide)) (by rw [nI_clamp (by omega)]; exact ea) ?_
    refine g_istore (lv' := [(7, .int (nI aa)), (6, .int (nI (60 * p + r))), (5, .int (nI (1200 * u - 1200 + 100 * p - 100))), (4, .int (nI p)), (3, .int (nI u)), (0, .ref am), (1, .int (nI c)), (2, .int (nI r))]) (n := 53) hX dX8_step_51 rfl (by rw [hnL]; rfl) rfl ?_
    refine g_aload_n (n := 54) hX dX8_step_53 rfl rfl rfl ?_
    refine g_mget (n := 57) 8 (v := .ref (A 4)) hX hU dX8_step_54 rfl uf_X8_22 rfl rfl rfl ?_
    refine g_iload (n := 59) hX dX8_step_57 rfl rfl ?_
    refine g_mild (n := 60) 4 (v := nI bb) hX hY dX8_step_59 rfl rfl rfl (vp_in_nI (show 60 * p + r < mN 4 by show 60 * p + r < 793; omega) (by decide)) (by rw [nI_clamp (by omega)]; exact eb) ?_
    refine g_istore (lv' := [(8, .int (nI bb)), (7, .int (nI aa)), (6, .int (nI (60 * p + r))), (5, .int (nI (1200 * u - 1200 + 100 * p - 100))), (4, .int (nI p)), (3, .int (nI u)), (0, .ref am), (1, .int (nI c)), (2, .int (nI r))]) (n := 62) hX dX8_step_60 rfl (by rw [hnL]; rfl) rfl ?_
    refine g_aload_n (n := 63) hX dX8_step_62 rfl rfl rfl ?_
    refine g_mget (n := 66) 6 (v := .ref (A 2)) hX hU dX8_step_63 rfl uf_X8_16 rfl rfl rfl ?_
    refine g_iload (n := 68) hX dX8_step_66 rfl rfl ?_
    refine g_mild (n := 69) 2 (v := o) hX hY dX8_step_68 rfl rfl rfl (vp_in_nI (show 60 * p + r < mN 2 by show 60 * p + r < 793; omega) (by decide)) (by rw [nI_clamp (by omega)]; exact eo) ?_
    refine g_istore (lv' := [(9, .int o), (8, .int (nI bb)), (7, .int (nI aa)), (6, .int (nI (60 * p + r))), (5, .int (nI (1200 * u - 1200 + 100 * p - 100))), (4, .int (nI p)), (3, .int (nI u)), (0, .ref am), (1, .int (nI c)), (2, .int (nI r))]) (n := 71) hX dX8_step_69 rfl (by rw [hnL]; rfl) rfl ?_
    refine g_iload (n := 73) hX dX8_step_71 rfl rfl ?_
    refine g_bipush (n := 75) (v := 9) hX dX8_step_73 rfl rfl ?_
    refine g_icmp_lt (n := 78) (tgt := 85) hX dX8_step_75 rfl (by decide) (fun c75 => ?_) (fun c75 => absurd (by rw [e] <;> decide) c75)
    refine g_aload_n (n := 86) hX dX8_step_85 rfl rfl rfl ?_
    refine g_mget (n := 89) 24 (v := .ref (A 20)) hX hU dX8_step_86 rfl uf_X8_71 rfl rfl rfl ?_
    refine g_iload (n := 91) hX dX8_step_89 rfl rfl ?_
    refine g_iload (n := 93) hX dX8_step_91 rfl rfl ?_
    refine g_iadd (n := 94) (v := nI (wk u p aa)) hX dX8_step_93 rfl (nI_add _ _) ?_
    refine g_mbld (n := 95) 20 (v := σ.1 20 (wk u p aa)) hX hY dX8_step_94 rfl rfl rfl (vp_in_nI (show wk u p aa < mN 20 by show wk u p aa < 12000; unfold wk; omega) (by decide)) (by rw [nI_clamp (by unfold wk; omega)]) ?_
    refine g_goto (n := 99) hX dX8_step_95 (by decide) ?_
    refine g_istore (lv' := [(10, .int (σ.1 20 (wk u p aa))), (9, .int o), (8, .int (nI bb)), (7, .int (nI aa)), (6, .int (nI (60 * p + r))), (5, .int (nI (1200 * u - 1200 + 100 * p - 100))), (4, .int (nI p)), (3, .int (nI u)), (0, .ref am), (1, .int (nI c)), (2, .int (nI r))]) (n := 101) hX dX8_step_99 rfl (by rw [hnL]; rfl) rfl ?_
    refine g_iload (n := 103) hX dX8_step_101 rfl rfl ?_
    refine g_if_le (n := 106) (tgt := 126) hX dX8_step_103 rfl (by decide) (fun c103 => absurd c103 (by rw [e] <;> decide)) (fun c103 => ?_)
    refine g_iload (n := 108) hX dX8_step_106 rfl rfl ?_
    refine g_bipush (n := 110) (v := 8) hX dX8_step_108 rfl rfl ?_
    refine g_icmp_ge (n := 113) (tgt := 126) hX dX8_step_110 rfl (by decide) (fun c110 => absurd c110 (by rw [e] <;> decide)) (fun c110 => ?_)
    refine g_aload_n (n := 114) hX dX8_step_113 rfl rfl rfl ?_
    refine g_mget (n := 117) 24 (v := .ref (A 20)) hX hU dX8_step_114 rfl uf_X8_71 rfl rfl rfl ?_
    refine g_iload (n := 119) hX dX8_step_117 rfl rfl ?_
    refine g_iload (n := 121) hX dX8_step_119 rfl rfl ?_
    refine g_iadd (n := 122) (v := nI (wk u p bb)) hX dX8_step_121 rfl (nI_add _ _) ?_
    refine g_mbld (n := 123) 20 (v := σ.1 20 (wk u p bb)) hX hY dX8_step_122 rfl rfl rfl (vp_in_nI (show wk u p bb < mN 20 by show wk u p bb < 12000; unfold wk; omega) (by decide)) (by rw [nI_clamp (by unfold wk; omega)]) ?_
    refine g_goto (n := 127) hX dX8_step_123 (by decide) ?_
    refine g_istore (lv' := [(11, .int (σ.1 20 (wk u p bb))), (10, .int (σ.1 20 (wk u p aa))), (9, .int o), (8, .int (nI bb)), (7, .int (nI aa)), (6, .int (nI (60 * p + r))), (5, .int (nI (1200 * u - 1200 + 100 * p - 100))), (4, .int (nI p)), (3, .int (nI u)), (0, .ref am), (1, .int (nI c)), (2, .int (nI r))]) (n := 129) hX dX8_step_127 rfl (by rw [hnL]; rfl) rfl ?_
    refine g_iload (n := 131) hX dX8_step_129 rfl rfl ?_
    refine g_iconst (n := 132) (v := 5) hX dX8_step_131 rfl rfl ?_
    refine g_icmp_eq (n := 135) (tgt := 142) hX dX8_step_132 rfl (by decide) (fun c132 => absurd c132 (by rw [e] <;> decide)) (fun c132 => ?_)
    refine g_iload (n := 137) hX dX8_step_135 rfl rfl ?_
    refine g_bipush (n := 139) (v := 6) hX dX8_step_137 rfl rfl ?_
    refine g_icmp_ne (n := 142) (tgt := 149) hX dX8_step_139 rfl (by decide) (fun c139 => ?_) (fun c139 => absurd c139 (by rw [e] <;> decide))
    refine g_iload (n := 151) hX dX8_step_149 rfl rfl ?_
    refine g_tableIn (n := 246) (off := 95) hX dX8_step_151 (by rw [e]; decide) (by rw [e]; decide) (by rw [e]; rfl) (by decide) ?_
    refine g_aload_n (n := 247) hX dX8_step_246 rfl rfl rfl ?_
    refine g_mget (n := 250) 24 (v := .ref (A 20)) hX hU dX8_step_247 rfl uf_X8_71 rfl rfl rfl ?_
    refine g_iload (n := 252) hX dX8_step_250 rfl rfl ?_
    refine g_iload (n := 254) hX dX8_step_252 rfl rfl ?_
    refine g_iadd (n := 255) (v := nI (wk u p aa)) hX dX8_step_254 rfl (nI_add _ _) ?_
    refine g_iload (n := 257) hX dX8_step_255 rfl rfl ?_
    refine g_iload (n := 259) hX dX8_step_257 rfl rfl ?_
    refine g_iadd (n := 260) (v := (σ.1 20 (wk u p aa)) + (σ.1 20 (wk u p bb))) hX dX8_step_259 rfl rfl ?_
    refine g_i2b (n := 261) (v := ((σ.1 20 (wk u p aa)) + (σ.1 20 (wk u p bb))).toInt8.toInt32) hX dX8_step_260 rfl rfl ?_
    refine g_mbst (n := 262) 20 (i0 := wk u p aa) hX hY dX8_step_261 rfl rfl rfl (vp_in_nI (show wk u p aa < mN 20 by show wk u p aa < 12000; unfold wk; omega) (by decide)) (nI_clamp (by unfold wk; omega)) ?_
    refine g_iconst (n := 263) (v := 0) hX dX8_step_262 rfl rfl ?_
    exact g_iret hX hR dX8_step_263 (by unfold S_stepO; rw [if_neg (by rw [e]; decide), if_neg (by rw [e]; decide), if_pos e, hca, hcb]; (try rw [pk_vb]); exact ⟨rfl, rfl⟩)
  · obtain ⟨aa, rfl, haa⟩ := hv1 (Or.inr (Or.inr (Or.inr ⟨by rw [e]; decide, by rw [e]; decide⟩)))
    have hca : (nI aa).toNatClampNeg = aa := nI_clamp (by omega)
    obtain ⟨bb, rfl, hbb⟩ := hv2 ⟨by rw [e]; decide, by rw [e]; decide⟩
    have hcb : (nI bb).toNatClampNeg = bb := nI_clamp (by omega)
    refine g_aload_n (n := 1) hX dX8_step_0 rfl rfl rfl ?_
    refine g_mget (n := 4) 10 (v := .ref (A 6)) hX hU dX8_step_1 rfl uf_X8_29 rfl rfl rfl ?_
    refine g_iload_n (n := 5) hX dX8_step_4 rfl rfl rfl ?_
    refine g_mild (n := 6) 6 (v := nI u) hX hY dX8_step_5 rfl rfl rfl (vp_in_nI (show c < mN 6 by show c < 41; omega) (by decide)) (by rw [nI_clamp (by omega)]; exact huc) ?_
    refine g_istore_n (lv' := [(3, .int (nI u)), (0, .ref am), (1, .int (nI c)), (2, .int (nI r))]) (n := 7) hX dX8_step_6 rfl rfl (by rw [hnL]; rfl) rfl ?_
    refine g_aload_n (n := 8) hX dX8_step_7 rfl rfl rfl ?_
    refine g_mget (n := 11) 11 (v := .ref (A 7)) hX hU dX8_step_8 rfl uf_X8_32 rfl rfl rfl ?_
    refine g_iload_n (n := 12) hX dX8_step_11 rfl rfl rfl ?_
    refine g_mild (n := 13) 7 (v := nI p) hX hY dX8_step_12 rfl rfl rfl (vp_in_nI (show c < mN 7 by show c < 41; omega) (by decide)) (by rw [nI_clamp (by omega)]; exact hpc) ?_
    refine g_istore (lv' := [(4, .int (nI p)), (3, .int (nI u)), (0, .ref am), (1, .int (nI c)), (2, .int (nI r))]) (n := 15) hX dX8_step_13 rfl (by rw [hnL]; rfl) rfl ?_
    refine g_sipush (n := 18) (v := 1200) hX dX8_step_15 rfl rfl ?_
    refine g_iload_n (n := 19) hX dX8_step_18 rfl rfl rfl ?_
    refine g_imul (n := 20) (v := nI (1200 * u)) hX dX8_step_19 rfl (pk_mul (1200) (u)) ?_
    refine g_sipush (n := 23) (v := 1200) hX dX8_step_20 rfl rfl ?_
    refine g_isub (n := 24) (v := nI (1200 * u - 1200)) hX dX8_step_23 rfl (by rw [show (1200 : Int32) = nI 1200 from rfl, pk_sub (by omega)]) ?_
    refine g_bipush (n := 26) (v := 100) hX dX8_step_24 rfl rfl ?_
    refine g_iload (n := 28) hX dX8_step_26 rfl rfl ?_
    refine g_imul (n := 29) (v := nI (100 * p)) hX dX8_step_28 rfl (pk_mul (100) (p)) ?_
    refine g_iadd (n := 30) (v := nI (1200 * u - 1200 + 100 * p)) hX dX8_step_29 rfl (nI_add (1200 * u - 1200) (100 * p)) ?_
    refine g_bipush (n := 32) (v := 100) hX dX8_step_30 rfl rfl ?_
    refine g_isub (n := 33) (v := nI (1200 * u - 1200 + 100 * p - 100)) hX dX8_step_32 rfl (by rw [show (100 : Int32) = nI 100 from rfl, pk_sub (by omega)]) ?_
    refine g_istore (lv' := [(5, .int (nI (1200 * u - 1200 + 100 * p - 100))), (4, .int (nI p)), (3, .int (nI u)), (0, .ref am), (1, .int (nI c)), (2, .int (nI r))]) (n := 35) hX dX8_step_33 rfl (by rw [hnL]; rfl) rfl ?_
    refine g_bipush (n := 37) (v := 60) hX dX8_step_35 rfl rfl ?_
    refine g_iload (n := 39) hX dX8_step_37 rfl rfl ?_
    refine g_imul (n := 40) (v := nI (60 * p)) hX dX8_step_39 rfl (pk_mul (60) (p)) ?_
    refine g_iload_n (n := 41) hX dX8_step_40 rfl rfl rfl ?_
    refine g_iadd (n := 42) (v := nI (60 * p + r)) hX dX8_step_41 rfl (nI_add (60 * p) (r)) ?_
    refine g_istore (lv' := [(6, .int (nI (60 * p + r))), (5, .int (nI (1200 * u - 1200 + 100 * p - 100))), (4, .int (nI p)), (3, .int (nI u)), (0, .ref am), (1, .int (nI c)), (2, .int (nI r))]) (n := 44) hX dX8_step_42 rfl (by rw [hnL]; rfl) rfl ?_
    refine g_aload_n (n := 45) hX dX8_step_44 rfl rfl rfl ?_
    refine g_mget (n := 48) 7 (v := .ref (A 3)) hX hU dX8_step_45 rfl uf_X8_19 rfl rfl rfl ?_
    refine g_iload (n := 50) hX dX8_step_48 rfl rfl ?_
    refine g_mild (n := 51) 3 (v := nI aa) hX hY dX8_step_50 rfl rfl rfl (vp_in_nI (show 60 * p + r < mN 3 by show 60 * p + r < 793; omega) (by decide)) (by rw [nI_clamp (by omega)]; exact ea) ?_
    refine g_istore (lv' := [(7, .int (nI aa)), (6, .int (nI (60 * p + r))), (5, .int (nI (1200 * u - 1200 + 100 * p - 100))), (4, .int (nI p)), (3, .int (nI u)), (0, .ref am), (1, .int (nI c)), (2, .int (nI r))]) (n := 53) hX dX8_step_51 rfl (by rw [hnL]; rfl) rfl ?_
    refine g_aload_n (n := 54) hX dX8_step_53 rfl rfl rfl ?_
    refine g_mget (n := 57) 8 (v := .ref (A 4)) hX hU dX8_step_54 rfl uf_X8_22 rfl rfl rfl ?_
    refine g_iload (n := 59) hX dX8_step_57 rfl rfl ?_
    refine g_mild (n := 60) 4 (v := nI bb) hX hY dX8_step_59 rfl rfl rfl (vp_in_nI (show 60 * p + r < mN 4 by show 60 * p + r < 793; omega) (by decide)) (by rw [nI_clamp (by omega)]; exact eb) ?_
    refine g_istore (lv' := [(8, .int (nI bb)), (7, .int (nI aa)), (6, .int (nI (60 * p + r))), (5, .int (nI (1200 * u - 1200 + 100 * p - 100))), (4, .int (nI p)), (3, .int (nI u)), (0, .ref am), (1, .int (nI c)), (2, .int (nI r))]) (n := 62) hX dX8_step_60 rfl (by rw [hnL]; rfl) rfl ?_
    refine g_aload_n (n := 63) hX dX8_step_62 rfl rfl rfl ?_
    refine g_mget (n := 66) 6 (v := .ref (A 2)) hX hU dX8_step_63 rfl uf_X8_16 rfl rfl rfl ?_
    refine g_iload (n := 68) hX dX8_step_66 rfl rfl ?_
    refine g_mild (n := 69) 2 (v := o) hX hY dX8_step_68 rfl rfl rfl (vp_in_nI (show 60 * p + r < mN 2 by show 60 * p + r < 793; omega) (by decide)) (by rw [nI_clamp (by omega)]; exact eo) ?_
    refine g_istore (lv' := [(9, .int o), (8, .int (nI bb)), (7, .int (nI aa)), (6, .int (nI (60 * p + r))), (5, .int (nI (1200 * u - 1200 + 100 * p - 100))), (4, .int (nI p)), (3, .int (nI u)), (0, .ref am), (1, .int (nI c)), (2, .int (nI r))]) (n := 71) hX dX8_step_69 rfl (by rw [hnL]; rfl) rfl ?_
    refine g_iload (n := 73) hX dX8_step_71 rfl rfl ?_
    refine g_bipush (n := 75) (v := 9) hX dX8_step_73 rfl rfl ?_
    refine g_icmp_lt (n := 78) (tgt := 85) hX dX8_step_75 rfl (by decide) (fun c75 => ?_) (fun c75 => absurd (by rw [e] <;> decide) c75)
    refine g_aload_n (n := 86) hX dX8_step_85 rfl rfl rfl ?_
    refine g_mget (n := 89) 24 (v := .ref (A 20)) hX hU dX8_step_86 rfl uf_X8_71 rfl rfl rfl ?_
    refine g_iload (n := 91) hX dX8_step_89 rfl rfl ?_
    refine g_iload (n := 93) hX dX8_step_91 rfl rfl ?_
    refine g_iadd (n := 94) (v := nI (wk u p aa)) hX dX8_step_93 rfl (nI_add _ _) ?_
    refine g_mbld (n := 95) 20 (v := σ.1 20 (wk u p aa)) hX hY dX8_step_94 rfl rfl rfl (vp_in_nI (show wk u p aa < mN 20 by show wk u p aa < 12000; unfold wk; omega) (by decide)) (by rw [nI_clamp (by unfold wk; omega)]) ?_
    refine g_goto (n := 99) hX dX8_step_95 (by decide) ?_
    refine g_istore (lv' := [(10, .int (σ.1 20 (wk u p aa))), (9, .int o), (8, .int (nI bb)), (7, .int (nI aa)), (6, .int (nI (60 * p + r))), (5, .int (nI (1200 * u - 1200 + 100 * p - 100))), (4, .int (nI p)), (3, .int (nI u)), (0, .ref am), (1, .int (nI c)), (2, .int (nI r))]) (n := 101) hX dX8_step_99 rfl (by rw [hnL]; rfl) rfl ?_
    refine g_iload (n := 103) hX dX8_step_101 rfl rfl ?_
    refine g_if_le (n := 106) (tgt := 126) hX dX8_step_103 rfl (by decide) (fun c103 => absurd c103 (by rw [e] <;> decide)) (fun c103 => ?_)
    refine g_iload (n := 108) hX dX8_step_106 rfl rfl ?_
    refine g_bipush (n := 110) (v := 8) hX dX8_step_108 rfl rfl ?_
    refine g_icmp_ge (n := 113) (tgt := 126) hX dX8_step_110 rfl (by decide) (fun c110 => absurd c110 (by rw [e] <;> decide)) (fun c110 => ?_)
    refine g_aload_n (n := 114) hX dX8_step_113 rfl rfl rfl ?_
    refine g_mget (n := 117) 24 (v := .ref (A 20)) hX hU dX8_step_114 rfl uf_X8_71 rfl rfl rfl ?_
    refine g_iload (n := 119) hX dX8_step_117 rfl rfl ?_
    refine g_iload (n := 121) hX dX8_step_119 rfl rfl ?_
    refine g_iadd (n := 122) (v := nI (wk u p bb)) hX dX8_step_121 rfl (nI_add _ _) ?_
    refine g_mbld (n := 123) 20 (v := σ.1 20 (wk u p bb)) hX hY dX8_step_122 rfl rfl rfl (vp_in_nI (show wk u p bb < mN 20 by show wk u p bb < 12000; unfold wk; omega) (by decide)) (by rw [nI_clamp (by unfold wk; omega)]) ?_
    refine g_goto (n := 127) hX dX8_step_123 (by decide) ?_
    refine g_istore (lv' := [(11, .int (σ.1 20 (wk u p bb))), (10, .int (σ.1 20 (wk u p aa))), (9, .int o), (8, .int (nI bb)), (7, .int (nI aa)), (6, .int (nI (60 * p + r))), (5, .int (nI (1200 * u - 1200 + 100 * p - 100))), (4, .int (nI p)), (3, .int (nI u)), (0, .ref am), (1, .int (nI c)), (2, .int (nI r))]) (n := 129) hX dX8_step_127 rfl (by rw [hnL]; rfl) rfl ?_
    refine g_iload (n := 131) hX dX8_step_129 rfl rfl ?_
    refine g_iconst (n := 132) (v := 5) hX dX8_step_131 rfl rfl ?_
    refine g_icmp_eq (n := 135) (tgt := 142) hX dX8_step_132 rfl (by decide) (fun c132 => absurd c132 (by rw [e] <;> decide)) (fun c132 => ?_)
    refine g_iload (n := 137) hX dX8_step_135 rfl rfl ?_
    refine g_bipush (n := 139) (v := 6) hX dX8_step_137 rfl rfl ?_
    refine g_icmp_ne (n := 142) (tgt := 149) hX dX8_step_139 rfl (by decide) (fun c139 => ?_) (fun c139 => absurd c139 (by rw [e] <;> decide))
    refine g_iload (n := 151) hX dX8_step_149 rfl rfl ?_
    refine g_tableIn (n := 264) (off := 113) hX dX8_step_151 (by rw [e]; decide) (by rw [e]; decide) (by rw [e]; rfl) (by decide) ?_
    refine g_aload_n (n := 265) hX dX8_step_264 rfl rfl rfl ?_
    refine g_mget (n := 268) 24 (v := .ref (A 20)) hX hU dX8_step_265 rfl uf_X8_71 rfl rfl rfl ?_
    refine g_iload (n := 270) hX dX8_step_268 rfl rfl ?_
    refine g_iload (n := 272) hX dX8_step_270 rfl rfl ?_
    refine g_iadd (n := 273) (v := nI (wk u p aa)) hX dX8_step_272 rfl (nI_add _ _) ?_
    refine g_iload (n := 275) hX dX8_step_273 rfl rfl ?_
    refine g_iload (n := 277) hX dX8_step_275 rfl rfl ?_
    refine g_isub (n := 278) (v := (σ.1 20 (wk u p aa)) - (σ.1 20 (wk u p bb))) hX dX8_step_277 rfl rfl ?_
    refine g_i2b (n := 279) (v := ((σ.1 20 (wk u p aa)) - (σ.1 20 (wk u p bb))).toInt8.toInt32) hX dX8_step_278 rfl rfl ?_
    refine g_mbst (n := 280) 20 (i0 := wk u p aa) hX hY dX8_step_279 rfl rfl rfl (vp_in_nI (show wk u p aa < mN 20 by show wk u p aa < 12000; unfold wk; omega) (by decide)) (nI_clamp (by unfold wk; omega)) ?_
    refine g_iconst (n := 281) (v := 0) hX dX8_step_280 rfl rfl ?_
    exact g_iret hX hR dX8_step_281 (by unfold S_stepO; rw [if_neg (by rw [e]; decide), if_neg (by rw [e]; decide), if_neg (by rw [e]; decide), if_pos e, hca, hcb]; (try rw [pk_vb]); exact ⟨rfl, rfl⟩)
  · obtain ⟨aa, rfl, haa⟩ := hv1 (Or.inr (Or.inr (Or.inr ⟨by rw [e]; decide, by rw [e]; decide⟩)))
    have hca : (nI aa).toNatClampNeg = aa := nI_clamp (by omega)
    obtain ⟨bb, rfl, hbb⟩ := hv2 ⟨by rw [e]; decide, by rw [e]; decide⟩
    have hcb : (nI bb).toNatClampNeg = bb := nI_clamp (by omega)
    refine g_aload_n (n := 1) hX dX8_step_0 rfl rfl rfl ?_
    refine g_mget (n := 4) 10 (v := .ref (A 6)) hX hU dX8_step_1 rfl uf_X8_29 rfl rfl rfl ?_
    refine g_iload_n (n := 5) hX dX8_step_4 rfl rfl rfl ?_
    refine g_mild (n := 6) 6 (v := nI u) hX hY dX8_step_5 rfl rfl rfl (vp_in_nI (show c < mN 6 by show c < 41; omega) (by decide)) (by rw [nI_clamp (by omega)]; exact huc) ?_
    refine g_istore_n (lv' := [(3, .int (nI u)), (0, .ref am), (1, .int (nI c)), (2, .int (nI r))]) (n := 7) hX dX8_step_6 rfl rfl (by rw [hnL]; rfl) rfl ?_
    refine g_aload_n (n := 8) hX dX8_step_7 rfl rfl rfl ?_
    refine g_mget (n := 11) 11 (v := .ref (A 7)) hX hU dX8_step_8 rfl uf_X8_32 rfl rfl rfl ?_
    refine g_iload_n (n := 12) hX dX8_step_11 rfl rfl rfl ?_
    refine g_mild (n := 13) 7 (v := nI p) hX hY dX8_step_12 rfl rfl rfl (vp_in_nI (show c < mN 7 by show c < 41; omega) (by decide)) (by rw [nI_clamp (by omega)]; exact hpc) ?_
    refine g_istore (lv' := [(4, .int (nI p)), (3, .int (nI u)), (0, .ref am), (1, .int (nI c)), (2, .int (nI r))]) (n := 15) hX dX8_step_13 rfl (by rw [hnL]; rfl) rfl ?_
    refine g_sipush (n := 18) (v := 1200) hX dX8_step_15 rfl rfl ?_
    refine g_iload_n (n := 19) hX dX8_step_18 rfl rfl rfl ?_
    refine g_imul (n := 20) (v := nI (1200 * u)) hX dX8_step_19 rfl (pk_mul (1200) (u)) ?_
    refine g_sipush (n := 23) (v := 1200) hX dX8_step_20 rfl rfl ?_
    refine g_isub (n := 24) (v := nI (1200 * u - 1200)) hX dX8_step_23 rfl (by rw [show (1200 : Int32) = nI 1200 from rfl, pk_sub (by omega)]) ?_
    refine g_bipush (n := 26) (v := 100) hX dX8_step_24 rfl rfl ?_
    refine g_iload (n := 28) hX dX8_step_26 rfl rfl ?_
    refine g_imul (n := 29) (v := nI (100 * p)) hX dX8_step_28 rfl (pk_mul (100) (p)) ?_
    refine g_iadd (n := 30) (v := nI (1200 * u - 1200 + 100 * p)) hX dX8_step_29 rfl (nI_add (1200 * u - 1200) (100 * p)) ?_
    refine g_bipush (n := 32) (v := 100) hX dX8_step_30 rfl rfl ?_
    refine g_isub (n := 33) (v := nI (1200 * u - 1200 + 100 * p - 100)) hX dX8_step_32 rfl (by rw [show (100 : Int32) = nI 100 from rfl, pk_sub (by omega)]) ?_
    refine g_istore (lv' := [(5, .int (nI (1200 * u - 1200 + 100 * p - 100))), (4, .int (nI p)), (3, .int (nI u)), (0, .ref am), (1, .int (nI c)), (2, .int (nI r))]) (n := 35) hX dX8_step_33 rfl (by rw [hnL]; rfl) rfl ?_
    refine g_bipush (n := 37) (v := 60) hX dX8_step_35 rfl rfl ?_
    refine g_iload (n := 39) hX dX8_step_37 rfl rfl ?_
    refine g_imul (n := 40) (v := nI (60 * p)) hX dX8_step_39 rfl (pk_mul (60) (p)) ?_
    refine g_iload_n (n := 41) hX dX8_step_40 rfl rfl rfl ?_
    refine g_iadd (n := 42) (v := nI (60 * p + r)) hX dX8_step_41 rfl (nI_add (60 * p) (r)) ?_
    refine g_istore (lv' := [(6, .int (nI (60 * p + r))), (5, .int (nI (1200 * u - 1200 + 100 * p - 100))), (4, .int (nI p)), (3, .int (nI u)), (0, .ref am), (1, .int (nI c)), (2, .int (nI r))]) (n := 44) hX dX8_step_42 rfl (by rw [hnL]; rfl) rfl ?_
    refine g_aload_n (n := 45) hX dX8_step_44 rfl rfl rfl ?_
    refine g_mget (n := 48) 7 (v := .ref (A 3)) hX hU dX8_step_45 rfl uf_X8_19 rfl rfl rfl ?_
    refine g_iload (n := 50) hX dX8_step_48 rfl rfl ?_
    refine g_mild (n := 51) 3 (v := nI aa) hX hY dX8_step_50 rfl rfl rfl (vp_in_nI (show 60 * p + r < mN 3 by show 60 * p + r < 793; omega) (by decide)) (by rw [nI_clamp (by omega)]; exact ea) ?_
    refine g_istore (lv' := [(7, .int (nI aa)), (6, .int (nI (60 * p + r))), (5, .int (nI (1200 * u - 1200 + 100 * p - 100))), (4, .int (nI p)), (3, .int (nI u)), (0, .ref am), (1, .int (nI c)), (2, .int (nI r))]) (n := 53) hX dX8_step_51 rfl (by rw [hnL]; rfl) rfl ?_
    refine g_aload_n (n := 54) hX dX8_step_53 rfl rfl rfl ?_
    refine g_mget (n := 57) 8 (v := .ref (A 4)) hX hU dX8_step_54 rfl uf_X8_22 rfl rfl rfl ?_
    refine g_iload (n := 59) hX dX8_step_57 rfl rfl ?_
    refine g_mild (n := 60) 4 (v := nI bb) hX hY dX8_step_59 rfl rfl rfl (vp_in_nI (show 60 * p + r < mN 4 by show 60 * p + r < 793; omega) (by decide)) (by rw [nI_clamp (by omega)]; exact eb) ?_
    refine g_istore (lv' := [(8, .int (nI bb)), (7, .int (nI aa)), (6, .int (nI (60 * p + r))), (5, .int (nI (1200 * u - 1200 + 100 * p - 100))), (4, .int (nI p)), (3, .int (nI u)), (0, .ref am), (1, .int (nI c)), (2, .int (nI r))]) (n := 62) hX dX8_step_60 rfl (by rw [hnL]; rfl) rfl ?_
    refine g_aload_n (n := 63) hX dX8_step_62 rfl rfl rfl ?_
    refine g_mget (n := 66) 6 (v := .ref (A 2)) hX hU dX8_step_63 rfl uf_X8_16 rfl rfl rfl ?_
    refine g_iload (n := 68) hX dX8_step_66 rfl rfl ?_
    refine g_mild (n := 69) 2 (v := o) hX hY dX8_step_68 rfl rfl rfl (vp_in_nI (show 60 * p + r < mN 2 by show 60 * p + r < 793; omega) (by decide)) (by rw [nI_clamp (by omega)]; exact eo) ?_
    refine g_istore (lv' := [(9, .int o), (8, .int (nI bb)), (7, .int (nI aa)), (6, .int (nI (60 * p + r))), (5, .int (nI (1200 * u - 1200 + 100 * p - 100))), (4, .int (nI p)), (3, .int (nI u)), (0, .ref am), (1, .int (nI c)), (2, .int (nI r))]) (n := 71) hX dX8_step_69 rfl (by rw [hnL]; rfl) rfl ?_
    refine g_iload (n := 73) hX dX8_step_71 rfl rfl ?_
    refine g_bipush (n := 75) (v := 9) hX dX8_step_73 rfl rfl ?_
    refine g_icmp_lt (n := 78) (tgt := 85) hX dX8_step_75 rfl (by decide) (fun c75 => ?_) (fun c75 => absurd (by rw [e] <;> decide) c75)
    refine g_aload_n (n := 86) hX dX8_step_85 rfl rfl rfl ?_
    refine g_mget (n := 89) 24 (v := .ref (A 20)) hX hU dX8_step_86 rfl uf_X8_71 rfl rfl rfl ?_
    refine g_iload (n := 91) hX dX8_step_89 rfl rfl ?_
    refine g_iload (n := 93) hX dX8_step_91 rfl rfl ?_
    refine g_iadd (n := 94) (v := nI (wk u p aa)) hX dX8_step_93 rfl (nI_add _ _) ?_
    refine g_mbld (n := 95) 20 (v := σ.1 20 (wk u p aa)) hX hY dX8_step_94 rfl rfl rfl (vp_in_nI (show wk u p aa < mN 20 by show wk u p aa < 12000; unfold wk; omega) (by decide)) (by rw [nI_clamp (by unfold wk; omega)]) ?_
    refine g_goto (n := 99) hX dX8_step_95 (by decide) ?_
    refine g_istore (lv' := [(10, .int (σ.1 20 (wk u p aa))), (9, .int o), (8, .int (nI bb)), (7, .int (nI aa)), (6, .int (nI (60 * p + r))), (5, .int (nI (1200 * u - 1200 + 100 * p - 100))), (4, .int (nI p)), (3, .int (nI u)), (0, .ref am), (1, .int (nI c)), (2, .int (nI r))]) (n := 101) hX dX8_step_99 rfl (by rw [hnL]; rfl) rfl ?_
    refine g_iload (n := 103) hX dX8_step_101 rfl rfl ?_
    refine g_if_le (n := 106) (tgt := 126) hX dX8_step_103 rfl (by decide) (fun c103 => absurd c103 (by rw [e] <;> decide)) (fun c103 => ?_)
    refine g_iload (n := 108) hX dX8_step_106 rfl rfl ?_
    refine g_bipush (n := 110) (v := 8) hX dX8_step_108 rfl rfl ?_
    refine g_icmp_ge (n := 113) (tgt := 126) hX dX8_step_110 rfl (by decide) (fun c110 => absurd c110 (by rw [e] <;> decide)) (fun c110 => ?_)
    refine g_aload_n (n := 114) hX dX8_step_113 rfl rfl rfl ?_
    refine g_mget (n := 117) 24 (v := .ref (A 20)) hX hU dX8_step_114 rfl uf_X8_71 rfl rfl rfl ?_
    refine g_iload (n := 119) hX dX8_step_117 rfl rfl ?_
    refine g_iload (n := 121) hX dX8_step_119 rfl rfl ?_
    refine g_iadd (n := 122) (v := nI (wk u p bb)) hX dX8_step_121 rfl (nI_add _ _) ?_
    refine g_mbld (n := 123) 20 (v := σ.1 20 (wk u p bb)) hX hY dX8_step_122 rfl rfl rfl (vp_in_nI (show wk u p bb < mN 20 by show wk u p bb < 12000; unfold wk; omega) (by decide)) (by rw [nI_clamp (by unfold wk; omega)]) ?_
    refine g_goto (n := 127) hX dX8_step_123 (by decide) ?_
    refine g_istore (lv' := [(11, .int (σ.1 20 (wk u p bb))), (10, .int (σ.1 20 (wk u p aa))), (9, .int o), (8, .int (nI bb)), (7, .int (nI aa)), (6, .int (nI (60 * p + r))), (5, .int (nI (1200 * u - 1200 + 100 * p - 100))), (4, .int (nI p)), (3, .int (nI u)), (0, .ref am), (1, .int (nI c)), (2, .int (nI r))]) (n := 129) hX dX8_step_127 rfl (by rw [hnL]; rfl) rfl ?_
    refine g_iload (n := 131) hX dX8_step_129 rfl rfl ?_
    refine g_iconst (n := 132) (v := 5) hX dX8_step_131 rfl rfl ?_
    refine g_icmp_eq (n := 135) (tgt := 142) hX dX8_step_132 rfl (by decide) (fun c132 => absurd c132 (by rw [e] <;> decide)) (fun c132 => ?_)
    refine g_iload (n := 137) hX dX8_step_135 rfl rfl ?_
    refine g_bipush (n := 139) (v := 6) hX dX8_step_137 rfl rfl ?_
    refine g_icmp_ne (n := 142) (tgt := 149) hX dX8_step_139 rfl (by decide) (fun c139 => ?_) (fun c139 => absurd c139 (by rw [e] <;> decide))
    refine g_iload (n := 151) hX dX8_step_149 rfl rfl ?_
    refine g_tableIn (n := 282) (off := 131) hX dX8_step_151 (by rw [e]; decide) (by rw [e]; decide) (by rw [e]; rfl) (by decide) ?_
    refine g_aload_n (n := 283) hX dX8_step_282 rfl rfl rfl ?_
    refine g_mget (n := 286) 24 (v := .ref (A 20)) hX hU dX8_step_283 rfl uf_X8_71 rfl rfl rfl ?_
    refine g_iload (n := 288) hX dX8_step_286 rfl rfl ?_
    refine g_iload (n := 290) hX dX8_step_288 rfl rfl ?_
    refine g_iadd (n := 291) (v := nI (wk u p aa)) hX dX8_step_290 rfl (nI_add _ _) ?_
    refine g_iload (n := 293) hX dX8_step_291 rfl rfl ?_
    refine g_iload (n := 295) hX dX8_step_293 rfl rfl ?_
    refine g_imul (n := 296) (v := (σ.1 20 (wk u p aa)) * (σ.1 20 (wk u p bb))) hX dX8_step_295 rfl rfl ?_
    refine g_i2b (n := 297) (v := ((σ.1 20 (wk u p aa)) * (σ.1 20 (wk u p bb))).toInt8.toInt32) hX dX8_step_296 rfl rfl ?_
    refine g_mbst (n := 298) 20 (i0 := wk u p aa) hX hY dX8_step_297 rfl rfl rfl (vp_in_nI (show wk u p aa < mN 20 by show wk u p aa < 12000; unfold wk; omega) (by decide)) (nI_clamp (by unfold wk; omega)) ?_
    refine g_iconst (n := 299) (v := 0) hX dX8_step_298 rfl rfl ?_
    exact g_iret hX hR dX8_step_299 (by unfold S_stepO; rw [if_neg (by rw [e]; decide), if_neg (by rw [e]; decide), if_neg (by rw [e]; decide), if_neg (by rw [e]; decide), if_pos e, hca, hcb]; (try rw [pk_vb]); exact ⟨rfl, rfl⟩)
  · obtain ⟨aa, rfl, haa⟩ := hv1 (Or.inr (Or.inr (Or.inr ⟨by rw [e]; decide, by rw [e]; decide⟩)))
    have hca : (nI aa).toNatClampNeg = aa := nI_clamp (by omega)
    obtain ⟨bb, rfl, hbb⟩ := hv2 ⟨by rw [e]; decide, by rw [e]; decide⟩
    have hcb : (nI bb).toNatClampNeg = bb := nI_clamp (by omega)
    refine g_aload_n (n := 1) hX dX8_step_0 rfl rfl rfl ?_
    refine g_mget (n := 4) 10 (v := .ref (A 6)) hX hU dX8_step_1 rfl uf_X8_29 rfl rfl rfl ?_
    refine g_iload_n (n := 5) hX dX8_step_4 rfl rfl rfl ?_
    refine g_mild (n := 6) 6 (v := nI u) hX hY dX8_step_5 rfl rfl rfl (vp_in_nI (show c < mN 6 by show c < 41; omega) (by decide)) (by rw [nI_clamp (by omega)]; exact huc) ?_
    refine g_istore_n (lv' := [(3, .int (nI u)), (0, .ref am), (1, .int (nI c)), (2, .int (nI r))]) (n := 7) hX dX8_step_6 rfl rfl (by rw [hnL]; rfl) rfl ?_
    refine g_aload_n (n := 8) hX dX8_step_7 rfl rfl rfl ?_
    refine g_mget (n := 11) 11 (v := .ref (A 7)) hX hU dX8_step_8 rfl uf_X8_32 rfl rfl rfl ?_
    refine g_iload_n (n := 12) hX dX8_step_11 rfl rfl rfl ?_
    refine g_mild (n := 13) 7 (v := nI p) hX hY dX8_step_12 rfl rfl rfl (vp_in_nI (show c < mN 7 by show c < 41; omega) (by decide)) (by rw [nI_clamp (by omega)]; exact hpc) ?_
    refine g_istore (lv' := [(4, .int (nI p)), (3, .int (nI u)), (0, .ref am), (1, .int (nI c)), (2, .int (nI r))]) (n := 15) hX dX8_step_13 rfl (by rw [hnL]; rfl) rfl ?_
    refine g_sipush (n := 18) (v := 1200) hX dX8_step_15 rfl rfl ?_
    refine g_iload_n (n := 19) hX dX8_step_18 rfl rfl rfl ?_
    refine g_imul (n := 20) (v := nI (1200 * u)) hX dX8_step_19 rfl (pk_mul (1200) (u)) ?_
    refine g_sipush (n := 23) (v := 1200) hX dX8_step_20 rfl rfl ?_
    refine g_isub (n := 24) (v := nI (1200 * u - 1200)) hX dX8_step_23 rfl (by rw [show (1200 : Int32) = nI 1200 from rfl, pk_sub (by omega)]) ?_
    refine g_bipush (n := 26) (v := 100) hX dX8_step_24 rfl rfl ?_
    refine g_iload (n := 28) hX dX8_step_26 rfl rfl ?_
    refine g_imul (n := 29) (v := nI (100 * p)) hX dX8_step_28 rfl (pk_mul (100) (p)) ?_
    refine g_iadd (n := 30) (v := nI (1200 * u - 1200 + 100 * p)) hX dX8_step_29 rfl (nI_add (1200 * u - 1200) (100 * p)) ?_
    refine g_bipush (n := 32) (v := 100) hX dX8_step_30 rfl rfl ?_
    refine g_isub (n := 33) (v := nI (1200 * u - 1200 + 100 * p - 100)) hX dX8_step_32 rfl (by rw [show (100 : Int32) = nI 100 from rfl, pk_sub (by omega)]) ?_
    refine g_istore (lv' := [(5, .int (nI (1200 * u - 1200 + 100 * p - 100))), (4, .int (nI p)), (3, .int (nI u)), (0, .ref am), (1, .int (nI c)), (2, .int (nI r))]) (n := 35) hX dX8_step_33 rfl (by rw [hnL]; rfl) rfl ?_
    refine g_bipush (n := 37) (v := 60) hX dX8_step_35 rfl rfl ?_
    refine g_iload (n := 39) hX dX8_step_37 rfl rfl ?_
    refine g_imul (n := 40) (v := nI (60 * p)) hX dX8_step_39 rfl (pk_mul (60) (p)) ?_
    refine g_iload_n (n := 41) hX dX8_step_40 rfl rfl rfl ?_
    refine g_iadd (n := 42) (v := nI (60 * p + r)) hX dX8_step_41 rfl (nI_add (60 * p) (r)) ?_
    refine g_istore (lv' := [(6, .int (nI (60 * p + r))), (5, .int (nI (1200 * u - 1200 + 100 * p - 100))), (4, .int (nI p)), (3, .int (nI u)), (0, .ref am), (1, .int (nI c)), (2, .int (nI r))]) (n := 44) hX dX8_step_42 rfl (by rw [hnL]; rfl) rfl ?_
    refine g_aload_n (n := 45) hX dX8_step_44 rfl rfl rfl ?_
    refine g_mget (n := 48) 7 (v := .ref (A 3)) hX hU dX8_step_45 rfl uf_X8_19 rfl rfl rfl ?_
    refine g_iload (n := 50) hX dX8_step_48 rfl rfl ?_
    refine g_mild (n := 51) 3 (v := nI aa) hX hY dX8_step_50 rfl rfl rfl (vp_in_nI (show 60 * p + r < mN 3 by show 60 * p + r < 793; omega) (by decide)) (by rw [nI_clamp (by omega)]; exact ea) ?_
    refine g_istore (lv' := [(7, .int (nI aa)), (6, .int (nI (60 * p + r))), (5, .int (nI (1200 * u - 1200 + 100 * p - 100))), (4, .int (nI p)), (3, .int (nI u)), (0, .ref am), (1, .int (nI c)), (2, .int (nI r))]) (n := 53) hX dX8_step_51 rfl (by rw [hnL]; rfl) rfl ?_
    refine g_aload_n (n := 54) hX dX8_step_53 rfl rfl rfl ?_
    refine g_mget (n := 57) 8 (v := .ref (A 4)) hX hU dX8_step_54 rfl uf_X8_22 rfl rfl rfl ?_
    refine g_iload (n := 59) hX dX8_step_57 rfl rfl ?_
    refine g_mild (n := 60) 4 (v := nI bb) hX hY dX8_step_59 rfl rfl rfl (vp_in_nI (show 60 * p + r < mN 4 by show 60 * p + r < 793; omega) (by decide)) (by rw [nI_clamp (by omega)]; exact eb) ?_
    refine g_istore (lv' := [(8, .int (nI bb)), (7, .int (nI aa)), (6, .int (nI (60 * p + r))), (5, .int (nI (1200 * u - 1200 + 100 * p - 100))), (4, .int (nI p)), (3, .int (nI u)), (0, .ref am), (1, .int (nI c)), (2, .int (nI r))]) (n := 62) hX dX8_step_60 rfl (by rw [hnL]; rfl) rfl ?_
    refine g_aload_n (n := 63) hX dX8_step_62 rfl rfl rfl ?_
    refine g_mget (n := 66) 6 (v := .ref (A 2)) hX hU dX8_step_63 rfl uf_X8_16 rfl rfl rfl ?_
    refine g_iload (n := 68) hX dX8_step_66 rfl rfl ?_
    refine g_mild (n := 69) 2 (v := o) hX hY dX8_step_68 rfl rfl rfl (vp_in_nI (show 60 * p + r < mN 2 by show 60 * p + r < 793; omega) (by decide)) (by rw [nI_clamp (by omega)]; exact eo) ?_
    refine g_istore (lv' := [(9, .int o), (8, .int (nI bb)), (7, .int (nI aa)), (6, .int (nI (60 * p + r))), (5, .int (nI (1200 * u - 1200 + 100 * p - 100))), (4, .int (nI p)), (3, .int (nI u)), (0, .ref am), (1, .int (nI c)), (2, .int (nI r))]) (n := 71) hX dX8_step_69 rfl (by rw [hnL]; rfl) rfl ?_
    refine g_iload (n := 73) hX dX8_step_71 rfl rfl ?_
    refine g_bipush (n := 75) (v := 9) hX dX8_step_73 rfl rfl ?_
    refine g_icmp_lt (n := 78) (tgt := 85) hX dX8_step_75 rfl (by decide) (fun c75 => ?_) (fun c75 => absurd (by rw [e] <;> decide) c75)
    refine g_aload_n (n := 86) hX dX8_step_85 rfl rfl rfl ?_
    refine g_mget (n := 89) 24 (v := .ref (A 20)) hX hU dX8_step_86 rfl uf_X8_71 rfl rfl rfl ?_
    refine g_iload (n := 91) hX dX8_step_89 rfl rfl ?_
    refine g_iload (n := 93) hX dX8_step_91 rfl rfl ?_
    refine g_iadd (n := 94) (v := nI (wk u p aa)) hX dX8_step_93 rfl (nI_add _ _) ?_
    refine g_mbld (n := 95) 20 (v := σ.1 20 (wk u p aa)) hX hY dX8_step_94 rfl rfl rfl (vp_in_nI (show wk u p aa < mN 20 by show wk u p aa < 12000; unfold wk; omega) (by decide)) (by rw [nI_clamp (by unfold wk; omega)]) ?_
    refine g_goto (n := 99) hX dX8_step_95 (by decide) ?_
    refine g_istore (lv' := [(10, .int (σ.1 20 (wk u p aa))), (9, .int o), (8, .int (nI bb)), (7, .int (nI aa)), (6, .int (nI (60 * p + r))), (5, .int (nI (1200 * u - 1200 + 100 * p - 100))), (4, .int (nI p)), (3, .int (nI u)), (0, .ref am), (1, .int (nI c)), (2, .int (nI r))]) (n := 101) hX dX8_step_99 rfl (by rw [hnL]; rfl) rfl ?_
    refine g_iload (n := 103) hX dX8_step_101 rfl rfl ?_
    refine g_if_le (n := 106) (tgt := 126) hX dX8_step_103 rfl (by decide) (fun c103 => absurd c103 (by rw [e] <;> decide)) (fun c103 => ?_)
    refine g_iload (n := 108) hX dX8_step_106 rfl rfl ?_
    refine g_bipush (n := 110) (v := 8) hX dX8_step_108 rfl rfl ?_
    refine g_icmp_ge (n := 113) (tgt := 126) hX dX8_step_110 rfl (by decide) (fun c110 => absurd c110 (by rw [e] <;> decide)) (fun c110 => ?_)
    refine g_aload_n (n := 114) hX dX8_step_113 rfl rfl rfl ?_
    refine g_mget (n := 117) 24 (v := .ref (A 20)) hX hU dX8_step_114 rfl uf_X8_71 rfl rfl rfl ?_
    refine g_iload (n := 119) hX dX8_step_117 rfl rfl ?_
    refine g_iload (n := 121) hX dX8_step_119 rfl rfl ?_
    refine g_iadd (n := 122) (v := nI (wk u p bb)) hX dX8_step_121 rfl (nI_add _ _) ?_
    refine g_mbld (n := 123) 20 (v := σ.1 20 (wk u p bb)) hX hY dX8_step_122 rfl rfl rfl (vp_in_nI (show wk u p bb < mN 20 by show wk u p bb < 12000; unfold wk; omega) (by decide)) (by rw [nI_clamp (by unfold wk; omega)]) ?_
    refine g_goto (n := 127) hX dX8_step_123 (by decide) ?_
    refine g_istore (lv' := [(11, .int (σ.1 20 (wk u p bb))), (10, .int (σ.1 20 (wk u p aa))), (9, .int o), (8, .int (nI bb)), (7, .int (nI aa)), (6, .int (nI (60 * p + r))), (5, .int (nI (1200 * u - 1200 + 100 * p - 100))), (4, .int (nI p)), (3, .int (nI u)), (0, .ref am), (1, .int (nI c)), (2, .int (nI r))]) (n := 129) hX dX8_step_127 rfl (by rw [hnL]; rfl) rfl ?_
    refine g_iload (n := 131) hX dX8_step_129 rfl rfl ?_
    refine g_iconst (n := 132) (v := 5) hX dX8_step_131 rfl rfl ?_
    refine g_icmp_eq (n := 135) (tgt := 142) hX dX8_step_132 rfl (by decide) (fun c132 => ?_) (fun c132 => absurd (by rw [e] <;> decide) c132)
    refine g_iload (n := 144) hX dX8_step_142 rfl rfl ?_
    refine g_if_ne (n := 147) (tgt := 149) hX dX8_step_144 rfl (by decide) (fun c144 => ?_) (fun c144 => ?_)
    · refine g_iload (n := 151) hX dX8_step_149 rfl rfl ?_
      refine g_tableIn (n := 300) (off := 149) hX dX8_step_151 (by rw [e]; decide) (by rw [e]; decide) (by rw [e]; rfl) (by decide) ?_
      refine g_aload_n (n := 301) hX dX8_step_300 rfl rfl rfl ?_
      refine g_mget (n := 304) 24 (v := .ref (A 20)) hX hU dX8_step_301 rfl uf_X8_71 rfl rfl rfl ?_
      refine g_iload (n := 306) hX dX8_step_304 rfl rfl ?_
      refine g_iload (n := 308) hX dX8_step_306 rfl rfl ?_
      refine g_iadd (n := 309) (v := nI (wk u p aa)) hX dX8_step_308 rfl (nI_add _ _) ?_
      refine g_iload (n := 311) hX dX8_step_309 rfl rfl ?_
      refine g_iload (n := 313) hX dX8_step_311 rfl rfl ?_
      refine g_idiv (n := 314) (v := (σ.1 20 (wk u p aa)) / (σ.1 20 (wk u p bb))) hX dX8_step_313 rfl c144 rfl ?_
      refine g_i2b (n := 315) (v := ((σ.1 20 (wk u p aa)) / (σ.1 20 (wk u p bb))).toInt8.toInt32) hX dX8_step_314 rfl rfl ?_
      refine g_mbst (n := 316) 20 (i0 := wk u p aa) hX hY dX8_step_315 rfl rfl rfl (vp_in_nI (show wk u p aa < mN 20 by show wk u p aa < 12000; unfold wk; omega) (by decide)) (nI_clamp (by unfold wk; omega)) ?_
      refine g_iconst (n := 317) (v := 0) hX dX8_step_316 rfl rfl ?_
      exact g_iret hX hR dX8_step_317 (by unfold S_stepO; rw [if_neg (by rw [e]; decide), if_neg (by rw [e]; decide), if_neg (by rw [e]; decide), if_neg (by rw [e]; decide), if_neg (by rw [e]; decide), if_pos e, hca, hcb, if_neg c144]; (try rw [pk_vb]); exact ⟨rfl, rfl⟩)
    · refine g_iconst (n := 148) (v := 1) hX dX8_step_147 rfl rfl ?_
      exact g_iret hX hR dX8_step_148 (by unfold S_stepO; rw [if_neg (by rw [e]; decide), if_neg (by rw [e]; decide), if_neg (by rw [e]; decide), if_neg (by rw [e]; decide), if_neg (by rw [e]; decide), if_pos e, hca, hcb, if_pos c144]; (try rw [pk_vb]); exact ⟨rfl, rfl⟩)
  · obtain ⟨aa, rfl, haa⟩ := hv1 (Or.inr (Or.inr (Or.inr ⟨by rw [e]; decide, by rw [e]; decide⟩)))
    have hca : (nI aa).toNatClampNeg = aa := nI_clamp (by omega)
    obtain ⟨bb, rfl, hbb⟩ := hv2 ⟨by rw [e]; decide, by rw [e]; decide⟩
    have hcb : (nI bb).toNatClampNeg = bb := nI_clamp (by omega)
    refine g_aload_n (n := 1) hX dX8_step_0 rfl rfl rfl ?_
    refine g_mget (n := 4) 10 (v := .ref (A 6)) hX hU dX8_step_1 rfl uf_X8_29 rfl rfl rfl ?_
    refine g_iload_n (n := 5) hX dX8_step_4 rfl rfl rfl ?_
    refine g_mild (n := 6) 6 (v := nI u) hX hY dX8_step_5 rfl rfl rfl (vp_in_nI (show c < mN 6 by show c < 41; omega) (by decide)) (by rw [nI_clamp (by omega)]; exact huc) ?_
    refine g_istore_n (lv' := [(3, .int (nI u)), (0, .ref am), (1, .int (nI c)), (2, .int (nI r))]) (n := 7) hX dX8_step_6 rfl rfl (by rw [hnL]; rfl) rfl ?_
    refine g_aload_n (n := 8) hX dX8_step_7 rfl rfl rfl ?_
    refine g_mget (n := 11) 11 (v := .ref (A 7)) hX hU dX8_step_8 rfl uf_X8_32 rfl rfl rfl ?_
    refine g_iload_n (n := 12) hX dX8_step_11 rfl rfl rfl ?_
    refine g_mild (n := 13) 7 (v := nI p) hX hY dX8_step_12 rfl rfl rfl (vp_in_nI (show c < mN 7 by show c < 41; omega) (by decide)) (by rw [nI_clamp (by omega)]; exact hpc) ?_
    refine g_istore (lv' := [(4, .int (nI p)), (3, .int (nI u)), (0, .ref am), (1, .int (nI c)), (2, .int (nI r))]) (n := 15) hX dX8_step_13 rfl (by rw [hnL]; rfl) rfl ?_
    refine g_sipush (n := 18) (v := 1200) hX dX8_step_15 rfl rfl ?_
    refine g_iload_n (n := 19) hX dX8_step_18 rfl rfl rfl ?_
    refine g_imul (n := 20) (v := nI (1200 * u)) hX dX8_step_19 rfl (pk_mul (1200) (u)) ?_
    refine g_sipush (n := 23) (v := 1200) hX dX8_step_20 rfl rfl ?_
    refine g_isub (n := 24) (v := nI (1200 * u - 1200)) hX dX8_step_23 rfl (by rw [show (1200 : Int32) = nI 1200 from rfl, pk_sub (by omega)]) ?_
    refine g_bipush (n := 26) (v := 100) hX dX8_step_24 rfl rfl ?_
    refine g_iload (n := 28) hX dX8_step_26 rfl rfl ?_
    refine g_imul (n := 29) (v := nI (100 * p)) hX dX8_step_28 rfl (pk_mul (100) (p)) ?_
    refine g_iadd (n := 30) (v := nI (1200 * u - 1200 + 100 * p)) hX dX8_step_29 rfl (nI_add (1200 * u - 1200) (100 * p)) ?_
    refine g_bipush (n := 32) (v := 100) hX dX8_step_30 rfl rfl ?_
    refine g_isub (n := 33) (v := nI (1200 * u - 1200 + 100 * p - 100)) hX dX8_step_32 rfl (by rw [show (100 : Int32) = nI 100 from rfl, pk_sub (by omega)]) ?_
    refine g_istore (lv' := [(5, .int (nI (1200 * u - 1200 + 100 * p - 100))), (4, .int (nI p)), (3, .int (nI u)), (0, .ref am), (1, .int (nI c)), (2, .int (nI r))]) (n := 35) hX dX8_step_33 rfl (by rw [hnL]; rfl) rfl ?_
    refine g_bipush (n := 37) (v := 60) hX dX8_step_35 rfl rfl ?_
    refine g_iload (n := 39) hX dX8_step_37 rfl rfl ?_
    refine g_imul (n := 40) (v := nI (60 * p)) hX dX8_step_39 rfl (pk_mul (60) (p)) ?_
    refine g_iload_n (n := 41) hX dX8_step_40 rfl rfl rfl ?_
    refine g_iadd (n := 42) (v := nI (60 * p + r)) hX dX8_step_41 rfl (nI_add (60 * p) (r)) ?_
    refine g_istore (lv' := [(6, .int (nI (60 * p + r))), (5, .int (nI (1200 * u - 1200 + 100 * p - 100))), (4, .int (nI p)), (3, .int (nI u)), (0, .ref am), (1, .int (nI c)), (2, .int (nI r))]) (n := 44) hX dX8_step_42 rfl (by rw [hnL]; rfl) rfl ?_
    refine g_aload_n (n := 45) hX dX8_step_44 rfl rfl rfl ?_
    refine g_mget (n := 48) 7 (v := .ref (A 3)) hX hU dX8_step_45 rfl uf_X8_19 rfl rfl rfl ?_
    refine g_iload (n := 50) hX dX8_step_48 rfl rfl ?_
    refine g_mild (n := 51) 3 (v := nI aa) hX hY dX8_step_50 rfl rfl rfl (vp_in_nI (show 60 * p + r < mN 3 by show 60 * p + r < 793; omega) (by decide)) (by rw [nI_clamp (by omega)]; exact ea) ?_
    refine g_istore (lv' := [(7, .int (nI aa)), (6, .int (nI (60 * p + r))), (5, .int (nI (1200 * u - 1200 + 100 * p - 100))), (4, .int (nI p)), (3, .int (nI u)), (0, .ref am), (1, .int (nI c)), (2, .int (nI r))]) (n := 53) hX dX8_step_51 rfl (by rw [hnL]; rfl) rfl ?_
    refine g_aload_n (n := 54) hX dX8_step_53 rfl rfl rfl ?_
    refine g_mget (n := 57) 8 (v := .ref (A 4)) hX hU dX8_step_54 rfl uf_X8_22 rfl rfl rfl ?_
    refine g_iload (n := 59) hX dX8_step_57 rfl rfl ?_
    refine g_mild (n := 60) 4 (v := nI bb) hX hY dX8_step_59 rfl rfl rfl (vp_in_nI (show 60 * p + r < mN 4 by show 60 * p + r < 793; omega) (by decide)) (by rw [nI_clamp (by omega)]; exact eb) ?_
    refine g_istore (lv' := [(8, .int (nI bb)), (7, .int (nI aa)), (6, .int (nI (60 * p + r))), (5, .int (nI (1200 * u - 1200 + 100 * p - 100))), (4, .int (nI p)), (3, .int (nI u)), (0, .ref am), (1, .int (nI c)), (2, .int (nI r))]) (n := 62) hX dX8_step_60 rfl (by rw [hnL]; rfl) rfl ?_
    refine g_aload_n (n := 63) hX dX8_step_62 rfl rfl rfl ?_
    refine g_mget (n := 66) 6 (v := .ref (A 2)) hX hU dX8_step_63 rfl uf_X8_16 rfl rfl rfl ?_
    refine g_iload (n := 68) hX dX8_step_66 rfl rfl ?_
    refine g_mild (n := 69) 2 (v := o) hX hY dX8_step_68 rfl rfl rfl (vp_in_nI (show 60 * p + r < mN 2 by show 60 * p + r < 793; omega) (by decide)) (by rw [nI_clamp (by omega)]; exact eo) ?_
    refine g_istore (lv' := [(9, .int o), (8, .int (nI bb)), (7, .int (nI aa)), (6, .int (nI (60 * p + r))), (5, .int (nI (1200 * u - 1200 + 100 * p - 100))), (4, .int (nI p)), (3, .int (nI u)), (0, .ref am), (1, .int (nI c)), (2, .int (nI r))]) (n := 71) hX dX8_step_69 rfl (by rw [hnL]; rfl) rfl ?_
    refine g_iload (n := 73) hX dX8_step_71 rfl rfl ?_
    refine g_bipush (n := 75) (v := 9) hX dX8_step_73 rfl rfl ?_
    refine g_icmp_lt (n := 78) (tgt := 85) hX dX8_step_75 rfl (by decide) (fun c75 => ?_) (fun c75 => absurd (by rw [e] <;> decide) c75)
    refine g_aload_n (n := 86) hX dX8_step_85 rfl rfl rfl ?_
    refine g_mget (n := 89) 24 (v := .ref (A 20)) hX hU dX8_step_86 rfl uf_X8_71 rfl rfl rfl ?_
    refine g_iload (n := 91) hX dX8_step_89 rfl rfl ?_
    refine g_iload (n := 93) hX dX8_step_91 rfl rfl ?_
    refine g_iadd (n := 94) (v := nI (wk u p aa)) hX dX8_step_93 rfl (nI_add _ _) ?_
    refine g_mbld (n := 95) 20 (v := σ.1 20 (wk u p aa)) hX hY dX8_step_94 rfl rfl rfl (vp_in_nI (show wk u p aa < mN 20 by show wk u p aa < 12000; unfold wk; omega) (by decide)) (by rw [nI_clamp (by unfold wk; omega)]) ?_
    refine g_goto (n := 99) hX dX8_step_95 (by decide) ?_
    refine g_istore (lv' := [(10, .int (σ.1 20 (wk u p aa))), (9, .int o), (8, .int (nI bb)), (7, .int (nI aa)), (6, .int (nI (60 * p + r))), (5, .int (nI (1200 * u - 1200 + 100 * p - 100))), (4, .int (nI p)), (3, .int (nI u)), (0, .ref am), (1, .int (nI c)), (2, .int (nI r))]) (n := 101) hX dX8_step_99 rfl (by rw [hnL]; rfl) rfl ?_
    refine g_iload (n := 103) hX dX8_step_101 rfl rfl ?_
    refine g_if_le (n := 106) (tgt := 126) hX dX8_step_103 rfl (by decide) (fun c103 => absurd c103 (by rw [e] <;> decide)) (fun c103 => ?_)
    refine g_iload (n := 108) hX dX8_step_106 rfl rfl ?_
    refine g_bipush (n := 110) (v := 8) hX dX8_step_108 rfl rfl ?_
    refine g_icmp_ge (n := 113) (tgt := 126) hX dX8_step_110 rfl (by decide) (fun c110 => absurd c110 (by rw [e] <;> decide)) (fun c110 => ?_)
    refine g_aload_n (n := 114) hX dX8_step_113 rfl rfl rfl ?_
    refine g_mget (n := 117) 24 (v := .ref (A 20)) hX hU dX8_step_114 rfl uf_X8_71 rfl rfl rfl ?_
    refine g_iload (n := 119) hX dX8_step_117 rfl rfl ?_
    refine g_iload (n := 121) hX dX8_step_119 rfl rfl ?_
    refine g_iadd (n := 122) (v := nI (wk u p bb)) hX dX8_step_121 rfl (nI_add _ _) ?_
    refine g_mbld (n := 123) 20 (v := σ.1 20 (wk u p bb)) hX hY dX8_step_122 rfl rfl rfl (vp_in_nI (show wk u p bb < mN 20 by show wk u p bb < 12000; unfold wk; omega) (by decide)) (by rw [nI_clamp (by unfold wk; omega)]) ?_
    refine g_goto (n := 127) hX dX8_step_123 (by decide) ?_
    refine g_istore (lv' := [(11, .int (σ.1 20 (wk u p bb))), (10, .int (σ.1 20 (wk u p aa))), (9, .int o), (8, .int (nI bb)), (7, .int (nI aa)), (6, .int (nI (60 * p + r))), (5, .int (nI (1200 * u - 1200 + 100 * p - 100))), (4, .int (nI p)), (3, .int (nI u)), (0, .ref am), (1, .int (nI c)), (2, .int (nI r))]) (n := 129) hX dX8_step_127 rfl (by rw [hnL]; rfl) rfl ?_
    refine g_iload (n := 131) hX dX8_step_129 rfl rfl ?_
    refine g_iconst (n := 132) (v := 5) hX dX8_step_131 rfl rfl ?_
    refine g_icmp_eq (n := 135) (tgt := 142) hX dX8_step_132 rfl (by decide) (fun c132 => absurd c132 (by rw [e] <;> decide)) (fun c132 => ?_)
    refine g_iload (n := 137) hX dX8_step_135 rfl rfl ?_
    refine g_bipush (n := 139) (v := 6) hX dX8_step_137 rfl rfl ?_
    refine g_icmp_ne (n := 142) (tgt := 149) hX dX8_step_139 rfl (by decide) (fun c139 => absurd (by rw [e] <;> decide) c139) (fun c139 => ?_)
    refine g_iload (n := 144) hX dX8_step_142 rfl rfl ?_
    refine g_if_ne (n := 147) (tgt := 149) hX dX8_step_144 rfl (by decide) (fun c144 => ?_) (fun c144 => ?_)
    · refine g_iload (n := 151) hX dX8_step_149 rfl rfl ?_
      refine g_tableIn (n := 318) (off := 167) hX dX8_step_151 (by rw [e]; decide) (by rw [e]; decide) (by rw [e]; rfl) (by decide) ?_
      refine g_aload_n (n := 319) hX dX8_step_318 rfl rfl rfl ?_
      refine g_mget (n := 322) 24 (v := .ref (A 20)) hX hU dX8_step_319 rfl uf_X8_71 rfl rfl rfl ?_
      refine g_iload (n := 324) hX dX8_step_322 rfl rfl ?_
      refine g_iload (n := 326) hX dX8_step_324 rfl rfl ?_
      refine g_iadd (n := 327) (v := nI (wk u p aa)) hX dX8_step_326 rfl (nI_add _ _) ?_
      refine g_iload (n := 329) hX dX8_step_327 rfl rfl ?_
      refine g_iload (n := 331) hX dX8_step_329 rfl rfl ?_
      refine g_irem (n := 332) (v := (σ.1 20 (wk u p aa)) - (σ.1 20 (wk u p aa)) / (σ.1 20 (wk u p bb)) * (σ.1 20 (wk u p bb))) hX dX8_step_331 rfl c144 rfl ?_
      refine g_i2b (n := 333) (v := ((σ.1 20 (wk u p aa)) - (σ.1 20 (wk u p aa)) / (σ.1 20 (wk u p bb)) * (σ.1 20 (wk u p bb))).toInt8.toInt32) hX dX8_step_332 rfl rfl ?_
      refine g_mbst (n := 334) 20 (i0 := wk u p aa) hX hY dX8_step_333 rfl rfl rfl (vp_in_nI (show wk u p aa < mN 20 by show wk u p aa < 12000; unfold wk; omega) (by decide)) (nI_clamp (by unfold wk; omega)) ?_
      refine g_iconst (n := 335) (v := 0) hX dX8_step_334 rfl rfl ?_
      exact g_iret hX hR dX8_step_335 (by unfold S_stepO; rw [if_neg (by rw [e]; decide), if_neg (by rw [e]; decide), if_neg (by rw [e]; decide), if_neg (by rw [e]; decide), if_neg (by rw [e]; decide), if_neg (by rw [e]; decide), if_pos e, hca, hcb, if_neg c144]; (try rw [pk_vb]); exact ⟨rfl, rfl⟩)
    · refine g_iconst (n := 148) (v := 1) hX dX8_step_147 rfl rfl ?_
      exact g_iret hX hR dX8_step_148 (by unfold S_stepO; rw [if_neg (by rw [e]; decide), if_neg (by rw [e]; decide), if_neg (by rw [e]; decide), if_neg (by rw [e]; decide), if_neg (by rw [e]; decide), if_neg (by rw [e]; decide), if_pos e, hca, hcb, if_pos c144]; (try rw [pk_vb]); exact ⟨rfl, rfl⟩)
  · obtain ⟨aa, rfl, haa⟩ := hv1 (Or.inr (Or.inr (Or.inr ⟨by rw [e]; decide, by rw [e]; decide⟩)))
    have hca : (nI aa).toNatClampNeg = aa := nI_clamp (by omega)
    obtain ⟨bb, rfl, hbb⟩ := hv2 ⟨by rw [e]; decide, by rw [e]; decide⟩
    have hcb : (nI bb).toNatClampNeg = bb := nI_clamp (by omega)
    refine g_aload_n (n := 1) hX dX8_step_0 rfl rfl rfl ?_
    refine g_mget (n := 4) 10 (v := .ref (A 6)) hX hU dX8_step_1 rfl uf_X8_29 rfl rfl rfl ?_
    refine g_iload_n (n := 5) hX dX8_step_4 rfl rfl rfl ?_
    refine g_mild (n := 6) 6 (v := nI u) hX hY dX8_step_5 rfl rfl rfl (vp_in_nI (show c < mN 6 by show c < 41; omega) (by decide)) (by rw [nI_clamp (by omega)]; exact huc) ?_
    refine g_istore_n (lv' := [(3, .int (nI u)), (0, .ref am), (1, .int (nI c)), (2, .int (nI r))]) (n := 7) hX dX8_step_6 rfl rfl (by rw [hnL]; rfl) rfl ?_
    refine g_aload_n (n := 8) hX dX8_step_7 rfl rfl rfl ?_
    refine g_mget (n := 11) 11 (v := .ref (A 7)) hX hU dX8_step_8 rfl uf_X8_32 rfl rfl rfl ?_
    refine g_iload_n (n := 12) hX dX8_step_11 rfl rfl rfl ?_
    refine g_mild (n := 13) 7 (v := nI p) hX hY dX8_step_12 rfl rfl rfl (vp_in_nI (show c < mN 7 by show c < 41; omega) (by decide)) (by rw [nI_clamp (by omega)]; exact hpc) ?_
    refine g_istore (lv' := [(4, .int (nI p)), (3, .int (nI u)), (0, .ref am), (1, .int (nI c)), (2, .int (nI r))]) (n := 15) hX dX8_step_13 rfl (by rw [hnL]; rfl) rfl ?_
    refine g_sipush (n := 18) (v := 1200) hX dX8_step_15 rfl rfl ?_
    refine g_iload_n (n := 19) hX dX8_step_18 rfl rfl rfl ?_
    refine g_imul (n := 20) (v := nI (1200 * u)) hX dX8_step_19 rfl (pk_mul (1200) (u)) ?_
    refine g_sipush (n := 23) (v := 1200) hX dX8_step_20 rfl rfl ?_
    refine g_isub (n := 24) (v := nI (1200 * u - 1200)) hX dX8_step_23 rfl (by rw [show (1200 : Int32) = nI 1200 from rfl, pk_sub (by omega)]) ?_
    refine g_bipush (n := 26) (v := 100) hX dX8_step_24 rfl rfl ?_
    refine g_iload (n := 28) hX dX8_step_26 rfl rfl ?_
    refine g_imul (n := 29) (v := nI (100 * p)) hX dX8_step_28 rfl (pk_mul (100) (p)) ?_
    refine g_iadd (n := 30) (v := nI (1200 * u - 1200 + 100 * p)) hX dX8_step_29 rfl (nI_add (1200 * u - 1200) (100 * p)) ?_
    refine g_bipush (n := 32) (v := 100) hX dX8_step_30 rfl rfl ?_
    refine g_isub (n := 33) (v := nI (1200 * u - 1200 + 100 * p - 100)) hX dX8_step_32 rfl (by rw [show (100 : Int32) = nI 100 from rfl, pk_sub (by omega)]) ?_
    refine g_istore (lv' := [(5, .int (nI (1200 * u - 1200 + 100 * p - 100))), (4, .int (nI p)), (3, .int (nI u)), (0, .ref am), (1, .int (nI c)), (2, .int (nI r))]) (n := 35) hX dX8_step_33 rfl (by rw [hnL]; rfl) rfl ?_
    refine g_bipush (n := 37) (v := 60) hX dX8_step_35 rfl rfl ?_
    refine g_iload (n := 39) hX dX8_step_37 rfl rfl ?_
    refine g_imul (n := 40) (v := nI (60 * p)) hX dX8_step_39 rfl (pk_mul (60) (p)) ?_
    refine g_iload_n (n := 41) hX dX8_step_40 rfl rfl rfl ?_
    refine g_iadd (n := 42) (v := nI (60 * p + r)) hX dX8_step_41 rfl (nI_add (60 * p) (r)) ?_
    refine g_istore (lv' := [(6, .int (nI (60 * p + r))), (5, .int (nI (1200 * u - 1200 + 100 * p - 100))), (4, .int (nI p)), (3, .int (nI u)), (0, .ref am), (1, .int (nI c)), (2, .int (nI r))]) (n := 44) hX dX8_step_42 rfl (by rw [hnL]; rfl) rfl ?_
    refine g_aload_n (n := 45) hX dX8_step_44 rfl rfl rfl ?_
    refine g_mget (n := 48) 7 (v := .ref (A 3)) hX hU dX8_step_45 rfl uf_X8_19 rfl rfl rfl ?_
    refine g_iload (n := 50) hX dX8_step_48 rfl rfl ?_
    refine g_mild (n := 51) 3 (v := nI aa) hX hY dX8_step_50 rfl rfl rfl (vp_in_nI (show 60 * p + r < mN 3 by show 60 * p + r < 793; omega) (by decide)) (by rw [nI_clamp (by omega)]; exact ea) ?_
    refine g_istore (lv' := [(7, .int (nI aa)), (6, .int (nI (60 * p + r))), (5, .int (nI (1200 * u - 1200 + 100 * p - 100))), (4, .int (nI p)), (3, .int (nI u)), (0, .ref am), (1, .int (nI c)), (2, .int (nI r))]) (n := 53) hX dX8_step_51 rfl (by rw [hnL]; rfl) rfl ?_
    refine g_aload_n (n := 54) hX dX8_step_53 rfl rfl rfl ?_
    refine g_mget (n := 57) 8 (v := .ref (A 4)) hX hU dX8_step_54 rfl uf_X8_22 rfl rfl rfl ?_
    refine g_iload (n := 59) hX dX8_step_57 rfl rfl ?_
    refine g_mild (n := 60) 4 (v := nI bb) hX hY dX8_step_59 rfl rfl rfl (vp_in_nI (show 60 * p + r < mN 4 by show 60 * p + r < 793; omega) (by decide)) (by rw [nI_clamp (by omega)]; exact eb) ?_
    refine g_istore (lv' := [(8, .int (nI bb)), (7, .int (nI aa)), (6, .int (nI (60 * p + r))), (5, .int (nI (1200 * u - 1200 + 100 * p - 100))), (4, .int (nI p)), (3, .int (nI u)), (0, .ref am), (1, .int (nI c)), (2, .int (nI r))]) (n := 62) hX dX8_step_60 rfl (by rw [hnL]; rfl) rfl ?_
    refine g_aload_n (n := 63) hX dX8_step_62 rfl rfl rfl ?_
    refine g_mget (n := 66) 6 (v := .ref (A 2)) hX hU dX8_step_63 rfl uf_X8_16 rfl rfl rfl ?_
    refine g_iload (n := 68) hX dX8_step_66 rfl rfl ?_
    refine g_mild (n := 69) 2 (v := o) hX hY dX8_step_68 rfl rfl rfl (vp_in_nI (show 60 * p + r < mN 2 by show 60 * p + r < 793; omega) (by decide)) (by rw [nI_clamp (by omega)]; exact eo) ?_
    refine g_istore (lv' := [(9, .int o), (8, .int (nI bb)), (7, .int (nI aa)), (6, .int (nI (60 * p + r))), (5, .int (nI (1200 * u - 1200 + 100 * p - 100))), (4, .int (nI p)), (3, .int (nI u)), (0, .ref am), (1, .int (nI c)), (2, .int (nI r))]) (n := 71) hX dX8_step_69 rfl (by rw [hnL]; rfl) rfl ?_
    refine g_iload (n := 73) hX dX8_step_71 rfl rfl ?_
    refine g_bipush (n := 75) (v := 9) hX dX8_step_73 rfl rfl ?_
    refine g_icmp_lt (n := 78) (tgt := 85) hX dX8_step_75 rfl (by decide) (fun c75 => ?_) (fun c75 => absurd (by rw [e] <;> decide) c75)
    refine g_aload_n (n := 86) hX dX8_step_85 rfl rfl rfl ?_
    refine g_mget (n := 89) 24 (v := .ref (A 20)) hX hU dX8_step_86 rfl uf_X8_71 rfl rfl rfl ?_
    refine g_iload (n := 91) hX dX8_step_89 rfl rfl ?_
    refine g_iload (n := 93) hX dX8_step_91 rfl rfl ?_
    refine g_iadd (n := 94) (v := nI (wk u p aa)) hX dX8_step_93 rfl (nI_add _ _) ?_
    refine g_mbld (n := 95) 20 (v := σ.1 20 (wk u p aa)) hX hY dX8_step_94 rfl rfl rfl (vp_in_nI (show wk u p aa < mN 20 by show wk u p aa < 12000; unfold wk; omega) (by decide)) (by rw [nI_clamp (by unfold wk; omega)]) ?_
    refine g_goto (n := 99) hX dX8_step_95 (by decide) ?_
    refine g_istore (lv' := [(10, .int (σ.1 20 (wk u p aa))), (9, .int o), (8, .int (nI bb)), (7, .int (nI aa)), (6, .int (nI (60 * p + r))), (5, .int (nI (1200 * u - 1200 + 100 * p - 100))), (4, .int (nI p)), (3, .int (nI u)), (0, .ref am), (1, .int (nI c)), (2, .int (nI r))]) (n := 101) hX dX8_step_99 rfl (by rw [hnL]; rfl) rfl ?_
    refine g_iload (n := 103) hX dX8_step_101 rfl rfl ?_
    refine g_if_le (n := 106) (tgt := 126) hX dX8_step_103 rfl (by decide) (fun c103 => absurd c103 (by rw [e] <;> decide)) (fun c103 => ?_)
    refine g_iload (n := 108) hX dX8_step_106 rfl rfl ?_
    refine g_bipush (n := 110) (v := 8) hX dX8_step_108 rfl rfl ?_
    refine g_icmp_ge (n := 113) (tgt := 126) hX dX8_step_110 rfl (by decide) (fun c110 => absurd c110 (by rw [e] <;> decide)) (fun c110 => ?_)
    refine g_aload_n (n := 114) hX dX8_step_113 rfl rfl rfl ?_
    refine g_mget (n := 117) 24 (v := .ref (A 20)) hX hU dX8_step_114 rfl uf_X8_71 rfl rfl rfl ?_
    refine g_iload (n := 119) hX dX8_step_117 rfl rfl ?_
    refine g_iload (n := 121) hX dX8_step_119 rfl rfl ?_
    refine g_iadd (n := 122) (v := nI (wk u p bb)) hX dX8_step_121 rfl (nI_add _ _) ?_
    refine g_mbld (n := 123) 20 (v := σ.1 20 (wk u p bb)) hX hY dX8_step_122 rfl rfl rfl (vp_in_nI (show wk u p bb < mN 20 by show wk u p bb < 12000; unfold wk; omega) (by decide)) (by rw [nI_clamp (by unfold wk; omega)]) ?_
    refine g_goto (n := 127) hX dX8_step_123 (by decide) ?_
    refine g_istore (lv' := [(11, .int (σ.1 20 (wk u p bb))), (10, .int (σ.1 20 (wk u p aa))), (9, .int o), (8, .int (nI bb)), (7, .int (nI aa)), (6, .int (nI (60 * p + r))), (5, .int (nI (1200 * u - 1200 + 100 * p - 100))), (4, .int (nI p)), (3, .int (nI u)), (0, .ref am), (1, .int (nI c)), (2, .int (nI r))]) (n := 129) hX dX8_step_127 rfl (by rw [hnL]; rfl) rfl ?_
    refine g_iload (n := 131) hX dX8_step_129 rfl rfl ?_
    refine g_iconst (n := 132) (v := 5) hX dX8_step_131 rfl rfl ?_
    refine g_icmp_eq (n := 135) (tgt := 142) hX dX8_step_132 rfl (by decide) (fun c132 => absurd c132 (by rw [e] <;> decide)) (fun c132 => ?_)
    refine g_iload (n := 137) hX dX8_step_135 rfl rfl ?_
    refine g_bipush (n := 139) (v := 6) hX dX8_step_137 rfl rfl ?_
    refine g_icmp_ne (n := 142) (tgt := 149) hX dX8_step_139 rfl (by decide) (fun c139 => ?_) (fun c139 => absurd c139 (by rw [e] <;> decide))
    refine g_iload (n := 151) hX dX8_step_149 rfl rfl ?_
    refine g_tableIn (n := 336) (off := 185) hX dX8_step_151 (by rw [e]; decide) (by rw [e]; decide) (by rw [e]; rfl) (by decide) ?_
    refine g_iload (n := 338) hX dX8_step_336 rfl rfl ?_
    refine g_if_lt (n := 341) (tgt := 353) hX dX8_step_338 rfl (by decide) (fun c338 => ?_) (fun c338 => ?_)
    · refine g_iconst (n := 354) (v := 2) hX dX8_step_353 rfl rfl ?_
      exact g_iret hX hR dX8_step_354 (by unfold S_stepO; rw [if_neg (by rw [e]; decide), if_neg (by rw [e]; decide), if_neg (by rw [e]; decide), if_neg (by rw [e]; decide), if_neg (by rw [e]; decide), if_neg (by rw [e]; decide), if_neg (by rw [e]; decide), if_pos e, hca, hcb, hz, if_pos c338]; (try rw [pk_vb]); exact ⟨rfl, rfl⟩)
    · refine g_iload (n := 343) hX dX8_step_341 rfl rfl ?_
      refine g_aload_n (n := 344) hX dX8_step_343 rfl rfl rfl ?_
      refine g_mget (n := 347) 4 (v := .ref (A 0)) hX hU dX8_step_344 rfl uf_X8_7 rfl rfl rfl ?_
      refine g_iload (n := 349) hX dX8_step_347 rfl rfl ?_
      refine g_mild (n := 350) 0 (v := nI z) hX hY dX8_step_349 rfl rfl rfl (vp_in_nI (show p < mN 0 by show p < 13; omega) (by decide)) (by rw [nI_clamp (by omega)]; exact hz) ?_
      refine g_icmp_lt (n := 353) (tgt := 355) hX dX8_step_350 rfl (by decide) (fun c350 => ?_) (fun c350 => ?_)
      · obtain ⟨xx, hxx, exx⟩ := nI_of c338
        have hxz : xx < z := by rw [exx] at c350; exact (nI_ltI hxx (by omega)).mp c350
        have hcx : (σ.1 20 (wk u p aa)).toNatClampNeg = xx := by rw [exx]; exact nI_clamp hxx
        refine g_aload_n (n := 356) hX dX8_step_355 rfl rfl rfl ?_
        refine g_mget (n := 359) 24 (v := .ref (A 20)) hX hU dX8_step_356 rfl uf_X8_71 rfl rfl rfl ?_
        refine g_iload (n := 361) hX dX8_step_359 rfl rfl ?_
        refine g_iload (n := 363) hX dX8_step_361 rfl rfl ?_
        refine g_iadd (n := 364) (v := nI (wk u p xx)) hX dX8_step_363 rfl (by rw [exx]; exact nI_add _ _) ?_
        refine g_iload (n := 366) hX dX8_step_364 rfl rfl ?_
        refine g_i2b (n := 367) (v := (σ.1 20 (wk u p bb)).toInt8.toInt32) hX dX8_step_366 rfl rfl ?_
        refine g_mbst (n := 368) 20 (i0 := wk u p xx) hX hY dX8_step_367 rfl rfl rfl (vp_in_nI (show wk u p xx < mN 20 by show wk u p xx < 12000; unfold wk; omega) (by decide)) (nI_clamp (by unfold wk; omega)) ?_
        refine g_iconst (n := 369) (v := 0) hX dX8_step_368 rfl rfl ?_
        exact g_iret hX hR dX8_step_369 (by unfold S_stepO; rw [if_neg (by rw [e]; decide), if_neg (by rw [e]; decide), if_neg (by rw [e]; decide), if_neg (by rw [e]; decide), if_neg (by rw [e]; decide), if_neg (by rw [e]; decide), if_neg (by rw [e]; decide), if_pos e, hca, hcb, hz, if_neg c338, if_pos c350, hcx]; (try rw [pk_vb]); exact ⟨rfl, rfl⟩)
      · refine g_iconst (n := 354) (v := 2) hX dX8_step_353 rfl rfl ?_
        exact g_iret hX hR dX8_step_354 (by unfold S_stepO; rw [if_neg (by rw [e]; decide), if_neg (by rw [e]; decide), if_neg (by rw [e]; decide), if_neg (by rw [e]; decide), if_neg (by rw [e]; decide), if_neg (by rw [e]; decide), if_neg (by rw [e]; decide), if_pos e, hca, hcb, hz, if_neg c338, if_neg c350]; (try rw [pk_vb]); exact ⟨rfl, rfl⟩)
  · obtain ⟨aa, rfl, haa⟩ := hv1 (Or.inr (Or.inr (Or.inl e)))
    have hca : (nI aa).toNatClampNeg = aa := nI_clamp (by omega)
    refine g_aload_n (n := 1) hX dX8_step_0 rfl rfl rfl ?_
    refine g_mget (n := 4) 10 (v := .ref (A 6)) hX hU dX8_step_1 rfl uf_X8_29 rfl rfl rfl ?_
    refine g_iload_n (n := 5) hX dX8_step_4 rfl rfl rfl ?_
    refine g_mild (n := 6) 6 (v := nI u) hX hY dX8_step_5 rfl rfl rfl (vp_in_nI (show c < mN 6 by show c < 41; omega) (by decide)) (by rw [nI_clamp (by omega)]; exact huc) ?_
    refine g_istore_n (lv' := [(3, .int (nI u)), (0, .ref am), (1, .int (nI c)), (2, .int (nI r))]) (n := 7) hX dX8_step_6 rfl rfl (by rw [hnL]; rfl) rfl ?_
    refine g_aload_n (n := 8) hX dX8_step_7 rfl rfl rfl ?_
    refine g_mget (n := 11) 11 (v := .ref (A 7)) hX hU dX8_step_8 rfl uf_X8_32 rfl rfl rfl ?_
    refine g_iload_n (n := 12) hX dX8_step_11 rfl rfl rfl ?_
    refine g_mild (n := 13) 7 (v := nI p) hX hY dX8_step_12 rfl rfl rfl (vp_in_nI (show c < mN 7 by show c < 41; omega) (by decide)) (by rw [nI_clamp (by omega)]; exact hpc) ?_
    refine g_istore (lv' := [(4, .int (nI p)), (3, .int (nI u)), (0, .ref am), (1, .int (nI c)), (2, .int (nI r))]) (n := 15) hX dX8_step_13 rfl (by rw [hnL]; rfl) rfl ?_
    refine g_sipush (n := 18) (v := 1200) hX dX8_step_15 rfl rfl ?_
    refine g_iload_n (n := 19) hX dX8_step_18 rfl rfl rfl ?_
    refine g_imul (n := 20) (v := nI (1200 * u)) hX dX8_step_19 rfl (pk_mul (1200) (u)) ?_
    refine g_sipush (n := 23) (v := 1200) hX dX8_step_20 rfl rfl ?_
    refine g_isub (n := 24) (v := nI (1200 * u - 1200)) hX dX8_step_23 rfl (by rw [show (1200 : Int32) = nI 1200 from rfl, pk_sub (by omega)]) ?_
    refine g_bipush (n := 26) (v := 100) hX dX8_step_24 rfl rfl ?_
    refine g_iload (n := 28) hX dX8_step_26 rfl rfl ?_
    refine g_imul (n := 29) (v := nI (100 * p)) hX dX8_step_28 rfl (pk_mul (100) (p)) ?_
    refine g_iadd (n := 30) (v := nI (1200 * u - 1200 + 100 * p)) hX dX8_step_29 rfl (nI_add (1200 * u - 1200) (100 * p)) ?_
    refine g_bipush (n := 32) (v := 100) hX dX8_step_30 rfl rfl ?_
    refine g_isub (n := 33) (v := nI (1200 * u - 1200 + 100 * p - 100)) hX dX8_step_32 rfl (by rw [show (100 : Int32) = nI 100 from rfl, pk_sub (by omega)]) ?_
    refine g_istore (lv' := [(5, .int (nI (1200 * u - 1200 + 100 * p - 100))), (4, .int (nI p)), (3, .int (nI u)), (0, .ref am), (1, .int (nI c)), (2, .int (nI r))]) (n := 35) hX dX8_step_33 rfl (by rw [hnL]; rfl) rfl ?_
    refine g_bipush (n := 37) (v := 60) hX dX8_step_35 rfl rfl ?_
    refine g_iload (n := 39) hX dX8_step_37 rfl rfl ?_
    refine g_imul (n := 40) (v := nI (60 * p)) hX dX8_step_39 rfl (pk_mul (60) (p)) ?_
    refine g_iload_n (n := 41) hX dX8_step_40 rfl rfl rfl ?_
    refine g_iadd (n := 42) (v := nI (60 * p + r)) hX dX8_step_41 rfl (nI_add (60 * p) (r)) ?_
    refine g_istore (lv' := [(6, .int (nI (60 * p + r))), (5, .int (nI (1200 * u - 1200 + 100 * p - 100))), (4, .int (nI p)), (3, .int (nI u)), (0, .ref am), (1, .int (nI c)), (2, .int (nI r))]) (n := 44) hX dX8_step_42 rfl (by rw [hnL]; rfl) rfl ?_
    refine g_aload_n (n := 45) hX dX8_step_44 rfl rfl rfl ?_
    refine g_mget (n := 48) 7 (v := .ref (A 3)) hX hU dX8_step_45 rfl uf_X8_19 rfl rfl rfl ?_
    refine g_iload (n := 50) hX dX8_step_48 rfl rfl ?_
    refine g_mild (n := 51) 3 (v := nI aa) hX hY dX8_step_50 rfl rfl rfl (vp_in_nI (show 60 * p + r < mN 3 by show 60 * p + r < 793; omega) (by decide)) (by rw [nI_clamp (by omega)]; exact ea) ?_
    refine g_istore (lv' := [(7, .int (nI aa)), (6, .int (nI (60 * p + r))), (5, .int (nI (1200 * u - 1200 + 100 * p - 100))), (4, .int (nI p)), (3, .int (nI u)), (0, .ref am), (1, .int (nI c)), (2, .int (nI r))]) (n := 53) hX dX8_step_51 rfl (by rw [hnL]; rfl) rfl ?_
    refine g_aload_n (n := 54) hX dX8_step_53 rfl rfl rfl ?_
    refine g_mget (n := 57) 8 (v := .ref (A 4)) hX hU dX8_step_54 rfl uf_X8_22 rfl rfl rfl ?_
    refine g_iload (n := 59) hX dX8_step_57 rfl rfl ?_
    refine g_mild (n := 60) 4 (v := b) hX hY dX8_step_59 rfl rfl rfl (vp_in_nI (show 60 * p + r < mN 4 by show 60 * p + r < 793; omega) (by decide)) (by rw [nI_clamp (by omega)]; exact eb) ?_
    refine g_istore (lv' := [(8, .int b), (7, .int (nI aa)), (6, .int (nI (60 * p + r))), (5, .int (nI (1200 * u - 1200 + 100 * p - 100))), (4, .int (nI p)), (3, .int (nI u)), (0, .ref am), (1, .int (nI c)), (2, .int (nI r))]) (n := 62) hX dX8_step_60 rfl (by rw [hnL]; rfl) rfl ?_
    refine g_aload_n (n := 63) hX dX8_step_62 rfl rfl rfl ?_
    refine g_mget (n := 66) 6 (v := .ref (A 2)) hX hU dX8_step_63 rfl uf_X8_16 rfl rfl rfl ?_
    refine g_iload (n := 68) hX dX8_step_66 rfl rfl ?_
    refine g_mild (n := 69) 2 (v := o) hX hY dX8_step_68 rfl rfl rfl (vp_in_nI (show 60 * p + r < mN 2 by show 60 * p + r < 793; omega) (by decide)) (by rw [nI_clamp (by omega)]; exact eo) ?_
    refine g_istore (lv' := [(9, .int o), (8, .int b), (7, .int (nI aa)), (6, .int (nI (60 * p + r))), (5, .int (nI (1200 * u - 1200 + 100 * p - 100))), (4, .int (nI p)), (3, .int (nI u)), (0, .ref am), (1, .int (nI c)), (2, .int (nI r))]) (n := 71) hX dX8_step_69 rfl (by rw [hnL]; rfl) rfl ?_
    refine g_iload (n := 73) hX dX8_step_71 rfl rfl ?_
    refine g_bipush (n := 75) (v := 9) hX dX8_step_73 rfl rfl ?_
    refine g_icmp_lt (n := 78) (tgt := 85) hX dX8_step_75 rfl (by decide) (fun c75 => ?_) (fun c75 => absurd (by rw [e] <;> decide) c75)
    refine g_aload_n (n := 86) hX dX8_step_85 rfl rfl rfl ?_
    refine g_mget (n := 89) 24 (v := .ref (A 20)) hX hU dX8_step_86 rfl uf_X8_71 rfl rfl rfl ?_
    refine g_iload (n := 91) hX dX8_step_89 rfl rfl ?_
    refine g_iload (n := 93) hX dX8_step_91 rfl rfl ?_
    refine g_iadd (n := 94) (v := nI (wk u p aa)) hX dX8_step_93 rfl (nI_add _ _) ?_
    refine g_mbld (n := 95) 20 (v := σ.1 20 (wk u p aa)) hX hY dX8_step_94 rfl rfl rfl (vp_in_nI (show wk u p aa < mN 20 by show wk u p aa < 12000; unfold wk; omega) (by decide)) (by rw [nI_clamp (by unfold wk; omega)]) ?_
    refine g_goto (n := 99) hX dX8_step_95 (by decide) ?_
    refine g_istore (lv' := [(10, .int (σ.1 20 (wk u p aa))), (9, .int o), (8, .int b), (7, .int (nI aa)), (6, .int (nI (60 * p + r))), (5, .int (nI (1200 * u - 1200 + 100 * p - 100))), (4, .int (nI p)), (3, .int (nI u)), (0, .ref am), (1, .int (nI c)), (2, .int (nI r))]) (n := 101) hX dX8_step_99 rfl (by rw [hnL]; rfl) rfl ?_
    refine g_iload (n := 103) hX dX8_step_101 rfl rfl ?_
    refine g_if_le (n := 106) (tgt := 126) hX dX8_step_103 rfl (by decide) (fun c103 => absurd c103 (by rw [e] <;> decide)) (fun c103 => ?_)
    refine g_iload (n := 108) hX dX8_step_106 rfl rfl ?_
    refine g_bipush (n := 110) (v := 8) hX dX8_step_108 rfl rfl ?_
    refine g_icmp_ge (n := 113) (tgt := 126) hX dX8_step_110 rfl (by decide) (fun c110 => ?_) (fun c110 => absurd (by rw [e] <;> decide) c110)
    refine g_iconst (n := 127) (v := 0) hX dX8_step_126 rfl rfl ?_
    refine g_istore (lv' := [(11, .int 0), (10, .int (σ.1 20 (wk u p aa))), (9, .int o), (8, .int b), (7, .int (nI aa)), (6, .int (nI (60 * p + r))), (5, .int (nI (1200 * u - 1200 + 100 * p - 100))), (4, .int (nI p)), (3, .int (nI u)), (0, .ref am), (1, .int (nI c)), (2, .int (nI r))]) (n := 129) hX dX8_step_127 rfl (by rw [hnL]; rfl) rfl ?_
    refine g_iload (n := 131) hX dX8_step_129 rfl rfl ?_
    refine g_iconst (n := 132) (v := 5) hX dX8_step_131 rfl rfl ?_
    refine g_icmp_eq (n := 135) (tgt := 142) hX dX8_step_132 rfl (by decide) (fun c132 => absurd c132 (by rw [e] <;> decide)) (fun c132 => ?_)
    refine g_iload (n := 137) hX dX8_step_135 rfl rfl ?_
    refine g_bipush (n := 139) (v := 6) hX dX8_step_137 rfl rfl ?_
    refine g_icmp_ne (n := 142) (tgt := 149) hX dX8_step_139 rfl (by decide) (fun c139 => ?_) (fun c139 => absurd c139 (by rw [e] <;> decide))
    refine g_iload (n := 151) hX dX8_step_149 rfl rfl ?_
    refine g_tableIn (n := 370) (off := 219) hX dX8_step_151 (by rw [e]; decide) (by rw [e]; decide) (by rw [e]; rfl) (by decide) ?_
    refine g_iload (n := 372) hX dX8_step_370 rfl rfl ?_
    refine g_if_ne (n := 375) (tgt := 388) hX dX8_step_372 rfl (by decide) (fun c372 => ?_) (fun c372 => ?_)
    · refine g_iconst (n := 389) (v := 0) hX dX8_step_388 rfl rfl ?_
      exact g_iret hX hR dX8_step_389 (by unfold S_stepO; rw [if_neg (by rw [e]; decide), if_neg (by rw [e]; decide), if_neg (by rw [e]; decide), if_neg (by rw [e]; decide), if_neg (by rw [e]; decide), if_neg (by rw [e]; decide), if_neg (by rw [e]; decide), if_neg (by rw [e]; decide), if_pos e, hca, if_neg c372]; exact ⟨rfl, rfl⟩)
    · refine g_aload_n (n := 376) hX dX8_step_375 rfl rfl rfl ?_
      refine g_mget (n := 379) 28 (v := .ref (A 23)) hX hU dX8_step_376 rfl uf_X8_81 rfl rfl rfl ?_
      refine g_aload_n (n := 380) hX dX8_step_379 rfl rfl rfl ?_
      refine g_mget (n := 383) 26 (v := .int (nI d)) hX hU dX8_step_380 rfl uf_X8_122 rfl rfl (congrArg (fun z => some (Value.int z)) hd) ?_
      refine g_iconst (n := 384) (v := 1) hX dX8_step_383 rfl rfl ?_
      refine g_isub (n := 385) (v := nI (d - 1)) hX dX8_step_384 rfl (nI_sub1 hd1) ?_
      refine g_iload (n := 387) hX dX8_step_385 rfl rfl ?_
      refine g_mist (n := 388) 23 (i0 := d - 1) hX hY dX8_step_387 rfl rfl rfl (vp_in_nI (show d - 1 < mN 23 by show d - 1 < 12; omega) (by decide)) (nI_clamp (by omega)) ?_
      refine g_iconst (n := 389) (v := 0) hX dX8_step_388 rfl rfl ?_
      exact g_iret hX hR dX8_step_389 (by unfold S_stepO; rw [if_neg (by rw [e]; decide), if_neg (by rw [e]; decide), if_neg (by rw [e]; decide), if_neg (by rw [e]; decide), if_neg (by rw [e]; decide), if_neg (by rw [e]; decide), if_neg (by rw [e]; decide), if_neg (by rw [e]; decide), if_pos e, hca, if_pos c372, ed]; exact ⟨rfl, rfl⟩)
  · refine g_aload_n (n := 1) hX dX8_step_0 rfl rfl rfl ?_
    refine g_mget (n := 4) 10 (v := .ref (A 6)) hX hU dX8_step_1 rfl uf_X8_29 rfl rfl rfl ?_
    refine g_iload_n (n := 5) hX dX8_step_4 rfl rfl rfl ?_
    refine g_mild (n := 6) 6 (v := nI u) hX hY dX8_step_5 rfl rfl rfl (vp_in_nI (show c < mN 6 by show c < 41; omega) (by decide)) (by rw [nI_clamp (by omega)]; exact huc) ?_
    refine g_istore_n (lv' := [(3, .int (nI u)), (0, .ref am), (1, .int (nI c)), (2, .int (nI r))]) (n := 7) hX dX8_step_6 rfl rfl (by rw [hnL]; rfl) rfl ?_
    refine g_aload_n (n := 8) hX dX8_step_7 rfl rfl rfl ?_
    refine g_mget (n := 11) 11 (v := .ref (A 7)) hX hU dX8_step_8 rfl uf_X8_32 rfl rfl rfl ?_
    refine g_iload_n (n := 12) hX dX8_step_11 rfl rfl rfl ?_
    refine g_mild (n := 13) 7 (v := nI p) hX hY dX8_step_12 rfl rfl rfl (vp_in_nI (show c < mN 7 by show c < 41; omega) (by decide)) (by rw [nI_clamp (by omega)]; exact hpc) ?_
    refine g_istore (lv' := [(4, .int (nI p)), (3, .int (nI u)), (0, .ref am), (1, .int (nI c)), (2, .int (nI r))]) (n := 15) hX dX8_step_13 rfl (by rw [hnL]; rfl) rfl ?_
    refine g_sipush (n := 18) (v := 1200) hX dX8_step_15 rfl rfl ?_
    refine g_iload_n (n := 19) hX dX8_step_18 rfl rfl rfl ?_
    refine g_imul (n := 20) (v := nI (1200 * u)) hX dX8_step_19 rfl (pk_mul (1200) (u)) ?_
    refine g_sipush (n := 23) (v := 1200) hX dX8_step_20 rfl rfl ?_
    refine g_isub (n := 24) (v := nI (1200 * u - 1200)) hX dX8_step_23 rfl (by rw [show (1200 : Int32) = nI 1200 from rfl, pk_sub (by omega)]) ?_
    refine g_bipush (n := 26) (v := 100) hX dX8_step_24 rfl rfl ?_
    refine g_iload (n := 28) hX dX8_step_26 rfl rfl ?_
    refine g_imul (n := 29) (v := nI (100 * p)) hX dX8_step_28 rfl (pk_mul (100) (p)) ?_
    refine g_iadd (n := 30) (v := nI (1200 * u - 1200 + 100 * p)) hX dX8_step_29 rfl (nI_add (1200 * u - 1200) (100 * p)) ?_
    refine g_bipush (n := 32) (v := 100) hX dX8_step_30 rfl rfl ?_
    refine g_isub (n := 33) (v := nI (1200 * u - 1200 + 100 * p - 100)) hX dX8_step_32 rfl (by rw [show (100 : Int32) = nI 100 from rfl, pk_sub (by omega)]) ?_
    refine g_istore (lv' := [(5, .int (nI (1200 * u - 1200 + 100 * p - 100))), (4, .int (nI p)), (3, .int (nI u)), (0, .ref am), (1, .int (nI c)), (2, .int (nI r))]) (n := 35) hX dX8_step_33 rfl (by rw [hnL]; rfl) rfl ?_
    refine g_bipush (n := 37) (v := 60) hX dX8_step_35 rfl rfl ?_
    refine g_iload (n := 39) hX dX8_step_37 rfl rfl ?_
    refine g_imul (n := 40) (v := nI (60 * p)) hX dX8_step_39 rfl (pk_mul (60) (p)) ?_
    refine g_iload_n (n := 41) hX dX8_step_40 rfl rfl rfl ?_
    refine g_iadd (n := 42) (v := nI (60 * p + r)) hX dX8_step_41 rfl (nI_add (60 * p) (r)) ?_
    refine g_istore (lv' := [(6, .int (nI (60 * p + r))), (5, .int (nI (1200 * u - 1200 + 100 * p - 100))), (4, .int (nI p)), (3, .int (nI u)), (0, .ref am), (1, .int (nI c)), (2, .int (nI r))]) (n := 44) hX dX8_step_42 rfl (by rw [hnL]; rfl) rfl ?_
    refine g_aload_n (n := 45) hX dX8_step_44 rfl rfl rfl ?_
    refine g_mget (n := 48) 7 (v := .ref (A 3)) hX hU dX8_step_45 rfl uf_X8_19 rfl rfl rfl ?_
    refine g_iload (n := 50) hX dX8_step_48 rfl rfl ?_
    refine g_mild (n := 51) 3 (v := a) hX hY dX8_step_50 rfl rfl rfl (vp_in_nI (show 60 * p + r < mN 3 by show 60 * p + r < 793; omega) (by decide)) (by rw [nI_clamp (by omega)]; exact ea) ?_
    refine g_istore (lv' := [(7, .int a), (6, .int (nI (60 * p + r))), (5, .int (nI (1200 * u - 1200 + 100 * p - 100))), (4, .int (nI p)), (3, .int (nI u)), (0, .ref am), (1, .int (nI c)), (2, .int (nI r))]) (n := 53) hX dX8_step_51 rfl (by rw [hnL]; rfl) rfl ?_
    refine g_aload_n (n := 54) hX dX8_step_53 rfl rfl rfl ?_
    refine g_mget (n := 57) 8 (v := .ref (A 4)) hX hU dX8_step_54 rfl uf_X8_22 rfl rfl rfl ?_
    refine g_iload (n := 59) hX dX8_step_57 rfl rfl ?_
    refine g_mild (n := 60) 4 (v := b) hX hY dX8_step_59 rfl rfl rfl (vp_in_nI (show 60 * p + r < mN 4 by show 60 * p + r < 793; omega) (by decide)) (by rw [nI_clamp (by omega)]; exact eb) ?_
    refine g_istore (lv' := [(8, .int b), (7, .int a), (6, .int (nI (60 * p + r))), (5, .int (nI (1200 * u - 1200 + 100 * p - 100))), (4, .int (nI p)), (3, .int (nI u)), (0, .ref am), (1, .int (nI c)), (2, .int (nI r))]) (n := 62) hX dX8_step_60 rfl (by rw [hnL]; rfl) rfl ?_
    refine g_aload_n (n := 63) hX dX8_step_62 rfl rfl rfl ?_
    refine g_mget (n := 66) 6 (v := .ref (A 2)) hX hU dX8_step_63 rfl uf_X8_16 rfl rfl rfl ?_
    refine g_iload (n := 68) hX dX8_step_66 rfl rfl ?_
    refine g_mild (n := 69) 2 (v := o) hX hY dX8_step_68 rfl rfl rfl (vp_in_nI (show 60 * p + r < mN 2 by show 60 * p + r < 793; omega) (by decide)) (by rw [nI_clamp (by omega)]; exact eo) ?_
    refine g_istore (lv' := [(9, .int o), (8, .int b), (7, .int a), (6, .int (nI (60 * p + r))), (5, .int (nI (1200 * u - 1200 + 100 * p - 100))), (4, .int (nI p)), (3, .int (nI u)), (0, .ref am), (1, .int (nI c)), (2, .int (nI r))]) (n := 71) hX dX8_step_69 rfl (by rw [hnL]; rfl) rfl ?_
    refine g_iload (n := 73) hX dX8_step_71 rfl rfl ?_
    refine g_bipush (n := 75) (v := 9) hX dX8_step_73 rfl rfl ?_
    refine g_icmp_lt (n := 78) (tgt := 85) hX dX8_step_75 rfl (by decide) (fun c75 => absurd c75 (by rw [e] <;> decide)) (fun c75 => ?_)
    refine g_iload (n := 80) hX dX8_step_78 rfl rfl ?_
    refine g_bipush (n := 82) (v := 13) hX dX8_step_80 rfl rfl ?_
    refine g_icmp_ne (n := 85) (tgt := 98) hX dX8_step_82 rfl (by decide) (fun c82 => ?_) (fun c82 => absurd c82 (by rw [e] <;> decide))
    refine g_iconst (n := 99) (v := 0) hX dX8_step_98 rfl rfl ?_
    refine g_istore (lv' := [(10, .int 0), (9, .int o), (8, .int b), (7, .int a), (6, .int (nI (60 * p + r))), (5, .int (nI (1200 * u - 1200 + 100 * p - 100))), (4, .int (nI p)), (3, .int (nI u)), (0, .ref am), (1, .int (nI c)), (2, .int (nI r))]) (n := 101) hX dX8_step_99 rfl (by rw [hnL]; rfl) rfl ?_
    refine g_iload (n := 103) hX dX8_step_101 rfl rfl ?_
    refine g_if_le (n := 106) (tgt := 126) hX dX8_step_103 rfl (by decide) (fun c103 => absurd c103 (by rw [e] <;> decide)) (fun c103 => ?_)
    refine g_iload (n := 108) hX dX8_step_106 rfl rfl ?_
    refine g_bipush (n := 110) (v := 8) hX dX8_step_108 rfl rfl ?_
    refine g_icmp_ge (n := 113) (tgt := 126) hX dX8_step_110 rfl (by decide) (fun c110 => ?_) (fun c110 => absurd (by rw [e] <;> decide) c110)
    refine g_iconst (n := 127) (v := 0) hX dX8_step_126 rfl rfl ?_
    refine g_istore (lv' := [(11, .int 0), (10, .int 0), (9, .int o), (8, .int b), (7, .int a), (6, .int (nI (60 * p + r))), (5, .int (nI (1200 * u - 1200 + 100 * p - 100))), (4, .int (nI p)), (3, .int (nI u)), (0, .ref am), (1, .int (nI c)), (2, .int (nI r))]) (n := 129) hX dX8_step_127 rfl (by rw [hnL]; rfl) rfl ?_
    refine g_iload (n := 131) hX dX8_step_129 rfl rfl ?_
    refine g_iconst (n := 132) (v := 5) hX dX8_step_131 rfl rfl ?_
    refine g_icmp_eq (n := 135) (tgt := 142) hX dX8_step_132 rfl (by decide) (fun c132 => absurd c132 (by rw [e] <;> decide)) (fun c132 => ?_)
    refine g_iload (n := 137) hX dX8_step_135 rfl rfl ?_
    refine g_bipush (n := 139) (v := 6) hX dX8_step_137 rfl rfl ?_
    refine g_icmp_ne (n := 142) (tgt := 149) hX dX8_step_139 rfl (by decide) (fun c139 => ?_) (fun c139 => absurd c139 (by rw [e] <;> decide))
    refine g_iload (n := 151) hX dX8_step_149 rfl rfl ?_
    refine g_tableIn (n := 390) (off := 239) hX dX8_step_151 (by rw [e]; decide) (by rw [e]; decide) (by rw [e]; rfl) (by decide) ?_
    refine g_aload_n (n := 391) hX dX8_step_390 rfl rfl rfl ?_
    refine g_mget (n := 394) 28 (v := .ref (A 23)) hX hU dX8_step_391 rfl uf_X8_81 rfl rfl rfl ?_
    refine g_aload_n (n := 395) hX dX8_step_394 rfl rfl rfl ?_
    refine g_mget (n := 398) 26 (v := .int (nI d)) hX hU dX8_step_395 rfl uf_X8_122 rfl rfl (congrArg (fun z => some (Value.int z)) hd) ?_
    refine g_iconst (n := 399) (v := 1) hX dX8_step_398 rfl rfl ?_
    refine g_isub (n := 400) (v := nI (d - 1)) hX dX8_step_399 rfl (nI_sub1 hd1) ?_
    refine g_iload (n := 402) hX dX8_step_400 rfl rfl ?_
    refine g_mist (n := 403) 23 (i0 := d - 1) hX hY dX8_step_402 rfl rfl rfl (vp_in_nI (show d - 1 < mN 23 by show d - 1 < 12; omega) (by decide)) (nI_clamp (by omega)) ?_
    refine g_iconst (n := 404) (v := 0) hX dX8_step_403 rfl rfl ?_
    exact g_iret hX hR dX8_step_404 (by unfold S_stepO; rw [if_neg (by rw [e]; decide), if_neg (by rw [e]; decide), if_neg (by rw [e]; decide), if_neg (by rw [e]; decide), if_neg (by rw [e]; decide), if_neg (by rw [e]; decide), if_neg (by rw [e]; decide), if_neg (by rw [e]; decide), if_neg (by rw [e]; decide), if_pos e, ed]; exact ⟨rfl, rfl⟩)
  · refine g_aload_n (n := 1) hX dX8_step_0 rfl rfl rfl ?_
    refine g_mget (n := 4) 10 (v := .ref (A 6)) hX hU dX8_step_1 rfl uf_X8_29 rfl rfl rfl ?_
    refine g_iload_n (n := 5) hX dX8_step_4 rfl rfl rfl ?_
    refine g_mild (n := 6) 6 (v := nI u) hX hY dX8_step_5 rfl rfl rfl (vp_in_nI (show c < mN 6 by show c < 41; omega) (by decide)) (by rw [nI_clamp (by omega)]; exact huc) ?_
    refine g_istore_n (lv' := [(3, .int (nI u)), (0, .ref am), (1, .int (nI c)), (2, .int (nI r))]) (n := 7) hX dX8_step_6 rfl rfl (by rw [hnL]; rfl) rfl ?_
    refine g_aload_n (n := 8) hX dX8_step_7 rfl rfl rfl ?_
    refine g_mget (n := 11) 11 (v := .ref (A 7)) hX hU dX8_step_8 rfl uf_X8_32 rfl rfl rfl ?_
    refine g_iload_n (n := 12) hX dX8_step_11 rfl rfl rfl ?_
    refine g_mild (n := 13) 7 (v := nI p) hX hY dX8_step_12 rfl rfl rfl (vp_in_nI (show c < mN 7 by show c < 41; omega) (by decide)) (by rw [nI_clamp (by omega)]; exact hpc) ?_
    refine g_istore (lv' := [(4, .int (nI p)), (3, .int (nI u)), (0, .ref am), (1, .int (nI c)), (2, .int (nI r))]) (n := 15) hX dX8_step_13 rfl (by rw [hnL]; rfl) rfl ?_
    refine g_sipush (n := 18) (v := 1200) hX dX8_step_15 rfl rfl ?_
    refine g_iload_n (n := 19) hX dX8_step_18 rfl rfl rfl ?_
    refine g_imul (n := 20) (v := nI (1200 * u)) hX dX8_step_19 rfl (pk_mul (1200) (u)) ?_
    refine g_sipush (n := 23) (v := 1200) hX dX8_step_20 rfl rfl ?_
    refine g_isub (n := 24) (v := nI (1200 * u - 1200)) hX dX8_step_23 rfl (by rw [show (1200 : Int32) = nI 1200 from rfl, pk_sub (by omega)]) ?_
    refine g_bipush (n := 26) (v := 100) hX dX8_step_24 rfl rfl ?_
    refine g_iload (n := 28) hX dX8_step_26 rfl rfl ?_
    refine g_imul (n := 29) (v := nI (100 * p)) hX dX8_step_28 rfl (pk_mul (100) (p)) ?_
    refine g_iadd (n := 30) (v := nI (1200 * u - 1200 + 100 * p)) hX dX8_step_29 rfl (nI_add (1200 * u - 1200) (100 * p)) ?_
    refine g_bipush (n := 32) (v := 100) hX dX8_step_30 rfl rfl ?_
    refine g_isub (n := 33) (v := nI (1200 * u - 1200 + 100 * p - 100)) hX dX8_step_32 rfl (by rw [show (100 : Int32) = nI 100 from rfl, pk_sub (by omega)]) ?_
    refine g_istore (lv' := [(5, .int (nI (1200 * u - 1200 + 100 * p - 100))), (4, .int (nI p)), (3, .int (nI u)), (0, .ref am), (1, .int (nI c)), (2, .int (nI r))]) (n := 35) hX dX8_step_33 rfl (by rw [hnL]; rfl) rfl ?_
    refine g_bipush (n := 37) (v := 60) hX dX8_step_35 rfl rfl ?_
    refine g_iload (n := 39) hX dX8_step_37 rfl rfl ?_
    refine g_imul (n := 40) (v := nI (60 * p)) hX dX8_step_39 rfl (pk_mul (60) (p)) ?_
    refine g_iload_n (n := 41) hX dX8_step_40 rfl rfl rfl ?_
    refine g_iadd (n := 42) (v := nI (60 * p + r)) hX dX8_step_41 rfl (nI_add (60 * p) (r)) ?_
    refine g_istore (lv' := [(6, .int (nI (60 * p + r))), (5, .int (nI (1200 * u - 1200 + 100 * p - 100))), (4, .int (nI p)), (3, .int (nI u)), (0, .ref am), (1, .int (nI c)), (2, .int (nI r))]) (n := 44) hX dX8_step_42 rfl (by rw [hnL]; rfl) rfl ?_
    refine g_aload_n (n := 45) hX dX8_step_44 rfl rfl rfl ?_
    refine g_mget (n := 48) 7 (v := .ref (A 3)) hX hU dX8_step_45 rfl uf_X8_19 rfl rfl rfl ?_
    refine g_iload (n := 50) hX dX8_step_48 rfl rfl ?_
    refine g_mild (n := 51) 3 (v := a) hX hY dX8_step_50 rfl rfl rfl (vp_in_nI (show 60 * p + r < mN 3 by show 60 * p + r < 793; omega) (by decide)) (by rw [nI_clamp (by omega)]; exact ea) ?_
    refine g_istore (lv' := [(7, .int a), (6, .int (nI (60 * p + r))), (5, .int (nI (1200 * u - 1200 + 100 * p - 100))), (4, .int (nI p)), (3, .int (nI u)), (0, .ref am), (1, .int (nI c)), (2, .int (nI r))]) (n := 53) hX dX8_step_51 rfl (by rw [hnL]; rfl) rfl ?_
    refine g_aload_n (n := 54) hX dX8_step_53 rfl rfl rfl ?_
    refine g_mget (n := 57) 8 (v := .ref (A 4)) hX hU dX8_step_54 rfl uf_X8_22 rfl rfl rfl ?_
    refine g_iload (n := 59) hX dX8_step_57 rfl rfl ?_
    refine g_mild (n := 60) 4 (v := b) hX hY dX8_step_59 rfl rfl rfl (vp_in_nI (show 60 * p + r < mN 4 by show 60 * p + r < 793; omega) (by decide)) (by rw [nI_clamp (by omega)]; exact eb) ?_
    refine g_istore (lv' := [(8, .int b), (7, .int a), (6, .int (nI (60 * p + r))), (5, .int (nI (1200 * u - 1200 + 100 * p - 100))), (4, .int (nI p)), (3, .int (nI u)), (0, .ref am), (1, .int (nI c)), (2, .int (nI r))]) (n := 62) hX dX8_step_60 rfl (by rw [hnL]; rfl) rfl ?_
    refine g_aload_n (n := 63) hX dX8_step_62 rfl rfl rfl ?_
    refine g_mget (n := 66) 6 (v := .ref (A 2)) hX hU dX8_step_63 rfl uf_X8_16 rfl rfl rfl ?_
    refine g_iload (n := 68) hX dX8_step_66 rfl rfl ?_
    refine g_mild (n := 69) 2 (v := o) hX hY dX8_step_68 rfl rfl rfl (vp_in_nI (show 60 * p + r < mN 2 by show 60 * p + r < 793; omega) (by decide)) (by rw [nI_clamp (by omega)]; exact eo) ?_
    refine g_istore (lv' := [(9, .int o), (8, .int b), (7, .int a), (6, .int (nI (60 * p + r))), (5, .int (nI (1200 * u - 1200 + 100 * p - 100))), (4, .int (nI p)), (3, .int (nI u)), (0, .ref am), (1, .int (nI c)), (2, .int (nI r))]) (n := 71) hX dX8_step_69 rfl (by rw [hnL]; rfl) rfl ?_
    refine g_iload (n := 73) hX dX8_step_71 rfl rfl ?_
    refine g_bipush (n := 75) (v := 9) hX dX8_step_73 rfl rfl ?_
    refine g_icmp_lt (n := 78) (tgt := 85) hX dX8_step_75 rfl (by decide) (fun c75 => absurd c75 (by rw [e] <;> decide)) (fun c75 => ?_)
    refine g_iload (n := 80) hX dX8_step_78 rfl rfl ?_
    refine g_bipush (n := 82) (v := 13) hX dX8_step_80 rfl rfl ?_
    refine g_icmp_ne (n := 85) (tgt := 98) hX dX8_step_82 rfl (by decide) (fun c82 => ?_) (fun c82 => absurd c82 (by rw [e] <;> decide))
    refine g_iconst (n := 99) (v := 0) hX dX8_step_98 rfl rfl ?_
    refine g_istore (lv' := [(10, .int 0), (9, .int o), (8, .int b), (7, .int a), (6, .int (nI (60 * p + r))), (5, .int (nI (1200 * u - 1200 + 100 * p - 100))), (4, .int (nI p)), (3, .int (nI u)), (0, .ref am), (1, .int (nI c)), (2, .int (nI r))]) (n := 101) hX dX8_step_99 rfl (by rw [hnL]; rfl) rfl ?_
    refine g_iload (n := 103) hX dX8_step_101 rfl rfl ?_
    refine g_if_le (n := 106) (tgt := 126) hX dX8_step_103 rfl (by decide) (fun c103 => absurd c103 (by rw [e] <;> decide)) (fun c103 => ?_)
    refine g_iload (n := 108) hX dX8_step_106 rfl rfl ?_
    refine g_bipush (n := 110) (v := 8) hX dX8_step_108 rfl rfl ?_
    refine g_icmp_ge (n := 113) (tgt := 126) hX dX8_step_110 rfl (by decide) (fun c110 => ?_) (fun c110 => absurd (by rw [e] <;> decide) c110)
    refine g_iconst (n := 127) (v := 0) hX dX8_step_126 rfl rfl ?_
    refine g_istore (lv' := [(11, .int 0), (10, .int 0), (9, .int o), (8, .int b), (7, .int a), (6, .int (nI (60 * p + r))), (5, .int (nI (1200 * u - 1200 + 100 * p - 100))), (4, .int (nI p)), (3, .int (nI u)), (0, .ref am), (1, .int (nI c)), (2, .int (nI r))]) (n := 129) hX dX8_step_127 rfl (by rw [hnL]; rfl) rfl ?_
    refine g_iload (n := 131) hX dX8_step_129 rfl rfl ?_
    refine g_iconst (n := 132) (v := 5) hX dX8_step_131 rfl rfl ?_
    refine g_icmp_eq (n := 135) (tgt := 142) hX dX8_step_132 rfl (by decide) (fun c132 => absurd c132 (by rw [e] <;> decide)) (fun c132 => ?_)
    refine g_iload (n := 137) hX dX8_step_135 rfl rfl ?_
    refine g_bipush (n := 139) (v := 6) hX dX8_step_137 rfl rfl ?_
    refine g_icmp_ne (n := 142) (tgt := 149) hX dX8_step_139 rfl (by decide) (fun c139 => ?_) (fun c139 => absurd c139 (by rw [e] <;> decide))
    refine g_iload (n := 151) hX dX8_step_149 rfl rfl ?_
    refine g_tableIn (n := 405) (off := 254) hX dX8_step_151 (by rw [e]; decide) (by rw [e]; decide) (by rw [e]; rfl) (by decide) ?_
    refine g_aload_n (n := 406) hX dX8_step_405 rfl rfl rfl ?_
    refine g_iload_n (n := 407) hX dX8_step_406 rfl rfl rfl ?_
    refine g_iload (n := 409) hX dX8_step_407 rfl rfl ?_
    refine g_callV0 (n := 412) (As := [.int (nI u), .int a]) (rest := []) hX hE hU hY dX8_step_409 rfl yv_X8_called um_X8_129 (m_called _ _ K am A σ u d a hg hu1 hu2 hd hd2 hlat) ⟨rfl, rfl⟩ (rm_le hRm rfl rfl) rfl (ci := 10) (q0 := 0) rfl rfl rfl rfl (Nat.le_of_ble_eq_true rfl) ⟨Nat.zero_le _, Nat.zero_le _⟩ (fun v0 w0 hq0 => ?_)
    obtain ⟨rfl, rfl⟩ := hq0
    show G Γ (mW K am A ((S_called σ u a).2)) 0 0 412 [(11, .int 0), (10, .int 0), (9, .int o), (8, .int b), (7, .int a), (6, .int (nI (60 * p + r))), (5, .int (nI (1200 * u - 1200 + 100 * p - 100))), (4, .int (nI p)), (3, .int (nI u)), (0, .ref am), (1, .int (nI c)), (2, .int (nI r))] [.int ((S_called σ u a).1)]
    exact g_iret hX hR dX8_step_412 (by unfold S_stepO; rw [if_neg (by rw [e]; decide), if_neg (by rw [e]; decide), if_neg (by rw [e]; decide), if_neg (by rw [e]; decide), if_neg (by rw [e]; decide), if_neg (by rw [e]; decide), if_neg (by rw [e]; decide), if_neg (by rw [e]; decide), if_neg (by rw [e]; decide), if_neg (by rw [e]; decide), if_pos e]; exact ⟨rfl, rfl⟩)
  · obtain ⟨mk, hmk, hmk2⟩ := hg.2.2.2.2.2.2.2 u (by omega)
    have emk : nA σ 19 u = mk := nA_of hmk (by omega)
    refine g_aload_n (n := 1) hX dX8_step_0 rfl rfl rfl ?_
    refine g_mget (n := 4) 10 (v := .ref (A 6)) hX hU dX8_step_1 rfl uf_X8_29 rfl rfl rfl ?_
    refine g_iload_n (n := 5) hX dX8_step_4 rfl rfl rfl ?_
    refine g_mild (n := 6) 6 (v := nI u) hX hY dX8_step_5 rfl rfl rfl (vp_in_nI (show c < mN 6 by show c < 41; omega) (by decide)) (by rw [nI_clamp (by omega)]; exact huc) ?_
    refine g_istore_n (lv' := [(3, .int (nI u)), (0, .ref am), (1, .int (nI c)), (2, .int (nI r))]) (n := 7) hX dX8_step_6 rfl rfl (by rw [hnL]; rfl) rfl ?_
    refine g_aload_n (n := 8) hX dX8_step_7 rfl rfl rfl ?_
    refine g_mget (n := 11) 11 (v := .ref (A 7)) hX hU dX8_step_8 rfl uf_X8_32 rfl rfl rfl ?_
    refine g_iload_n (n := 12) hX dX8_step_11 rfl rfl rfl ?_
    refine g_mild (n := 13) 7 (v := nI p) hX hY dX8_step_12 rfl rfl rfl (vp_in_nI (show c < mN 7 by show c < 41; omega) (by decide)) (by rw [nI_clamp (by omega)]; exact hpc) ?_
    refine g_istore (lv' := [(4, .int (nI p)), (3, .int (nI u)), (0, .ref am), (1, .int (nI c)), (2, .int (nI r))]) (n := 15) hX dX8_step_13 rfl (by rw [hnL]; rfl) rfl ?_
    refine g_sipush (n := 18) (v := 1200) hX dX8_step_15 rfl rfl ?_
    refine g_iload_n (n := 19) hX dX8_step_18 rfl rfl rfl ?_
    refine g_imul (n := 20) (v := nI (1200 * u)) hX dX8_step_19 rfl (pk_mul (1200) (u)) ?_
    refine g_sipush (n := 23) (v := 1200) hX dX8_step_20 rfl rfl ?_
    refine g_isub (n := 24) (v := nI (1200 * u - 1200)) hX dX8_step_23 rfl (by rw [show (1200 : Int32) = nI 1200 from rfl, pk_sub (by omega)]) ?_
    refine g_bipush (n := 26) (v := 100) hX dX8_step_24 rfl rfl ?_
    refine g_iload (n := 28) hX dX8_step_26 rfl rfl ?_
    refine g_imul (n := 29) (v := nI (100 * p)) hX dX8_step_28 rfl (pk_mul (100) (p)) ?_
    refine g_iadd (n := 30) (v := nI (1200 * u - 1200 + 100 * p)) hX dX8_step_29 rfl (nI_add (1200 * u - 1200) (100 * p)) ?_
    refine g_bipush (n := 32) (v := 100) hX dX8_step_30 rfl rfl ?_
    refine g_isub (n := 33) (v := nI (1200 * u - 1200 + 100 * p - 100)) hX dX8_step_32 rfl (by rw [show (100 : Int32) = nI 100 from rfl, pk_sub (by omega)]) ?_
    refine g_istore (lv' := [(5, .int (nI (1200 * u - 1200 + 100 * p - 100))), (4, .int (nI p)), (3, .int (nI u)), (0, .ref am), (1, .int (nI c)), (2, .int (nI r))]) (n := 35) hX dX8_step_33 rfl (by rw [hnL]; rfl) rfl ?_
    refine g_bipush (n := 37) (v := 60) hX dX8_step_35 rfl rfl ?_
    refine g_iload (n := 39) hX dX8_step_37 rfl rfl ?_
    refine g_imul (n := 40) (v := nI (60 * p)) hX dX8_step_39 rfl (pk_mul (60) (p)) ?_
    refine g_iload_n (n := 41) hX dX8_step_40 rfl rfl rfl ?_
    refine g_iadd (n := 42) (v := nI (60 * p + r)) hX dX8_step_41 rfl (nI_add (60 * p) (r)) ?_
    refine g_istore (lv' := [(6, .int (nI (60 * p + r))), (5, .int (nI (1200 * u - 1200 + 100 * p - 100))), (4, .int (nI p)), (3, .int (nI u)), (0, .ref am), (1, .int (nI c)), (2, .int (nI r))]) (n := 44) hX dX8_step_42 rfl (by rw [hnL]; rfl) rfl ?_
    refine g_aload_n (n := 45) hX dX8_step_44 rfl rfl rfl ?_
    refine g_mget (n := 48) 7 (v := .ref (A 3)) hX hU dX8_step_45 rfl uf_X8_19 rfl rfl rfl ?_
    refine g_iload (n := 50) hX dX8_step_48 rfl rfl ?_
    refine g_mild (n := 51) 3 (v := a) hX hY dX8_step_50 rfl rfl rfl (vp_in_nI (show 60 * p + r < mN 3 by show 60 * p + r < 793; omega) (by decide)) (by rw [nI_clamp (by omega)]; exact ea) ?_
    refine g_istore (lv' := [(7, .int a), (6, .int (nI (60 * p + r))), (5, .int (nI (1200 * u - 1200 + 100 * p - 100))), (4, .int (nI p)), (3, .int (nI u)), (0, .ref am), (1, .int (nI c)), (2, .int (nI r))]) (n := 53) hX dX8_step_51 rfl (by rw [hnL]; rfl) rfl ?_
    refine g_aload_n (n := 54) hX dX8_step_53 rfl rfl rfl ?_
    refine g_mget (n := 57) 8 (v := .ref (A 4)) hX hU dX8_step_54 rfl uf_X8_22 rfl rfl rfl ?_
    refine g_iload (n := 59) hX dX8_step_57 rfl rfl ?_
    refine g_mild (n := 60) 4 (v := b) hX hY dX8_step_59 rfl rfl rfl (vp_in_nI (show 60 * p + r < mN 4 by show 60 * p + r < 793; omega) (by decide)) (by rw [nI_clamp (by omega)]; exact eb) ?_
    refine g_istore (lv' := [(8, .int b), (7, .int a), (6, .int (nI (60 * p + r))), (5, .int (nI (1200 * u - 1200 + 100 * p - 100))), (4, .int (nI p)), (3, .int (nI u)), (0, .ref am), (1, .int (nI c)), (2, .int (nI r))]) (n := 62) hX dX8_step_60 rfl (by rw [hnL]; rfl) rfl ?_
    refine g_aload_n (n := 63) hX dX8_step_62 rfl rfl rfl ?_
    refine g_mget (n := 66) 6 (v := .ref (A 2)) hX hU dX8_step_63 rfl uf_X8_16 rfl rfl rfl ?_
    refine g_iload (n := 68) hX dX8_step_66 rfl rfl ?_
    refine g_mild (n := 69) 2 (v := o) hX hY dX8_step_68 rfl rfl rfl (vp_in_nI (show 60 * p + r < mN 2 by show 60 * p + r < 793; omega) (by decide)) (by rw [nI_clamp (by omega)]; exact eo) ?_
    refine g_istore (lv' := [(9, .int o), (8, .int b), (7, .int a), (6, .int (nI (60 * p + r))), (5, .int (nI (1200 * u - 1200 + 100 * p - 100))), (4, .int (nI p)), (3, .int (nI u)), (0, .ref am), (1, .int (nI c)), (2, .int (nI r))]) (n := 71) hX dX8_step_69 rfl (by rw [hnL]; rfl) rfl ?_
    refine g_iload (n := 73) hX dX8_step_71 rfl rfl ?_
    refine g_bipush (n := 75) (v := 9) hX dX8_step_73 rfl rfl ?_
    refine g_icmp_lt (n := 78) (tgt := 85) hX dX8_step_75 rfl (by decide) (fun c75 => absurd c75 (by rw [e] <;> decide)) (fun c75 => ?_)
    refine g_iload (n := 80) hX dX8_step_78 rfl rfl ?_
    refine g_bipush (n := 82) (v := 13) hX dX8_step_80 rfl rfl ?_
    refine g_icmp_ne (n := 85) (tgt := 98) hX dX8_step_82 rfl (by decide) (fun c82 => ?_) (fun c82 => absurd c82 (by rw [e] <;> decide))
    refine g_iconst (n := 99) (v := 0) hX dX8_step_98 rfl rfl ?_
    refine g_istore (lv' := [(10, .int 0), (9, .int o), (8, .int b), (7, .int a), (6, .int (nI (60 * p + r))), (5, .int (nI (1200 * u - 1200 + 100 * p - 100))), (4, .int (nI p)), (3, .int (nI u)), (0, .ref am), (1, .int (nI c)), (2, .int (nI r))]) (n := 101) hX dX8_step_99 rfl (by rw [hnL]; rfl) rfl ?_
    refine g_iload (n := 103) hX dX8_step_101 rfl rfl ?_
    refine g_if_le (n := 106) (tgt := 126) hX dX8_step_103 rfl (by decide) (fun c103 => absurd c103 (by rw [e] <;> decide)) (fun c103 => ?_)
    refine g_iload (n := 108) hX dX8_step_106 rfl rfl ?_
    refine g_bipush (n := 110) (v := 8) hX dX8_step_108 rfl rfl ?_
    refine g_icmp_ge (n := 113) (tgt := 126) hX dX8_step_110 rfl (by decide) (fun c110 => ?_) (fun c110 => absurd (by rw [e] <;> decide) c110)
    refine g_iconst (n := 127) (v := 0) hX dX8_step_126 rfl rfl ?_
    refine g_istore (lv' := [(11, .int 0), (10, .int 0), (9, .int o), (8, .int b), (7, .int a), (6, .int (nI (60 * p + r))), (5, .int (nI (1200 * u - 1200 + 100 * p - 100))), (4, .int (nI p)), (3, .int (nI u)), (0, .ref am), (1, .int (nI c)), (2, .int (nI r))]) (n := 129) hX dX8_step_127 rfl (by rw [hnL]; rfl) rfl ?_
    refine g_iload (n := 131) hX dX8_step_129 rfl rfl ?_
    refine g_iconst (n := 132) (v := 5) hX dX8_step_131 rfl rfl ?_
    refine g_icmp_eq (n := 135) (tgt := 142) hX dX8_step_132 rfl (by decide) (fun c132 => absurd c132 (by rw [e] <;> decide)) (fun c132 => ?_)
    refine g_iload (n := 137) hX dX8_step_135 rfl rfl ?_
    refine g_bipush (n := 139) (v := 6) hX dX8_step_137 rfl rfl ?_
    refine g_icmp_ne (n := 142) (tgt := 149) hX dX8_step_139 rfl (by decide) (fun c139 => ?_) (fun c139 => absurd c139 (by rw [e] <;> decide))
    refine g_iload (n := 151) hX dX8_step_149 rfl rfl ?_
    refine g_tableIn (n := 413) (off := 262) hX dX8_step_151 (by rw [e]; decide) (by rw [e]; decide) (by rw [e]; rfl) (by decide) ?_
    refine g_aload_n (n := 414) hX dX8_step_413 rfl rfl rfl ?_
    refine g_mget (n := 417) 23 (v := .ref (A 19)) hX hU dX8_step_414 rfl uf_X8_68 rfl rfl rfl ?_
    refine g_iload_n (n := 418) hX dX8_step_417 rfl rfl rfl ?_
    refine g_mild (n := 419) 19 (v := nI mk) hX hY dX8_step_418 rfl rfl rfl (vp_in_nI (show u < mN 19 by show u < 9; omega) (by decide)) (by rw [nI_clamp (by omega)]; exact hmk) ?_
    refine g_bipush (n := 421) (v := 100) hX dX8_step_419 rfl rfl ?_
    refine g_icmp_ge (n := 424) (tgt := 455) hX dX8_step_421 rfl (by decide) (fun c421 => ?_) (fun c421 => ?_)
    · refine g_iconst (n := 456) (v := 0) hX dX8_step_455 rfl rfl ?_
      exact g_iret hX hR dX8_step_456 (by unfold S_stepO; rw [if_neg (by rw [e]; decide), if_neg (by rw [e]; decide), if_neg (by rw [e]; decide), if_neg (by rw [e]; decide), if_neg (by rw [e]; decide), if_neg (by rw [e]; decide), if_neg (by rw [e]; decide), if_neg (by rw [e]; decide), if_neg (by rw [e]; decide), if_neg (by rw [e]; decide), if_neg (by rw [e]; decide), if_pos e, hmk, if_pos c421]; exact ⟨rfl, rfl⟩)
    · have hm100 : mk < 100 := by rcases Nat.lt_or_ge mk 100 with h9 | h9; exact h9; exact absurd (nI_le (a := 100) h9 (by omega)) c421
      refine g_aload_n (n := 425) hX dX8_step_424 rfl rfl rfl ?_
      refine g_mget (n := 428) 25 (v := .ref (A 21)) hX hU dX8_step_425 rfl uf_X8_75 rfl rfl rfl ?_
      refine g_bipush (n := 430) (v := 100) hX dX8_step_428 rfl rfl ?_
      refine g_iload_n (n := 431) hX dX8_step_430 rfl rfl rfl ?_
      refine g_imul (n := 432) (v := nI (100 * u)) hX dX8_step_431 rfl (pk_mul (100) (u)) ?_
      refine g_bipush (n := 434) (v := 100) hX dX8_step_432 rfl rfl ?_
      refine g_isub (n := 435) (v := nI (100 * u - 100)) hX dX8_step_434 rfl (by rw [show (100 : Int32) = nI 100 from rfl, pk_sub (by omega)]) ?_
      refine g_aload_n (n := 436) hX dX8_step_435 rfl rfl rfl ?_
      refine g_mget (n := 439) 23 (v := .ref (A 19)) hX hU dX8_step_436 rfl uf_X8_68 rfl rfl rfl ?_
      refine g_iload_n (n := 440) hX dX8_step_439 rfl rfl rfl ?_
      refine g_mild (n := 441) 19 (v := nI mk) hX hY dX8_step_440 rfl rfl rfl (vp_in_nI (show u < mN 19 by show u < 9; omega) (by decide)) (by rw [nI_clamp (by omega)]; exact hmk) ?_
      refine g_iadd (n := 442) (v := nI (100 * u - 100 + mk)) hX dX8_step_441 rfl (nI_add (100 * u - 100) (mk)) ?_
      refine g_iload (n := 444) hX dX8_step_442 rfl rfl ?_
      refine g_mist (n := 445) 21 (i0 := 100 * u - 100 + mk) hX hY dX8_step_444 rfl rfl rfl (vp_in_nI (show 100 * u - 100 + mk < mN 21 by show 100 * u - 100 + mk < 900; omega) (by decide)) (nI_clamp (by omega)) ?_
      refine g_aload_n (n := 446) hX dX8_step_445 rfl rfl rfl ?_
      refine g_mget (n := 449) 23 (v := .ref (A 19)) hX hU dX8_step_446 rfl uf_X8_68 rfl rfl rfl ?_
      refine g_iload_n (n := 450) hX dX8_step_449 rfl rfl rfl ?_
      refine g_dup2 (n := 451) hX dX8_step_450 rfl rfl rfl ?_
      refine g_mild (n := 452) 19 (v := nI mk) hX hY dX8_step_451 rfl rfl rfl (vp_in_nI (show u < mN 19 by show u < 9; omega) (by decide)) (by rw [nI_clamp (by omega)]; exact hmk) ?_
      refine g_iconst (n := 453) (v := 1) hX dX8_step_452 rfl rfl ?_
      refine g_iadd (n := 454) (v := nI (mk + 1)) hX dX8_step_453 rfl (nI_add (mk) (1)) ?_
      refine g_mist (n := 455) 19 (i0 := u) hX hY dX8_step_454 rfl rfl rfl (vp_in_nI (show u < mN 19 by show u < 9; omega) (by decide)) (nI_clamp (by omega)) ?_
      refine g_iconst (n := 456) (v := 0) hX dX8_step_455 rfl rfl ?_
      exact g_iret hX hR dX8_step_456 (by unfold S_stepO; rw [if_neg (by rw [e]; decide), if_neg (by rw [e]; decide), if_neg (by rw [e]; decide), if_neg (by rw [e]; decide), if_neg (by rw [e]; decide), if_neg (by rw [e]; decide), if_neg (by rw [e]; decide), if_neg (by rw [e]; decide), if_neg (by rw [e]; decide), if_neg (by rw [e]; decide), if_neg (by rw [e]; decide), if_pos e, hmk, if_neg c421, emk]; exact ⟨rfl, rfl⟩)
  · refine g_aload_n (n := 1) hX dX8_step_0 rfl rfl rfl ?_
    refine g_mget (n := 4) 10 (v := .ref (A 6)) hX hU dX8_step_1 rfl uf_X8_29 rfl rfl rfl ?_
    refine g_iload_n (n := 5) hX dX8_step_4 rfl rfl rfl ?_
    refine g_mild (n := 6) 6 (v := nI u) hX hY dX8_step_5 rfl rfl rfl (vp_in_nI (show c < mN 6 by show c < 41; omega) (by decide)) (by rw [nI_clamp (by omega)]; exact huc) ?_
    refine g_istore_n (lv' := [(3, .int (nI u)), (0, .ref am), (1, .int (nI c)), (2, .int (nI r))]) (n := 7) hX dX8_step_6 rfl rfl (by rw [hnL]; rfl) rfl ?_
    refine g_aload_n (n := 8) hX dX8_step_7 rfl rfl rfl ?_
    refine g_mget (n := 11) 11 (v := .ref (A 7)) hX hU dX8_step_8 rfl uf_X8_32 rfl rfl rfl ?_
    refine g_iload_n (n := 12) hX dX8_step_11 rfl rfl rfl ?_
    refine g_mild (n := 13) 7 (v := nI p) hX hY dX8_step_12 rfl rfl rfl (vp_in_nI (show c < mN 7 by show c < 41; omega) (by decide)) (by rw [nI_clamp (by omega)]; exact hpc) ?_
    refine g_istore (lv' := [(4, .int (nI p)), (3, .int (nI u)), (0, .ref am), (1, .int (nI c)), (2, .int (nI r))]) (n := 15) hX dX8_step_13 rfl (by rw [hnL]; rfl) rfl ?_
    refine g_sipush (n := 18) (v := 1200) hX dX8_step_15 rfl rfl ?_
    refine g_iload_n (n := 19) hX dX8_step_18 rfl rfl rfl ?_
    refine g_imul (n := 20) (v := nI (1200 * u)) hX dX8_step_19 rfl (pk_mul (1200) (u)) ?_
    refine g_sipush (n := 23) (v := 1200) hX dX8_step_20 rfl rfl ?_
    refine g_isub (n := 24) (v := nI (1200 * u - 1200)) hX dX8_step_23 rfl (by rw [show (1200 : Int32) = nI 1200 from rfl, pk_sub (by omega)]) ?_
    refine g_bipush (n := 26) (v := 100) hX dX8_step_24 rfl rfl ?_
    refine g_iload (n := 28) hX dX8_step_26 rfl rfl ?_
    refine g_imul (n := 29) (v := nI (100 * p)) hX dX8_step_28 rfl (pk_mul (100) (p)) ?_
    refine g_iadd (n := 30) (v := nI (1200 * u - 1200 + 100 * p)) hX dX8_step_29 rfl (nI_add (1200 * u - 1200) (100 * p)) ?_
    refine g_bipush (n := 32) (v := 100) hX dX8_step_30 rfl rfl ?_
    refine g_isub (n := 33) (v := nI (1200 * u - 1200 + 100 * p - 100)) hX dX8_step_32 rfl (by rw [show (100 : Int32) = nI 100 from rfl, pk_sub (by omega)]) ?_
    refine g_istore (lv' := [(5, .int (nI (1200 * u - 1200 + 100 * p - 100))), (4, .int (nI p)), (3, .int (nI u)), (0, .ref am), (1, .int (nI c)), (2, .int (nI r))]) (n := 35) hX dX8_step_33 rfl (by rw [hnL]; rfl) rfl ?_
    refine g_bipush (n := 37) (v := 60) hX dX8_step_35 rfl rfl ?_
    refine g_iload (n := 39) hX dX8_step_37 rfl rfl ?_
    refine g_imul (n := 40) (v := nI (60 * p)) hX dX8_step_39 rfl (pk_mul (60) (p)) ?_
    refine g_iload_n (n := 41) hX dX8_step_40 rfl rfl rfl ?_
    refine g_iadd (n := 42) (v := nI (60 * p + r)) hX dX8_step_41 rfl (nI_add (60 * p) (r)) ?_
    refine g_istore (lv' := [(6, .int (nI (60 * p + r))), (5, .int (nI (1200 * u - 1200 + 100 * p - 100))), (4, .int (nI p)), (3, .int (nI u)), (0, .ref am), (1, .int (nI c)), (2, .int (nI r))]) (n := 44) hX dX8_step_42 rfl (by rw [hnL]; rfl) rfl ?_
    refine g_aload_n (n := 45) hX dX8_step_44 rfl rfl rfl ?_
    refine g_mget (n := 48) 7 (v := .ref (A 3)) hX hU dX8_step_45 rfl uf_X8_19 rfl rfl rfl ?_
    refine g_iload (n := 50) hX dX8_step_48 rfl rfl ?_
    refine g_mild (n := 51) 3 (v := a) hX hY dX8_step_50 rfl rfl rfl (vp_in_nI (show 60 * p + r < mN 3 by show 60 * p + r < 793; omega) (by decide)) (by rw [nI_clamp (by omega)]; exact ea) ?_
    refine g_istore (lv' := [(7, .int a), (6, .int (nI (60 * p + r))), (5, .int (nI (1200 * u - 1200 + 100 * p - 100))), (4, .int (nI p)), (3, .int (nI u)), (0, .ref am), (1, .int (nI c)), (2, .int (nI r))]) (n := 53) hX dX8_step_51 rfl (by rw [hnL]; rfl) rfl ?_
    refine g_aload_n (n := 54) hX dX8_step_53 rfl rfl rfl ?_
    refine g_mget (n := 57) 8 (v := .ref (A 4)) hX hU dX8_step_54 rfl uf_X8_22 rfl rfl rfl ?_
    refine g_iload (n := 59) hX dX8_step_57 rfl rfl ?_
    refine g_mild (n := 60) 4 (v := b) hX hY dX8_step_59 rfl rfl rfl (vp_in_nI (show 60 * p + r < mN 4 by show 60 * p + r < 793; omega) (by decide)) (by rw [nI_clamp (by omega)]; exact eb) ?_
    refine g_istore (lv' := [(8, .int b), (7, .int a), (6, .int (nI (60 * p + r))), (5, .int (nI (1200 * u - 1200 + 100 * p - 100))), (4, .int (nI p)), (3, .int (nI u)), (0, .ref am), (1, .int (nI c)), (2, .int (nI r))]) (n := 62) hX dX8_step_60 rfl (by rw [hnL]; rfl) rfl ?_
    refine g_aload_n (n := 63) hX dX8_step_62 rfl rfl rfl ?_
    refine g_mget (n := 66) 6 (v := .ref (A 2)) hX hU dX8_step_63 rfl uf_X8_16 rfl rfl rfl ?_
    refine g_iload (n := 68) hX dX8_step_66 rfl rfl ?_
    refine g_mild (n := 69) 2 (v := o) hX hY dX8_step_68 rfl rfl rfl (vp_in_nI (show 60 * p + r < mN 2 by show 60 * p + r < 793; omega) (by decide)) (by rw [nI_clamp (by omega)]; exact eo) ?_
    refine g_istore (lv' := [(9, .int o), (8, .int b), (7, .int a), (6, .int (nI (60 * p + r))), (5, .int (nI (1200 * u - 1200 + 100 * p - 100))), (4, .int (nI p)), (3, .int (nI u)), (0, .ref am), (1, .int (nI c)), (2, .int (nI r))]) (n := 71) hX dX8_step_69 rfl (by rw [hnL]; rfl) rfl ?_
    refine g_iload (n := 73) hX dX8_step_71 rfl rfl ?_
    refine g_bipush (n := 75) (v := 9) hX dX8_step_73 rfl rfl ?_
    refine g_icmp_lt (n := 78) (tgt := 85) hX dX8_step_75 rfl (by decide) (fun c75 => absurd c75 (by rw [e] <;> decide)) (fun c75 => ?_)
    refine g_iload (n := 80) hX dX8_step_78 rfl rfl ?_
    refine g_bipush (n := 82) (v := 13) hX dX8_step_80 rfl rfl ?_
    refine g_icmp_ne (n := 85) (tgt := 98) hX dX8_step_82 rfl (by decide) (fun c82 => ?_) (fun c82 => absurd c82 (by rw [e] <;> decide))
    refine g_iconst (n := 99) (v := 0) hX dX8_step_98 rfl rfl ?_
    refine g_istore (lv' := [(10, .int 0), (9, .int o), (8, .int b), (7, .int a), (6, .int (nI (60 * p + r))), (5, .int (nI (1200 * u - 1200 + 100 * p - 100))), (4, .int (nI p)), (3, .int (nI u)), (0, .ref am), (1, .int (nI c)), (2, .int (nI r))]) (n := 101) hX dX8_step_99 rfl (by rw [hnL]; rfl) rfl ?_
    refine g_iload (n := 103) hX dX8_step_101 rfl rfl ?_
    refine g_if_le (n := 106) (tgt := 126) hX dX8_step_103 rfl (by decide) (fun c103 => absurd c103 (by rw [e] <;> decide)) (fun c103 => ?_)
    refine g_iload (n := 108) hX dX8_step_106 rfl rfl ?_
    refine g_bipush (n := 110) (v := 8) hX dX8_step_108 rfl rfl ?_
    refine g_icmp_ge (n := 113) (tgt := 126) hX dX8_step_110 rfl (by decide) (fun c110 => ?_) (fun c110 => absurd (by rw [e] <;> decide) c110)
    refine g_iconst (n := 127) (v := 0) hX dX8_step_126 rfl rfl ?_
    refine g_istore (lv' := [(11, .int 0), (10, .int 0), (9, .int o), (8, .int b), (7, .int a), (6, .int (nI (60 * p + r))), (5, .int (nI (1200 * u - 1200 + 100 * p - 100))), (4, .int (nI p)), (3, .int (nI u)), (0, .ref am), (1, .int (nI c)), (2, .int (nI r))]) (n := 129) hX dX8_step_127 rfl (by rw [hnL]; rfl) rfl ?_
    refine g_iload (n := 131) hX dX8_step_129 rfl rfl ?_
    refine g_iconst (n := 132) (v := 5) hX dX8_step_131 rfl rfl ?_
    refine g_icmp_eq (n := 135) (tgt := 142) hX dX8_step_132 rfl (by decide) (fun c132 => absurd c132 (by rw [e] <;> decide)) (fun c132 => ?_)
    refine g_iload (n := 137) hX dX8_step_135 rfl rfl ?_
    refine g_bipush (n := 139) (v := 6) hX dX8_step_137 rfl rfl ?_
    refine g_icmp_ne (n := 142) (tgt := 149) hX dX8_step_139 rfl (by decide) (fun c139 => ?_) (fun c139 => absurd c139 (by rw [e] <;> decide))
    refine g_iload (n := 151) hX dX8_step_149 rfl rfl ?_
    refine g_tableIn (n := 457) (off := 306) hX dX8_step_151 (by rw [e]; decide) (by rw [e]; decide) (by rw [e]; rfl) (by decide) ?_
    refine g_aload_n (n := 458) hX dX8_step_457 rfl rfl rfl ?_
    refine g_mget (n := 461) 21 (v := .ref (A 17)) hX hU dX8_step_458 rfl uf_X8_62 rfl rfl rfl ?_
    refine g_iload_n (n := 462) hX dX8_step_461 rfl rfl rfl ?_
    refine g_iload (n := 464) hX dX8_step_462 rfl rfl ?_
    refine g_mist (n := 465) 17 (i0 := u) hX hY dX8_step_464 rfl rfl rfl (vp_in_nI (show u < mN 17 by show u < 9; omega) (by decide)) (nI_clamp (by omega)) ?_
    refine g_aload_n (n := 466) hX dX8_step_465 rfl rfl rfl ?_
    refine g_mget (n := 469) 16 (v := .ref (A 12)) hX hU dX8_step_466 rfl uf_X8_47 rfl rfl rfl ?_
    refine g_iload_n (n := 470) hX dX8_step_469 rfl rfl rfl ?_
    refine g_iconst (n := 471) (v := 1) hX dX8_step_470 rfl rfl ?_
    refine g_mzst (n := 472) 12 (i0 := u) hX hY dX8_step_471 rfl rfl rfl (vp_in_nI (show u < mN 12 by show u < 9; omega) (by decide)) (nI_clamp (by omega)) ?_
    refine g_bipush (n := 474) (v := 99) hX dX8_step_472 rfl rfl ?_
    exact g_iret hX hR dX8_step_474 (by unfold S_stepO; rw [if_neg (by rw [e]; decide), if_neg (by rw [e]; decide), if_neg (by rw [e]; decide), if_neg (by rw [e]; decide), if_neg (by rw [e]; decide), if_neg (by rw [e]; decide), if_neg (by rw [e]; decide), if_neg (by rw [e]; decide), if_neg (by rw [e]; decide), if_neg (by rw [e]; decide), if_neg (by rw [e]; decide), if_neg (by rw [e]; decide), if_pos e]; exact ⟨rfl, rfl⟩)
  · obtain ⟨aa, rfl, haa⟩ := hv1 (Or.inr (Or.inl e))
    have hca : (nI aa).toNatClampNeg = aa := nI_clamp (by omega)
    refine g_aload_n (n := 1) hX dX8_step_0 rfl rfl rfl ?_
    refine g_mget (n := 4) 10 (v := .ref (A 6)) hX hU dX8_step_1 rfl uf_X8_29 rfl rfl rfl ?_
    refine g_iload_n (n := 5) hX dX8_step_4 rfl rfl rfl ?_
    refine g_mild (n := 6) 6 (v := nI u) hX hY dX8_step_5 rfl rfl rfl (vp_in_nI (show c < mN 6 by show c < 41; omega) (by decide)) (by rw [nI_clamp (by omega)]; exact huc) ?_
    refine g_istore_n (lv' := [(3, .int (nI u)), (0, .ref am), (1, .int (nI c)), (2, .int (nI r))]) (n := 7) hX dX8_step_6 rfl rfl (by rw [hnL]; rfl) rfl ?_
    refine g_aload_n (n := 8) hX dX8_step_7 rfl rfl rfl ?_
    refine g_mget (n := 11) 11 (v := .ref (A 7)) hX hU dX8_step_8 rfl uf_X8_32 rfl rfl rfl ?_
    refine g_iload_n (n := 12) hX dX8_step_11 rfl rfl rfl ?_
    refine g_mild (n := 13) 7 (v := nI p) hX hY dX8_step_12 rfl rfl rfl (vp_in_nI (show c < mN 7 by show c < 41; omega) (by decide)) (by rw [nI_clamp (by omega)]; exact hpc) ?_
    refine g_istore (lv' := [(4, .int (nI p)), (3, .int (nI u)), (0, .ref am), (1, .int (nI c)), (2, .int (nI r))]) (n := 15) hX dX8_step_13 rfl (by rw [hnL]; rfl) rfl ?_
    refine g_sipush (n := 18) (v := 1200) hX dX8_step_15 rfl rfl ?_
    refine g_iload_n (n := 19) hX dX8_step_18 rfl rfl rfl ?_
    refine g_imul (n := 20) (v := nI (1200 * u)) hX dX8_step_19 rfl (pk_mul (1200) (u)) ?_
    refine g_sipush (n := 23) (v := 1200) hX dX8_step_20 rfl rfl ?_
    refine g_isub (n := 24) (v := nI (1200 * u - 1200)) hX dX8_step_23 rfl (by rw [show (1200 : Int32) = nI 1200 from rfl, pk_sub (by omega)]) ?_
    refine g_bipush (n := 26) (v := 100) hX dX8_step_24 rfl rfl ?_
    refine g_iload (n := 28) hX dX8_step_26 rfl rfl ?_
    refine g_imul (n := 29) (v := nI (100 * p)) hX dX8_step_28 rfl (pk_mul (100) (p)) ?_
    refine g_iadd (n := 30) (v := nI (1200 * u - 1200 + 100 * p)) hX dX8_step_29 rfl (nI_add (1200 * u - 1200) (100 * p)) ?_
    refine g_bipush (n := 32) (v := 100) hX dX8_step_30 rfl rfl ?_
    refine g_isub (n := 33) (v := nI (1200 * u - 1200 + 100 * p - 100)) hX dX8_step_32 rfl (by rw [show (100 : Int32) = nI 100 from rfl, pk_sub (by omega)]) ?_
    refine g_istore (lv' := [(5, .int (nI (1200 * u - 1200 + 100 * p - 100))), (4, .int (nI p)), (3, .int (nI u)), (0, .ref am), (1, .int (nI c)), (2, .int (nI r))]) (n := 35) hX dX8_step_33 rfl (by rw [hnL]; rfl) rfl ?_
    refine g_bipush (n := 37) (v := 60) hX dX8_step_35 rfl rfl ?_
    refine g_iload (n := 39) hX dX8_step_37 rfl rfl ?_
    refine g_imul (n := 40) (v := nI (60 * p)) hX dX8_step_39 rfl (pk_mul (60) (p)) ?_
    refine g_iload_n (n := 41) hX dX8_step_40 rfl rfl rfl ?_
    refine g_iadd (n := 42) (v := nI (60 * p + r)) hX dX8_step_41 rfl (nI_add (60 * p) (r)) ?_
    refine g_istore (lv' := [(6, .int (nI (60 * p + r))), (5, .int (nI (1200 * u - 1200 + 100 * p - 100))), (4, .int (nI p)), (3, .int (nI u)), (0, .ref am), (1, .int (nI c)), (2, .int (nI r))]) (n := 44) hX dX8_step_42 rfl (by rw [hnL]; rfl) rfl ?_
    refine g_aload_n (n := 45) hX dX8_step_44 rfl rfl rfl ?_
    refine g_mget (n := 48) 7 (v := .ref (A 3)) hX hU dX8_step_45 rfl uf_X8_19 rfl rfl rfl ?_
    refine g_iload (n := 50) hX dX8_step_48 rfl rfl ?_
    refine g_mild (n := 51) 3 (v := nI aa) hX hY dX8_step_50 rfl rfl rfl (vp_in_nI (show 60 * p + r < mN 3 by show 60 * p + r < 793; omega) (by decide)) (by rw [nI_clamp (by omega)]; exact ea) ?_
    refine g_istore (lv' := [(7, .int (nI aa)), (6, .int (nI (60 * p + r))), (5, .int (nI (1200 * u - 1200 + 100 * p - 100))), (4, .int (nI p)), (3, .int (nI u)), (0, .ref am), (1, .int (nI c)), (2, .int (nI r))]) (n := 53) hX dX8_step_51 rfl (by rw [hnL]; rfl) rfl ?_
    refine g_aload_n (n := 54) hX dX8_step_53 rfl rfl rfl ?_
    refine g_mget (n := 57) 8 (v := .ref (A 4)) hX hU dX8_step_54 rfl uf_X8_22 rfl rfl rfl ?_
    refine g_iload (n := 59) hX dX8_step_57 rfl rfl ?_
    refine g_mild (n := 60) 4 (v := b) hX hY dX8_step_59 rfl rfl rfl (vp_in_nI (show 60 * p + r < mN 4 by show 60 * p + r < 793; omega) (by decide)) (by rw [nI_clamp (by omega)]; exact eb) ?_
    refine g_istore (lv' := [(8, .int b), (7, .int (nI aa)), (6, .int (nI (60 * p + r))), (5, .int (nI (1200 * u - 1200 + 100 * p - 100))), (4, .int (nI p)), (3, .int (nI u)), (0, .ref am), (1, .int (nI c)), (2, .int (nI r))]) (n := 62) hX dX8_step_60 rfl (by rw [hnL]; rfl) rfl ?_
    refine g_aload_n (n := 63) hX dX8_step_62 rfl rfl rfl ?_
    refine g_mget (n := 66) 6 (v := .ref (A 2)) hX hU dX8_step_63 rfl uf_X8_16 rfl rfl rfl ?_
    refine g_iload (n := 68) hX dX8_step_66 rfl rfl ?_
    refine g_mild (n := 69) 2 (v := o) hX hY dX8_step_68 rfl rfl rfl (vp_in_nI (show 60 * p + r < mN 2 by show 60 * p + r < 793; omega) (by decide)) (by rw [nI_clamp (by omega)]; exact eo) ?_
    refine g_istore (lv' := [(9, .int o), (8, .int b), (7, .int (nI aa)), (6, .int (nI (60 * p + r))), (5, .int (nI (1200 * u - 1200 + 100 * p - 100))), (4, .int (nI p)), (3, .int (nI u)), (0, .ref am), (1, .int (nI c)), (2, .int (nI r))]) (n := 71) hX dX8_step_69 rfl (by rw [hnL]; rfl) rfl ?_
    refine g_iload (n := 73) hX dX8_step_71 rfl rfl ?_
    refine g_bipush (n := 75) (v := 9) hX dX8_step_73 rfl rfl ?_
    refine g_icmp_lt (n := 78) (tgt := 85) hX dX8_step_75 rfl (by decide) (fun c75 => absurd c75 (by rw [e] <;> decide)) (fun c75 => ?_)
    refine g_iload (n := 80) hX dX8_step_78 rfl rfl ?_
    refine g_bipush (n := 82) (v := 13) hX dX8_step_80 rfl rfl ?_
    refine g_icmp_ne (n := 85) (tgt := 98) hX dX8_step_82 rfl (by decide) (fun c82 => absurd (by rw [e] <;> decide) c82) (fun c82 => ?_)
    refine g_aload_n (n := 86) hX dX8_step_85 rfl rfl rfl ?_
    refine g_mget (n := 89) 24 (v := .ref (A 20)) hX hU dX8_step_86 rfl uf_X8_71 rfl rfl rfl ?_
    refine g_iload (n := 91) hX dX8_step_89 rfl rfl ?_
    refine g_iload (n := 93) hX dX8_step_91 rfl rfl ?_
    refine g_iadd (n := 94) (v := nI (wk u p aa)) hX dX8_step_93 rfl (nI_add _ _) ?_
    refine g_mbld (n := 95) 20 (v := σ.1 20 (wk u p aa)) hX hY dX8_step_94 rfl rfl rfl (vp_in_nI (show wk u p aa < mN 20 by show wk u p aa < 12000; unfold wk; omega) (by decide)) (by rw [nI_clamp (by unfold wk; omega)]) ?_
    refine g_goto (n := 99) hX dX8_step_95 (by decide) ?_
    refine g_istore (lv' := [(10, .int (σ.1 20 (wk u p aa))), (9, .int o), (8, .int b), (7, .int (nI aa)), (6, .int (nI (60 * p + r))), (5, .int (nI (1200 * u - 1200 + 100 * p - 100))), (4, .int (nI p)), (3, .int (nI u)), (0, .ref am), (1, .int (nI c)), (2, .int (nI r))]) (n := 101) hX dX8_step_99 rfl (by rw [hnL]; rfl) rfl ?_
    refine g_iload (n := 103) hX dX8_step_101 rfl rfl ?_
    refine g_if_le (n := 106) (tgt := 126) hX dX8_step_103 rfl (by decide) (fun c103 => absurd c103 (by rw [e] <;> decide)) (fun c103 => ?_)
    refine g_iload (n := 108) hX dX8_step_106 rfl rfl ?_
    refine g_bipush (n := 110) (v := 8) hX dX8_step_108 rfl rfl ?_
    refine g_icmp_ge (n := 113) (tgt := 126) hX dX8_step_110 rfl (by decide) (fun c110 => ?_) (fun c110 => absurd (by rw [e] <;> decide) c110)
    refine g_iconst (n := 127) (v := 0) hX dX8_step_126 rfl rfl ?_
    refine g_istore (lv' := [(11, .int 0), (10, .int (σ.1 20 (wk u p aa))), (9, .int o), (8, .int b), (7, .int (nI aa)), (6, .int (nI (60 * p + r))), (5, .int (nI (1200 * u - 1200 + 100 * p - 100))), (4, .int (nI p)), (3, .int (nI u)), (0, .ref am), (1, .int (nI c)), (2, .int (nI r))]) (n := 129) hX dX8_step_127 rfl (by rw [hnL]; rfl) rfl ?_
    refine g_iload (n := 131) hX dX8_step_129 rfl rfl ?_
    refine g_iconst (n := 132) (v := 5) hX dX8_step_131 rfl rfl ?_
    refine g_icmp_eq (n := 135) (tgt := 142) hX dX8_step_132 rfl (by decide) (fun c132 => absurd c132 (by rw [e] <;> decide)) (fun c132 => ?_)
    refine g_iload (n := 137) hX dX8_step_135 rfl rfl ?_
    refine g_bipush (n := 139) (v := 6) hX dX8_step_137 rfl rfl ?_
    refine g_icmp_ne (n := 142) (tgt := 149) hX dX8_step_139 rfl (by decide) (fun c139 => ?_) (fun c139 => absurd c139 (by rw [e] <;> decide))
    refine g_iload (n := 151) hX dX8_step_149 rfl rfl ?_
    refine g_tableOut (n := 475) hX dX8_step_151 (Or.inr (by rw [e]; decide)) (by decide) ?_
    refine g_iload (n := 477) hX dX8_step_475 rfl rfl ?_
    refine g_iload (n := 479) hX dX8_step_477 rfl rfl ?_
    refine g_icmp_le (n := 482) (tgt := 486) hX dX8_step_479 rfl (by decide) (fun c479 => ?_) (fun c479 => ?_)
    · refine g_iconst (n := 487) (v := 0) hX dX8_step_486 rfl rfl ?_
      exact g_iret hX hR dX8_step_487 (by unfold S_stepO; rw [if_neg (by rw [e]; decide), if_neg (by rw [e]; decide), if_neg (by rw [e]; decide), if_neg (by rw [e]; decide), if_neg (by rw [e]; decide), if_neg (by rw [e]; decide), if_neg (by rw [e]; decide), if_neg (by rw [e]; decide), if_neg (by rw [e]; decide), if_neg (by rw [e]; decide), if_neg (by rw [e]; decide), if_neg (by rw [e]; decide), if_neg (by rw [e]; decide), hca, if_pos c479]; exact ⟨rfl, rfl⟩)
    · refine g_iconst (n := 483) (v := 4) hX dX8_step_482 rfl rfl ?_
      refine g_goto (n := 487) hX dX8_step_483 (by decide) ?_
      exact g_iret hX hR dX8_step_487 (by unfold S_stepO; rw [if_neg (by rw [e]; decide), if_neg (by rw [e]; decide), if_neg (by rw [e]; decide), if_neg (by rw [e]; decide), if_neg (by rw [e]; decide), if_neg (by rw [e]; decide), if_neg (by rw [e]; decide), if_neg (by rw [e]; decide), if_neg (by rw [e]; decide), if_neg (by rw [e]; decide), if_neg (by rw [e]; decide), if_neg (by rw [e]; decide), if_neg (by rw [e]; decide), hca, if_neg c479]; exact ⟨rfl, rfl⟩)

