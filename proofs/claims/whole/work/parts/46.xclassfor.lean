set_option maxHeartbeats 4000000 in
set_option maxRecDepth 100000 in
theorem x_classForN (l : Launch) (D : va_G) (K : Nat → ClassId) (L : List Nat) (f : Nat → va_E) (o pa ca nc hm pr ra p z : Nat) (gc gl : Nat → Option Nat) (la ma : Nat) (e2 e3 e4 e5 e6 e7 e8 : Int32) (s2 v2 v4 : Int32) (hoL : o ∈ L) (hof : f o = .inr (8, [.ref pa, .ref ca, .int s2, .int (nI nc)])) (hcL : ca ∈ L) (hcf : f ca = .inl (K 3, 40, rE gc)) (hhL : hm ∈ L) (hhf : f hm = .inr (7, [.ref la, .ref ma, .int e2, .int e3, .int e4, .int e5, .int e6, .int e7, .int e8])) (hlL : la ∈ L) (hlf : f la = .inl (K 3, 12, rE gl)) (hpL : pr ∈ L) (hpf : f pr = .inr (5, [.int (nI p), .int (nI z), .int v2, .ref ra, .int v4])) (hp1 : 1 ≤ p) (hp2 : p ≤ 12) (hz2 : z ≤ 100) (hnc2 : nc ≤ 40) (hlat : gl (p - 1) = none) : Mc l yX6_classFor (wM yX6_classFor cX6_classFor 5 (some (.object "ClassMaker4$MadeClass"))) (rmL 2 2 109) D (yY K) [.ref o, .ref hm, .ref pr] (va_pl L f) (fun v w => (¬ nc < 40 ∧ v = some .null ∧ w = va_pl L f) ∨ (nc < 40 ∧ ∃ (q q1 : Nat), q ∉ L ∧ q1 ∉ L ++ [q] ∧ v = some (.ref q) ∧ ∃ f1 : Nat → va_E, w = va_pl (L ++ [q] ++ [q1]) f1 ∧ f1 = va_up (va_up (va_up (va_up (va_up (va_up f q (.inr (4, [.int 0, .null, .null, .int 0, .null, .null, .int 0, .int 0, .int 0]))) q1 (.inl (K 0, z, .inl (fun _ => 0)))) q (.inr (4, [.int (nI (nc + 1)), .ref hm, .ref pr, .int v4, .ref q1, va_rf (none), .int 0, .int 0, .int 0]))) ca (.inl (K 3, 40, rE (va_up gc nc (some q))))) o (.inr (8, [.ref pa, .ref ca, .int s2, .int (nI (nc + 1))]))) la (.inl (K 3, 12, rE (va_up gl (p - 1) (some q)))))) 2 109 := by
  refine m_start (lv := [(0, .ref o), (1, .ref hm), (2, .ref pr)]) rfl (Nat.le_of_ble_eq_true rfl) rfl (fun Γ hX hRm hnL hY hDD hLa hR hI hE => ?_)
  have hU : ∀ w ∈ wU, w ∈ wM yX6_classFor cX6_classFor 5 (some (.object "ClassMaker4$MadeClass")) := fun w h => wM_in h
  subst hLa
  subst hDD
  by_cases hnc : nc < 40
  · refine g_aload_n (n := 1) hX dX6_classFor_0 rfl rfl rfl ?_
    refine g_aload_n (n := 2) hX dX6_classFor_1 rfl rfl rfl ?_
    refine g_pcallV (n := 5) (As := [.ref pr]) (rest := []) hX hE hU hY dX6_classFor_2 rfl yv_X5_latestOf um_X6_33 (x_latestOf _ _ K L f hm pr ra p gl la ma e2 e3 e4 e5 e6 e7 e8 (nI z) v2 v4 hhL hhf hpL hpf hlL hlf hp1 hp2) ⟨rfl, rfl⟩ (rm_le hRm rfl rfl) rfl hhL hhf rfl rfl rfl (Nat.le_of_ble_eq_true rfl) (by rw [hRm]; decide) (fun v0 w0 hq0 => ?_)
    rw [hlat] at hq0; obtain ⟨rfl, rfl⟩ := hq0
    show G Γ (va_pl L f) 0 0 5 [(0, .ref o), (1, .ref hm), (2, .ref pr)] [.null]
    refine g_astore_nN (lv' := [(3, .null), (0, .ref o), (1, .ref hm), (2, .ref pr)]) (n := 6) hX dX6_classFor_5 rfl rfl (by rw [hnL]; rfl) rfl ?_
    refine g_aload_nN (n := 7) hX dX6_classFor_6 rfl rfl rfl ?_
    refine g_ifnullN (tgt := 23) hX dX6_classFor_7 (by decide) ?_
    refine g_aload_n (n := 24) hX dX6_classFor_23 rfl rfl rfl ?_
    refine g_pget (n := 27) ux_X6 rfl hX hU dX6_classFor_24 rfl hoL hof 3 rfl uf_X6_30 rfl ?_
    refine g_aload_n (n := 28) hX dX6_classFor_27 rfl rfl rfl ?_
    refine g_pget (n := 31) ux_X6 rfl hX hU dX6_classFor_28 rfl hoL hof 1 rfl uf_X6_19 rfl ?_
    refine g_palen (n := 32) (t0 := 3) (v := nI (40)) hX hY dX6_classFor_31 rfl hcL hcf rfl rfl ?_
    refine g_icmp_lt (n := 35) (tgt := 37) hX dX6_classFor_32 rfl (by decide) (fun c32 => ?_) (fun c32 => absurd (nI_lt (a := nc) (b := 40) hnc (by decide)) c32)
    refine g_aload_nN (n := 38) hX dX6_classFor_37 rfl rfl rfl ?_
    refine g_ifnullN (tgt := 46) hX dX6_classFor_38 (by decide) ?_
    refine g_pnew (n := 49) (ci := 4) (fs := [.int 0, .null, .null, .int 0, .null, .null, .int 0, .int 0, .int 0]) tyX2 tyX2_ok ux_X2 rfl hX hU dX6_classFor_46 rfl ul_X6_17 ut_X2 un_X2 (by decide) (by rw [hRm]; decide) (by rw [hRm]; decide) (fun q1 f1 hq1 ef1 => ?_)
    have ho_2 : f1 o = .inr (8, [.ref pa, .ref ca, .int s2, .int (nI nc)]) := by rw [ef1, va_up_ne _ _ (ne_new hoL hq1)]; exact hof
    have hca_3 : f1 ca = .inl (K 3, 40, rE gc) := by rw [ef1, va_up_ne _ _ (ne_new hcL hq1)]; exact hcf
    have hhm_4 : f1 hm = .inr (7, [.ref la, .ref ma, .int e2, .int e3, .int e4, .int e5, .int e6, .int e7, .int e8]) := by rw [ef1, va_up_ne _ _ (ne_new hhL hq1)]; exact hhf
    have hla_5 : f1 la = .inl (K 3, 12, rE gl) := by rw [ef1, va_up_ne _ _ (ne_new hlL hq1)]; exact hlf
    have hpr_6 : f1 pr = .inr (5, [.int (nI p), .int (nI z), .int v2, .ref ra, .int v4]) := by rw [ef1, va_up_ne _ _ (ne_new hpL hq1)]; exact hpf
    have hq1_7 : f1 q1 = .inr (4, [.int 0, .null, .null, .int 0, .null, .null, .int 0, .int 0, .int 0]) := by rw [ef1]; exact va_up_self _ _ _
    refine g_dup (n := 50) hX dX6_classFor_49 rfl rfl ?_
    refine g_aload_n (n := 51) hX dX6_classFor_50 rfl rfl rfl ?_
    refine g_pget (n := 54) ux_X6 rfl hX hU dX6_classFor_51 rfl (in_app hoL) ho_2 3 rfl uf_X6_30 rfl ?_
    refine g_iconst (n := 55) (v := 1) hX dX6_classFor_54 rfl rfl ?_
    refine g_iadd (n := 56) (v := nI (nc + 1)) hX dX6_classFor_55 rfl (nI_add (nc) (1)) ?_
    refine g_aload_n (n := 57) hX dX6_classFor_56 rfl rfl rfl ?_
    refine g_aload_n (n := 58) hX dX6_classFor_57 rfl rfl rfl ?_
    refine g_callI0 (n := 61) (As := [.int (nI (nc + 1)), .ref hm, .ref pr]) (rest := [.ref q1]) hX hE hU hY dX6_classFor_58 rfl yi_X2_init um_X6_47 (x_MadeInit _ _ K (L ++ [q1]) f1 (nI (nc + 1)) q1 hm pr ra z (nI p) v2 v4 in_new hq1_7 (in_app hpL) hpr_6 hz2) ⟨rfl, rfl⟩ (rm_le hRm rfl rfl) rfl rfl (Nat.le_of_ble_eq_true rfl) (by rw [hRm]; decide) (fun v0 w0 hq0 => ?_)
    obtain ⟨rfl, q8, hq8, f8, rfl, ef8⟩ := hq0
    show G Γ (va_pl (L ++ [q1] ++ [q8]) f8) 2 109 61 [(3, .null), (0, .ref o), (1, .ref hm), (2, .ref pr)] [.ref q1]
    obtain ⟨f9, ef9⟩ : ∃ g9 : Nat → va_E, g9 = va_up f1 q8 (.inl (K 0, z, .inl (fun _ => 0))) := ⟨_, rfl⟩
    rw [← ef9] at ef8
    have ho_10 : f9 o = .inr (8, [.ref pa, .ref ca, .int s2, .int (nI nc)]) := by rw [ef9, va_up_ne _ _ (ne_new (in_app hoL) hq8)]; exact ho_2
    have hca_11 : f9 ca = .inl (K 3, 40, rE gc) := by rw [ef9, va_up_ne _ _ (ne_new (in_app hcL) hq8)]; exact hca_3
    have hhm_12 : f9 hm = .inr (7, [.ref la, .ref ma, .int e2, .int e3, .int e4, .int e5, .int e6, .int e7, .int e8]) := by rw [ef9, va_up_ne _ _ (ne_new (in_app hhL) hq8)]; exact hhm_4
    have hla_13 : f9 la = .inl (K 3, 12, rE gl) := by rw [ef9, va_up_ne _ _ (ne_new (in_app hlL) hq8)]; exact hla_5
    have hpr_14 : f9 pr = .inr (5, [.int (nI p), .int (nI z), .int v2, .ref ra, .int v4]) := by rw [ef9, va_up_ne _ _ (ne_new (in_app hpL) hq8)]; exact hpr_6
    have hq1_15 : f9 q1 = .inr (4, [.int 0, .null, .null, .int 0, .null, .null, .int 0, .int 0, .int 0]) := by rw [ef9, va_up_ne _ _ (ne_new in_new hq8)]; exact hq1_7
    have hq8_16 : f9 q8 = .inl (K 0, z, .inl (fun _ => 0)) := by rw [ef9]; exact va_up_self _ _ _
    have ho_17 : f8 o = .inr (8, [.ref pa, .ref ca, .int s2, .int (nI nc)]) := by rw [ef8, va_up_ne _ _ (ne_new hoL hq1)]; exact ho_10
    have hca_18 : f8 ca = .inl (K 3, 40, rE gc) := by rw [ef8, va_up_ne _ _ (ne_new hcL hq1)]; exact hca_11
    have hhm_19 : f8 hm = .inr (7, [.ref la, .ref ma, .int e2, .int e3, .int e4, .int e5, .int e6, .int e7, .int e8]) := by rw [ef8, va_up_ne _ _ (ne_new hhL hq1)]; exact hhm_12
    have hla_20 : f8 la = .inl (K 3, 12, rE gl) := by rw [ef8, va_up_ne _ _ (ne_new hlL hq1)]; exact hla_13
    have hpr_21 : f8 pr = .inr (5, [.int (nI p), .int (nI z), .int v2, .ref ra, .int v4]) := by rw [ef8, va_up_ne _ _ (ne_new hpL hq1)]; exact hpr_14
    have hq1_22 : f8 q1 = .inr (4, [.int (nI (nc + 1)), .ref hm, .ref pr, .int v4, .ref q8, va_rf (none), .int 0, .int 0, .int 0]) := by rw [ef8]; exact va_up_self _ _ _
    have hq8_23 : f8 q8 = .inl (K 0, z, .inl (fun _ => 0)) := by rw [ef8, va_up_ne _ _ (Ne.symm (ne_new in_new hq8))]; exact hq8_16
    refine g_astore (lv' := [(4, .ref q1), (3, .null), (0, .ref o), (1, .ref hm), (2, .ref pr)]) (n := 63) hX dX6_classFor_61 rfl (by rw [hnL]; rfl) rfl ?_
    refine g_aload_n (n := 64) hX dX6_classFor_63 rfl rfl rfl ?_
    refine g_pget (n := 67) ux_X6 rfl hX hU dX6_classFor_64 rfl (in_app (in_app hoL)) ho_17 1 rfl uf_X6_19 rfl ?_
    refine g_aload_n (n := 68) hX dX6_classFor_67 rfl rfl rfl ?_
    refine g_pget (n := 71) ux_X6 rfl hX hU dX6_classFor_68 rfl (in_app (in_app hoL)) ho_17 3 rfl uf_X6_30 rfl ?_
    refine g_aload (n := 73) hX dX6_classFor_71 rfl rfl ?_
    refine g_past (n := 74) (i0 := nc) 3 hX hY dX6_classFor_73 rfl (in_app (in_app hcL)) hca_18 rfl (in_app in_new) hq1_22 rfl (vp_in_nI (show nc < 40 by omega) (by omega)) (nI_clamp (by omega)) (fun f24 ef24 => ?_)
    have ho_25 : f24 o = .inr (8, [.ref pa, .ref ca, .int s2, .int (nI nc)]) := by rw [ef24, va_up_ne _ _ (ne_oa ho_17 hca_18)]; exact ho_17
    have hca_26 : f24 ca = .inl (K 3, 40, rE (va_up gc nc (some q1))) := by rw [ef24]; exact va_up_self _ _ _
    have hhm_27 : f24 hm = .inr (7, [.ref la, .ref ma, .int e2, .int e3, .int e4, .int e5, .int e6, .int e7, .int e8]) := by rw [ef24, va_up_ne _ _ (ne_oa hhm_19 hca_18)]; exact hhm_19
    have hla_28 : f24 la = .inl (K 3, 12, rE gl) := by rw [ef24, va_up_ne _ _ (ne_aa hlf hcf rfl)]; exact hla_20
    have hpr_29 : f24 pr = .inr (5, [.int (nI p), .int (nI z), .int v2, .ref ra, .int v4]) := by rw [ef24, va_up_ne _ _ (ne_oa hpr_21 hca_18)]; exact hpr_21
    have hq1_30 : f24 q1 = .inr (4, [.int (nI (nc + 1)), .ref hm, .ref pr, .int v4, .ref q8, va_rf (none), .int 0, .int 0, .int 0]) := by rw [ef24, va_up_ne _ _ (Ne.symm (ne_new hcL hq1))]; exact hq1_22
    have hq8_31 : f24 q8 = .inl (K 0, z, .inl (fun _ => 0)) := by rw [ef24, va_up_ne _ _ (Ne.symm (ne_new (in_app hcL) hq8))]; exact hq8_23
    refine g_aload_n (n := 75) hX dX6_classFor_74 rfl rfl rfl ?_
    refine g_dup (n := 76) hX dX6_classFor_75 rfl rfl ?_
    refine g_pget (n := 79) ux_X6 rfl hX hU dX6_classFor_76 rfl (in_app (in_app hoL)) ho_25 3 rfl uf_X6_30 rfl ?_
    refine g_iconst (n := 80) (v := 1) hX dX6_classFor_79 rfl rfl ?_
    refine g_iadd (n := 81) (v := nI (nc + 1)) hX dX6_classFor_80 rfl (nI_add (nc) (1)) ?_
    refine g_pput (n := 84) (fs' := [.ref pa, .ref ca, .int s2, .int (nI (nc + 1))]) tyX6 tyX6_ok nmX6 ux_X6 rfl hX hU dX6_classFor_81 rfl (in_app (in_app hoL)) ho_25 3 rfl uf_X6_30 rfl rfl rfl rfl rfl (fun f32 ef32 => ?_)
    have ho_33 : f32 o = .inr (8, [.ref pa, .ref ca, .int s2, .int (nI (nc + 1))]) := by rw [ef32]; exact va_up_self _ _ _
    have hca_34 : f32 ca = .inl (K 3, 40, rE (va_up gc nc (some q1))) := by rw [ef32, va_up_ne _ _ (ne_ao hca_26 ho_25)]; exact hca_26
    have hhm_35 : f32 hm = .inr (7, [.ref la, .ref ma, .int e2, .int e3, .int e4, .int e5, .int e6, .int e7, .int e8]) := by rw [ef32, va_up_ne _ _ (ne_oo hhm_27 ho_25 rfl)]; exact hhm_27
    have hla_36 : f32 la = .inl (K 3, 12, rE gl) := by rw [ef32, va_up_ne _ _ (ne_ao hla_28 ho_25)]; exact hla_28
    have hpr_37 : f32 pr = .inr (5, [.int (nI p), .int (nI z), .int v2, .ref ra, .int v4]) := by rw [ef32, va_up_ne _ _ (ne_oo hpr_29 ho_25 rfl)]; exact hpr_29
    have hq1_38 : f32 q1 = .inr (4, [.int (nI (nc + 1)), .ref hm, .ref pr, .int v4, .ref q8, va_rf (none), .int 0, .int 0, .int 0]) := by rw [ef32, va_up_ne _ _ (Ne.symm (ne_new hoL hq1))]; exact hq1_30
    have hq8_39 : f32 q8 = .inl (K 0, z, .inl (fun _ => 0)) := by rw [ef32, va_up_ne _ _ (Ne.symm (ne_new (in_app hoL) hq8))]; exact hq8_31
    refine g_aload_n (n := 85) hX dX6_classFor_84 rfl rfl rfl ?_
    refine g_aload_n (n := 86) hX dX6_classFor_85 rfl rfl rfl ?_
    refine g_aload (n := 88) hX dX6_classFor_86 rfl rfl ?_
    refine g_pcallV (n := 91) (As := [.ref pr, .ref q1]) (rest := []) hX hE hU hY dX6_classFor_88 rfl yv_X5_setLatest um_X6_50 (x_setLatest _ _ K (L ++ [q1] ++ [q8]) f32 hm pr ra p gl la ma e2 e3 e4 e5 e6 e7 e8 (nI z) v2 v4 q1 hm pr q8 none (nI (nc + 1)) v4 0 0 0 (in_app (in_app hhL)) hhm_35 (in_app (in_app hpL)) hpr_37 (in_app (in_app hlL)) hla_36 (in_app in_new) hq1_38 hp1 hp2) ⟨rfl, rfl⟩ (rm_le hRm rfl rfl) rfl (in_app (in_app hhL)) hhm_35 rfl rfl rfl (Nat.le_of_ble_eq_true rfl) (by rw [hRm]; decide) (fun v0 w0 hq0 => ?_)
    obtain ⟨rfl, f40, rfl, ef40⟩ := hq0
    show G Γ (va_pl (L ++ [q1] ++ [q8]) f40) 2 109 91 [(4, .ref q1), (3, .null), (0, .ref o), (1, .ref hm), (2, .ref pr)] []
    refine g_aload (n := 93) hX dX6_classFor_91 rfl rfl ?_
    exact g_aret hX hR dX6_classFor_93 (Or.inl ⟨_, rfl⟩) (Or.inr ⟨_, rfl⟩) (Or.inr ⟨hnc, q1, q8, hq1, hq8, rfl, _, rfl, by simp only [ef1, ef9, ef8, ef24, ef32, ef40]⟩)
  · refine g_widen (kc' := 2) (ks' := 109) (by decide) (by decide) ?_
    refine g_aload_n (n := 1) hX dX6_classFor_0 rfl rfl rfl ?_
    refine g_aload_n (n := 2) hX dX6_classFor_1 rfl rfl rfl ?_
    refine g_pcallV (n := 5) (As := [.ref pr]) (rest := []) hX hE hU hY dX6_classFor_2 rfl yv_X5_latestOf um_X6_33 (x_latestOf _ _ K L f hm pr ra p gl la ma e2 e3 e4 e5 e6 e7 e8 (nI z) v2 v4 hhL hhf hpL hpf hlL hlf hp1 hp2) ⟨rfl, rfl⟩ (rm_le hRm rfl rfl) rfl hhL hhf rfl rfl rfl (Nat.le_of_ble_eq_true rfl) (by rw [hRm]; decide) (fun v0 w0 hq0 => ?_)
    rw [hlat] at hq0; obtain ⟨rfl, rfl⟩ := hq0
    show G Γ (va_pl L f) 2 109 5 [(0, .ref o), (1, .ref hm), (2, .ref pr)] [.null]
    refine g_astore_nN (lv' := [(3, .null), (0, .ref o), (1, .ref hm), (2, .ref pr)]) (n := 6) hX dX6_classFor_5 rfl rfl (by rw [hnL]; rfl) rfl ?_
    refine g_aload_nN (n := 7) hX dX6_classFor_6 rfl rfl rfl ?_
    refine g_ifnullN (tgt := 23) hX dX6_classFor_7 (by decide) ?_
    refine g_aload_n (n := 24) hX dX6_classFor_23 rfl rfl rfl ?_
    refine g_pget (n := 27) ux_X6 rfl hX hU dX6_classFor_24 rfl hoL hof 3 rfl uf_X6_30 rfl ?_
    refine g_aload_n (n := 28) hX dX6_classFor_27 rfl rfl rfl ?_
    refine g_pget (n := 31) ux_X6 rfl hX hU dX6_classFor_28 rfl hoL hof 1 rfl uf_X6_19 rfl ?_
    refine g_palen (n := 32) (t0 := 3) (v := nI (40)) hX hY dX6_classFor_31 rfl hcL hcf rfl rfl ?_
    refine g_icmp_lt (n := 35) (tgt := 37) hX dX6_classFor_32 rfl (by decide) (fun c32 => absurd c32 (nI_nlt (a := nc) (b := 40) (by omega) (by omega))) (fun c32 => ?_)
    refine g_null (n := 36) hX dX6_classFor_35 rfl ?_
    exact g_aret hX hR dX6_classFor_36 (Or.inl ⟨_, rfl⟩) (Or.inl rfl) (Or.inl ⟨hnc, rfl, rfl⟩)

set_option maxHeartbeats 4000000 in
set_option maxRecDepth 100000 in
theorem x_classForS (l : Launch) (D : va_G) (K : Nat → ClassId) (L : List Nat) (f : Nat → va_E) (o pa ca nc hm pr ra p z : Nat) (gc gl : Nat → Option Nat) (la ma : Nat) (e2 e3 e4 e5 e6 e7 e8 : Int32) (s2 v2 v4 : Int32) (mc mh mp mw : Nat) (mf : Option Nat) (m0 m3 m6 m7 m8 : Int32) (hoL : o ∈ L) (hof : f o = .inr (8, [.ref pa, .ref ca, .int s2, .int (nI nc)])) (hcL : ca ∈ L) (hcf : f ca = .inl (K 3, 40, rE gc)) (hhL : hm ∈ L) (hhf : f hm = .inr (7, [.ref la, .ref ma, .int e2, .int e3, .int e4, .int e5, .int e6, .int e7, .int e8])) (hlL : la ∈ L) (hlf : f la = .inl (K 3, 12, rE gl)) (hpL : pr ∈ L) (hpf : f pr = .inr (5, [.int (nI p), .int (nI z), .int v2, .ref ra, .int v4])) (hmL : mc ∈ L) (hmf : f mc = .inr (4, [.int m0, .ref mh, .ref mp, .int m3, .ref mw, va_rf (mf), .int m6, .int m7, .int m8])) (hp1 : 1 ≤ p) (hp2 : p ≤ 12) (hz2 : z ≤ 100) (hnc2 : nc ≤ 40) (hlat : gl (p - 1) = some mc) : Mc l yX6_classFor (wM yX6_classFor cX6_classFor 5 (some (.object "ClassMaker4$MadeClass"))) (rmL 2 2 109) D (yY K) [.ref o, .ref hm, .ref pr] (va_pl L f) (fun v w => (m3 = v4 ∧ v = some (.ref mc) ∧ w = va_pl L f) ∨ (¬ m3 = v4 ∧ ¬ nc < 40 ∧ v = some .null ∧ w = va_pl L f) ∨ (¬ m3 = v4 ∧ nc < 40 ∧ ∃ (q q1 : Nat), q ∉ L ∧ q1 ∉ L ++ [q] ∧ v = some (.ref q) ∧ ∃ f1 : Nat → va_E, w = va_pl (L ++ [q] ++ [q1]) f1 ∧ f1 = va_up (va_up (va_up (va_up (va_up (va_up (va_up f mc (.inr (4, [.int m0, .ref mh, .ref mp, .int m3, .ref mw, va_rf (mf), .int m6, .int m7, .int 1]))) q (.inr (4, [.int 0, .null, .null, .int 0, .null, .null, .int 0, .int 0, .int 0]))) q1 (.inl (K 0, z, .inl (fun _ => 0)))) q (.inr (4, [.int (nI (nc + 1)), .ref hm, .ref pr, .int v4, .ref q1, va_rf (none), .int 0, .int 0, .int 0]))) ca (.inl (K 3, 40, rE (va_up gc nc (some q))))) o (.inr (8, [.ref pa, .ref ca, .int s2, .int (nI (nc + 1))]))) la (.inl (K 3, 12, rE (va_up gl (p - 1) (some q)))))) 2 109 := by
  refine m_start (lv := [(0, .ref o), (1, .ref hm), (2, .ref pr)]) rfl (Nat.le_of_ble_eq_true rfl) rfl (fun Γ hX hRm hnL hY hDD hLa hR hI hE => ?_)
  have hU : ∀ w ∈ wU, w ∈ wM yX6_classFor cX6_classFor 5 (some (.object "ClassMaker4$MadeClass")) := fun w h => wM_in h
  subst hLa
  subst hDD
  by_cases heq : m3 = v4
  · refine g_widen (kc' := 2) (ks' := 109) (by decide) (by decide) ?_
    refine g_aload_n (n := 1) hX dX6_classFor_0 rfl rfl rfl ?_
    refine g_aload_n (n := 2) hX dX6_classFor_1 rfl rfl rfl ?_
    refine g_pcallV (n := 5) (As := [.ref pr]) (rest := []) hX hE hU hY dX6_classFor_2 rfl yv_X5_latestOf um_X6_33 (x_latestOf _ _ K L f hm pr ra p gl la ma e2 e3 e4 e5 e6 e7 e8 (nI z) v2 v4 hhL hhf hpL hpf hlL hlf hp1 hp2) ⟨rfl, rfl⟩ (rm_le hRm rfl rfl) rfl hhL hhf rfl rfl rfl (Nat.le_of_ble_eq_true rfl) (by rw [hRm]; decide) (fun v0 w0 hq0 => ?_)
    rw [hlat] at hq0; obtain ⟨rfl, rfl⟩ := hq0
    show G Γ (va_pl L f) 2 109 5 [(0, .ref o), (1, .ref hm), (2, .ref pr)] [.ref mc]
    refine g_astore_n (lv' := [(3, .ref mc), (0, .ref o), (1, .ref hm), (2, .ref pr)]) (n := 6) hX dX6_classFor_5 rfl rfl (by rw [hnL]; rfl) rfl ?_
    refine g_aload_n (n := 7) hX dX6_classFor_6 rfl rfl rfl ?_
    refine g_ifnull (n := 10) hX dX6_classFor_7 rfl ?_
    refine g_aload_n (n := 11) hX dX6_classFor_10 rfl rfl rfl ?_
    refine g_pget (n := 14) ux_X2 rfl hX hU dX6_classFor_11 rfl hmL hmf 3 rfl uf_X6_39 rfl ?_
    refine g_aload_n (n := 15) hX dX6_classFor_14 rfl rfl rfl ?_
    refine g_pget (n := 18) ux_X3 rfl hX hU dX6_classFor_15 rfl hpL hpf 4 rfl uf_X6_42 rfl ?_
    refine g_icmp_ne (n := 21) (tgt := 23) hX dX6_classFor_18 rfl (by decide) (fun c18 => absurd heq c18) (fun c18 => ?_)
    refine g_aload_n (n := 22) hX dX6_classFor_21 rfl rfl rfl ?_
    exact g_aret hX hR dX6_classFor_22 (Or.inl ⟨_, rfl⟩) (Or.inr ⟨_, rfl⟩) (Or.inl ⟨heq, rfl, rfl⟩)
  · by_cases hnc : nc < 40
    · refine g_aload_n (n := 1) hX dX6_classFor_0 rfl rfl rfl ?_
      refine g_aload_n (n := 2) hX dX6_classFor_1 rfl rfl rfl ?_
      refine g_pcallV (n := 5) (As := [.ref pr]) (rest := []) hX hE hU hY dX6_classFor_2 rfl yv_X5_latestOf um_X6_33 (x_latestOf _ _ K L f hm pr ra p gl la ma e2 e3 e4 e5 e6 e7 e8 (nI z) v2 v4 hhL hhf hpL hpf hlL hlf hp1 hp2) ⟨rfl, rfl⟩ (rm_le hRm rfl rfl) rfl hhL hhf rfl rfl rfl (Nat.le_of_ble_eq_true rfl) (by rw [hRm]; decide) (fun v0 w0 hq0 => ?_)
      rw [hlat] at hq0; obtain ⟨rfl, rfl⟩ := hq0
      show G Γ (va_pl L f) 0 0 5 [(0, .ref o), (1, .ref hm), (2, .ref pr)] [.ref mc]
      refine g_astore_n (lv' := [(3, .ref mc), (0, .ref o), (1, .ref hm), (2, .ref pr)]) (n := 6) hX dX6_classFor_5 rfl rfl (by rw [hnL]; rfl) rfl ?_
      refine g_aload_n (n := 7) hX dX6_classFor_6 rfl rfl rfl ?_
      refine g_ifnull (n := 10) hX dX6_classFor_7 rfl ?_
      refine g_aload_n (n := 11) hX dX6_classFor_10 rfl rfl rfl ?_
      refine g_pget (n := 14) ux_X2 rfl hX hU dX6_classFor_11 rfl hmL hmf 3 rfl uf_X6_39 rfl ?_
      refine g_aload_n (n := 15) hX dX6_classFor_14 rfl rfl rfl ?_
      refine g_pget (n := 18) ux_X3 rfl hX hU dX6_classFor_15 rfl hpL hpf 4 rfl uf_X6_42 rfl ?_
      refine g_icmp_ne (n := 21) (tgt := 23) hX dX6_classFor_18 rfl (by decide) (fun c18 => ?_) (fun c18 => absurd c18 heq)
      refine g_aload_n (n := 24) hX dX6_classFor_23 rfl rfl rfl ?_
      refine g_pget (n := 27) ux_X6 rfl hX hU dX6_classFor_24 rfl hoL hof 3 rfl uf_X6_30 rfl ?_
      refine g_aload_n (n := 28) hX dX6_classFor_27 rfl rfl rfl ?_
      refine g_pget (n := 31) ux_X6 rfl hX hU dX6_classFor_28 rfl hoL hof 1 rfl uf_X6_19 rfl ?_
      refine g_palen (n := 32) (t0 := 3) (v := nI (40)) hX hY dX6_classFor_31 rfl hcL hcf rfl rfl ?_
      refine g_icmp_lt (n := 35) (tgt := 37) hX dX6_classFor_32 rfl (by decide) (fun c32 => ?_) (fun c32 => absurd (nI_lt (a := nc) (b := 40) hnc (by decide)) c32)
      refine g_aload_n (n := 38) hX dX6_classFor_37 rfl rfl rfl ?_
      refine g_ifnull (n := 41) hX dX6_classFor_38 rfl ?_
      refine g_aload_n (n := 42) hX dX6_classFor_41 rfl rfl rfl ?_
      refine g_iconst (n := 43) (v := 1) hX dX6_classFor_42 rfl rfl ?_
      refine g_pput (n := 46) (fs' := [.int m0, .ref mh, .ref mp, .int m3, .ref mw, va_rf (mf), .int m6, .int m7, .int 1]) tyX2 tyX2_ok nmX2 ux_X2 rfl hX hU dX6_classFor_43 rfl hmL hmf 8 rfl uf_X6_43 rfl rfl rfl rfl rfl (fun f41 ef41 => ?_)
      have ho_42 : f41 o = .inr (8, [.ref pa, .ref ca, .int s2, .int (nI nc)]) := by rw [ef41, va_up_ne _ _ (ne_oo hof hmf rfl)]; exact hof
      have hca_43 : f41 ca = .inl (K 3, 40, rE gc) := by rw [ef41, va_up_ne _ _ (ne_ao hcf hmf)]; exact hcf
      have hhm_44 : f41 hm = .inr (7, [.ref la, .ref ma, .int e2, .int e3, .int e4, .int e5, .int e6, .int e7, .int e8]) := by rw [ef41, va_up_ne _ _ (ne_oo hhf hmf rfl)]; exact hhf
      have hla_45 : f41 la = .inl (K 3, 12, rE gl) := by rw [ef41, va_up_ne _ _ (ne_ao hlf hmf)]; exact hlf
      have hpr_46 : f41 pr = .inr (5, [.int (nI p), .int (nI z), .int v2, .ref ra, .int v4]) := by rw [ef41, va_up_ne _ _ (ne_oo hpf hmf rfl)]; exact hpf
      have hmc_47 : f41 mc = .inr (4, [.int m0, .ref mh, .ref mp, .int m3, .ref mw, va_rf (mf), .int m6, .int m7, .int 1]) := by rw [ef41]; exact va_up_self _ _ _
      refine g_pnew (n := 49) (ci := 4) (fs := [.int 0, .null, .null, .int 0, .null, .null, .int 0, .int 0, .int 0]) tyX2 tyX2_ok ux_X2 rfl hX hU dX6_classFor_46 rfl ul_X6_17 ut_X2 un_X2 (by decide) (by rw [hRm]; decide) (by rw [hRm]; decide) (fun q48 f48 hq48 ef48 => ?_)
      have ho_49 : f48 o = .inr (8, [.ref pa, .ref ca, .int s2, .int (nI nc)]) := by rw [ef48, va_up_ne _ _ (ne_new hoL hq48)]; exact ho_42
      have hca_50 : f48 ca = .inl (K 3, 40, rE gc) := by rw [ef48, va_up_ne _ _ (ne_new hcL hq48)]; exact hca_43
      have hhm_51 : f48 hm = .inr (7, [.ref la, .ref ma, .int e2, .int e3, .int e4, .int e5, .int e6, .int e7, .int e8]) := by rw [ef48, va_up_ne _ _ (ne_new hhL hq48)]; exact hhm_44
      have hla_52 : f48 la = .inl (K 3, 12, rE gl) := by rw [ef48, va_up_ne _ _ (ne_new hlL hq48)]; exact hla_45
      have hpr_53 : f48 pr = .inr (5, [.int (nI p), .int (nI z), .int v2, .ref ra, .int v4]) := by rw [ef48, va_up_ne _ _ (ne_new hpL hq48)]; exact hpr_46
      have hmc_54 : f48 mc = .inr (4, [.int m0, .ref mh, .ref mp, .int m3, .ref mw, va_rf (mf), .int m6, .int m7, .int 1]) := by rw [ef48, va_up_ne _ _ (ne_new hmL hq48)]; exact hmc_47
      have hq48_55 : f48 q48 = .inr (4, [.int 0, .null, .null, .int 0, .null, .null, .int 0, .int 0, .int 0]) := by rw [ef48]; exact va_up_self _ _ _
      refine g_dup (n := 50) hX dX6_classFor_49 rfl rfl ?_
      refine g_aload_n (n := 51) hX dX6_classFor_50 rfl rfl rfl ?_
      refine g_pget (n := 54) ux_X6 rfl hX hU dX6_classFor_51 rfl (in_app hoL) ho_49 3 rfl uf_X6_30 rfl ?_
      refine g_iconst (n := 55) (v := 1) hX dX6_classFor_54 rfl rfl ?_
      refine g_iadd (n := 56) (v := nI (nc + 1)) hX dX6_classFor_55 rfl (nI_add (nc) (1)) ?_
      refine g_aload_n (n := 57) hX dX6_classFor_56 rfl rfl rfl ?_
      refine g_aload_n (n := 58) hX dX6_classFor_57 rfl rfl rfl ?_
      refine g_callI0 (n := 61) (As := [.int (nI (nc + 1)), .ref hm, .ref pr]) (rest := [.ref q48]) hX hE hU hY dX6_classFor_58 rfl yi_X2_init um_X6_47 (x_MadeInit _ _ K (L ++ [q48]) f48 (nI (nc + 1)) q48 hm pr ra z (nI p) v2 v4 in_new hq48_55 (in_app hpL) hpr_53 hz2) ⟨rfl, rfl⟩ (rm_le hRm rfl rfl) rfl rfl (Nat.le_of_ble_eq_true rfl) (by rw [hRm]; decide) (fun v0 w0 hq0 => ?_)
      obtain ⟨rfl, q56, hq56, f56, rfl, ef56⟩ := hq0
      show G Γ (va_pl (L ++ [q48] ++ [q56]) f56) 2 109 61 [(3, .ref mc), (0, .ref o), (1, .ref hm), (2, .ref pr)] [.ref q48]
      obtain ⟨f57, ef57⟩ : ∃ g9 : Nat → va_E, g9 = va_up f48 q56 (.inl (K 0, z, .inl (fun _ => 0))) := ⟨_, rfl⟩
      rw [← ef57] at ef56
      have ho_58 : f57 o = .inr (8, [.ref pa, .ref ca, .int s2, .int (nI nc)]) := by rw [ef57, va_up_ne _ _ (ne_new (in_app hoL) hq56)]; exact ho_49
      have hca_59 : f57 ca = .inl (K 3, 40, rE gc) := by rw [ef57, va_up_ne _ _ (ne_new (in_app hcL) hq56)]; exact hca_50
      have hhm_60 : f57 hm = .inr (7, [.ref la, .ref ma, .int e2, .int e3, .int e4, .int e5, .int e6, .int e7, .int e8]) := by rw [ef57, va_up_ne _ _ (ne_new (in_app hhL) hq56)]; exact hhm_51
      have hla_61 : f57 la = .inl (K 3, 12, rE gl) := by rw [ef57, va_up_ne _ _ (ne_new (in_app hlL) hq56)]; exact hla_52
      have hpr_62 : f57 pr = .inr (5, [.int (nI p), .int (nI z), .int v2, .ref ra, .int v4]) := by rw [ef57, va_up_ne _ _ (ne_new (in_app hpL) hq56)]; exact hpr_53
      have hmc_63 : f57 mc = .inr (4, [.int m0, .ref mh, .ref mp, .int m3, .ref mw, va_rf (mf), .int m6, .int m7, .int 1]) := by rw [ef57, va_up_ne _ _ (ne_new (in_app hmL) hq56)]; exact hmc_54
      have hq48_64 : f57 q48 = .inr (4, [.int 0, .null, .null, .int 0, .null, .null, .int 0, .int 0, .int 0]) := by rw [ef57, va_up_ne _ _ (ne_new in_new hq56)]; exact hq48_55
      have hq56_65 : f57 q56 = .inl (K 0, z, .inl (fun _ => 0)) := by rw [ef57]; exact va_up_self _ _ _
      have ho_66 : f56 o = .inr (8, [.ref pa, .ref ca, .int s2, .int (nI nc)]) := by rw [ef56, va_up_ne _ _ (ne_new hoL hq48)]; exact ho_58
      have hca_67 : f56 ca = .inl (K 3, 40, rE gc) := by rw [ef56, va_up_ne _ _ (ne_new hcL hq48)]; exact hca_59
      have hhm_68 : f56 hm = .inr (7, [.ref la, .ref ma, .int e2, .int e3, .int e4, .int e5, .int e6, .int e7, .int e8]) := by rw [ef56, va_up_ne _ _ (ne_new hhL hq48)]; exact hhm_60
      have hla_69 : f56 la = .inl (K 3, 12, rE gl) := by rw [ef56, va_up_ne _ _ (ne_new hlL hq48)]; exact hla_61
      have hpr_70 : f56 pr = .inr (5, [.int (nI p), .int (nI z), .int v2, .ref ra, .int v4]) := by rw [ef56, va_up_ne _ _ (ne_new hpL hq48)]; exact hpr_62
      have hmc_71 : f56 mc = .inr (4, [.int m0, .ref mh, .ref mp, .int m3, .ref mw, va_rf (mf), .int m6, .int m7, .int 1]) := by rw [ef56, va_up_ne _ _ (ne_new hmL hq48)]; exact hmc_63
      have hq48_72 : f56 q48 = .inr (4, [.int (nI (nc + 1)), .ref hm, .ref pr, .int v4, .ref q56, va_rf (none), .int 0, .int 0, .int 0]) := by rw [ef56]; exact va_up_self _ _ _
      have hq56_73 : f56 q56 = .inl (K 0, z, .inl (fun _ => 0)) := by rw [ef56, va_up_ne _ _ (Ne.symm (ne_new in_new hq56))]; exact hq56_65
      refine g_astore (lv' := [(4, .ref q48), (3, .ref mc), (0, .ref o), (1, .ref hm), (2, .ref pr)]) (n := 63) hX dX6_classFor_61 rfl (by rw [hnL]; rfl) rfl ?_
      refine g_aload_n (n := 64) hX dX6_classFor_63 rfl rfl rfl ?_
      refine g_pget (n := 67) ux_X6 rfl hX hU dX6_classFor_64 rfl (in_app (in_app hoL)) ho_66 1 rfl uf_X6_19 rfl ?_
      refine g_aload_n (n := 68) hX dX6_classFor_67 rfl rfl rfl ?_
      refine g_pget (n := 71) ux_X6 rfl hX hU dX6_classFor_68 rfl (in_app (in_app hoL)) ho_66 3 rfl uf_X6_30 rfl ?_
      refine g_aload (n := 73) hX dX6_classFor_71 rfl rfl ?_
      refine g_past (n := 74) (i0 := nc) 3 hX hY dX6_classFor_73 rfl (in_app (in_app hcL)) hca_67 rfl (in_app in_new) hq48_72 rfl (vp_in_nI (show nc < 40 by omega) (by omega)) (nI_clamp (by omega)) (fun f74 ef74 => ?_)
      have ho_75 : f74 o = .inr (8, [.ref pa, .ref ca, .int s2, .int (nI nc)]) := by rw [ef74, va_up_ne _ _ (ne_oa ho_66 hca_67)]; exact ho_66
      have hca_76 : f74 ca = .inl (K 3, 40, rE (va_up gc nc (some q48))) := by rw [ef74]; exact va_up_self _ _ _
      have hhm_77 : f74 hm = .inr (7, [.ref la, .ref ma, .int e2, .int e3, .int e4, .int e5, .int e6, .int e7, .int e8]) := by rw [ef74, va_up_ne _ _ (ne_oa hhm_68 hca_67)]; exact hhm_68
      have hla_78 : f74 la = .inl (K 3, 12, rE gl) := by rw [ef74, va_up_ne _ _ (ne_aa hlf hcf rfl)]; exact hla_69
      have hpr_79 : f74 pr = .inr (5, [.int (nI p), .int (nI z), .int v2, .ref ra, .int v4]) := by rw [ef74, va_up_ne _ _ (ne_oa hpr_70 hca_67)]; exact hpr_70
      have hmc_80 : f74 mc = .inr (4, [.int m0, .ref mh, .ref mp, .int m3, .ref mw, va_rf (mf), .int m6, .int m7, .int 1]) := by rw [ef74, va_up_ne _ _ (ne_oa hmc_71 hca_67)]; exact hmc_71
      have hq48_81 : f74 q48 = .inr (4, [.int (nI (nc + 1)), .ref hm, .ref pr, .int v4, .ref q56, va_rf (none), .int 0, .int 0, .int 0]) := by rw [ef74, va_up_ne _ _ (Ne.symm (ne_new hcL hq48))]; exact hq48_72
      have hq56_82 : f74 q56 = .inl (K 0, z, .inl (fun _ => 0)) := by rw [ef74, va_up_ne _ _ (Ne.symm (ne_new (in_app hcL) hq56))]; exact hq56_73
      refine g_aload_n (n := 75) hX dX6_classFor_74 rfl rfl rfl ?_
      refine g_dup (n := 76) hX dX6_classFor_75 rfl rfl ?_
      refine g_pget (n := 79) ux_X6 rfl hX hU dX6_classFor_76 rfl (in_app (in_app hoL)) ho_75 3 rfl uf_X6_30 rfl ?_
      refine g_iconst (n := 80) (v := 1) hX dX6_classFor_79 rfl rfl ?_
      refine g_iadd (n := 81) (v := nI (nc + 1)) hX dX6_classFor_80 rfl (nI_add (nc) (1)) ?_
      refine g_pput (n := 84) (fs' := [.ref pa, .ref ca, .int s2, .int (nI (nc + 1))]) tyX6 tyX6_ok nmX6 ux_X6 rfl hX hU dX6_classFor_81 rfl (in_app (in_app hoL)) ho_75 3 rfl uf_X6_30 rfl rfl rfl rfl rfl (fun f83 ef83 => ?_)
      have ho_84 : f83 o = .inr (8, [.ref pa, .ref ca, .int s2, .int (nI (nc + 1))]) := by rw [ef83]; exact va_up_self _ _ _
      have hca_85 : f83 ca = .inl (K 3, 40, rE (va_up gc nc (some q48))) := by rw [ef83, va_up_ne _ _ (ne_ao hca_76 ho_75)]; exact hca_76
      have hhm_86 : f83 hm = .inr (7, [.ref la, .ref ma, .int e2, .int e3, .int e4, .int e5, .int e6, .int e7, .int e8]) := by rw [ef83, va_up_ne _ _ (ne_oo hhm_77 ho_75 rfl)]; exact hhm_77
      have hla_87 : f83 la = .inl (K 3, 12, rE gl) := by rw [ef83, va_up_ne _ _ (ne_ao hla_78 ho_75)]; exact hla_78
      have hpr_88 : f83 pr = .inr (5, [.int (nI p), .int (nI z), .int v2, .ref ra, .int v4]) := by rw [ef83, va_up_ne _ _ (ne_oo hpr_79 ho_75 rfl)]; exact hpr_79
      have hmc_89 : f83 mc = .inr (4, [.int m0, .ref mh, .ref mp, .int m3, .ref mw, va_rf (mf), .int m6, .int m7, .int 1]) := by rw [ef83, va_up_ne _ _ (ne_oo hmc_80 ho_75 rfl)]; exact hmc_80
      have hq48_90 : f83 q48 = .inr (4, [.int (nI (nc + 1)), .ref hm, .ref pr, .int v4, .ref q56, va_rf (none), .int 0, .int 0, .int 0]) := by rw [ef83, va_up_ne _ _ (Ne.symm (ne_new hoL hq48))]; exact hq48_81
      have hq56_91 : f83 q56 = .inl (K 0, z, .inl (fun _ => 0)) := by rw [ef83, va_up_ne _ _ (Ne.symm (ne_new (in_app hoL) hq56))]; exact hq56_82
      refine g_aload_n (n := 85) hX dX6_classFor_84 rfl rfl rfl ?_
      refine g_aload_n (n := 86) hX dX6_classFor_85 rfl rfl rfl ?_
      refine g_aload (n := 88) hX dX6_classFor_86 rfl rfl ?_
      refine g_pcallV (n := 91) (As := [.ref pr, .ref q48]) (rest := []) hX hE hU hY dX6_classFor_88 rfl yv_X5_setLatest um_X6_50 (x_setLatest _ _ K (L ++ [q48] ++ [q56]) f83 hm pr ra p gl la ma e2 e3 e4 e5 e6 e7 e8 (nI z) v2 v4 q48 hm pr q56 none (nI (nc + 1)) v4 0 0 0 (in_app (in_app hhL)) hhm_86 (in_app (in_app hpL)) hpr_88 (in_app (in_app hlL)) hla_87 (in_app in_new) hq48_90 hp1 hp2) ⟨rfl, rfl⟩ (rm_le hRm rfl rfl) rfl (in_app (in_app hhL)) hhm_86 rfl rfl rfl (Nat.le_of_ble_eq_true rfl) (by rw [hRm]; decide) (fun v0 w0 hq0 => ?_)
      obtain ⟨rfl, f92, rfl, ef92⟩ := hq0
      show G Γ (va_pl (L ++ [q48] ++ [q56]) f92) 2 109 91 [(4, .ref q48), (3, .ref mc), (0, .ref o), (1, .ref hm), (2, .ref pr)] []
      refine g_aload (n := 93) hX dX6_classFor_91 rfl rfl ?_
      exact g_aret hX hR dX6_classFor_93 (Or.inl ⟨_, rfl⟩) (Or.inr ⟨_, rfl⟩) (Or.inr (Or.inr ⟨heq, hnc, q48, q56, hq48, hq56, rfl, _, rfl, by simp only [ef41, ef48, ef57, ef56, ef74, ef83, ef92]⟩))
    · refine g_widen (kc' := 2) (ks' := 109) (by decide) (by decide) ?_
      refine g_aload_n (n := 1) hX dX6_classFor_0 rfl rfl rfl ?_
      refine g_aload_n (n := 2) hX dX6_classFor_1 rfl rfl rfl ?_
      refine g_pcallV (n := 5) (As := [.ref pr]) (rest := []) hX hE hU hY dX6_classFor_2 rfl yv_X5_latestOf um_X6_33 (x_latestOf _ _ K L f hm pr ra p gl la ma e2 e3 e4 e5 e6 e7 e8 (nI z) v2 v4 hhL hhf hpL hpf hlL hlf hp1 hp2) ⟨rfl, rfl⟩ (rm_le hRm rfl rfl) rfl hhL hhf rfl rfl rfl (Nat.le_of_ble_eq_true rfl) (by rw [hRm]; decide) (fun v0 w0 hq0 => ?_)
      rw [hlat] at hq0; obtain ⟨rfl, rfl⟩ := hq0
      show G Γ (va_pl L f) 2 109 5 [(0, .ref o), (1, .ref hm), (2, .ref pr)] [.ref mc]
      refine g_astore_n (lv' := [(3, .ref mc), (0, .ref o), (1, .ref hm), (2, .ref pr)]) (n := 6) hX dX6_classFor_5 rfl rfl (by rw [hnL]; rfl) rfl ?_
      refine g_aload_n (n := 7) hX dX6_classFor_6 rfl rfl rfl ?_
      refine g_ifnull (n := 10) hX dX6_classFor_7 rfl ?_
      refine g_aload_n (n := 11) hX dX6_classFor_10 rfl rfl rfl ?_
      refine g_pget (n := 14) ux_X2 rfl hX hU dX6_classFor_11 rfl hmL hmf 3 rfl uf_X6_39 rfl ?_
      refine g_aload_n (n := 15) hX dX6_classFor_14 rfl rfl rfl ?_
      refine g_pget (n := 18) ux_X3 rfl hX hU dX6_classFor_15 rfl hpL hpf 4 rfl uf_X6_42 rfl ?_
      refine g_icmp_ne (n := 21) (tgt := 23) hX dX6_classFor_18 rfl (by decide) (fun c18 => ?_) (fun c18 => absurd c18 heq)
      refine g_aload_n (n := 24) hX dX6_classFor_23 rfl rfl rfl ?_
      refine g_pget (n := 27) ux_X6 rfl hX hU dX6_classFor_24 rfl hoL hof 3 rfl uf_X6_30 rfl ?_
      refine g_aload_n (n := 28) hX dX6_classFor_27 rfl rfl rfl ?_
      refine g_pget (n := 31) ux_X6 rfl hX hU dX6_classFor_28 rfl hoL hof 1 rfl uf_X6_19 rfl ?_
      refine g_palen (n := 32) (t0 := 3) (v := nI (40)) hX hY dX6_classFor_31 rfl hcL hcf rfl rfl ?_
      refine g_icmp_lt (n := 35) (tgt := 37) hX dX6_classFor_32 rfl (by decide) (fun c32 => absurd c32 (nI_nlt (a := nc) (b := 40) (by omega) (by omega))) (fun c32 => ?_)
      refine g_null (n := 36) hX dX6_classFor_35 rfl ?_
      exact g_aret hX hR dX6_classFor_36 (Or.inl ⟨_, rfl⟩) (Or.inl rfl) (Or.inr (Or.inl ⟨heq, hnc, rfl, rfl⟩))

