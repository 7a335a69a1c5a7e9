set_option maxHeartbeats 4000000 in
set_option maxRecDepth 100000 in
theorem x_MadeInit (l : Launch) (D : va_G) (K : Nat → ClassId) (L : List Nat) (f : Nat → va_E) (x : Int32) (o hm pr ra z : Nat) (v0 v2 v4 : Int32) (hoL : o ∈ L) (hof : f o = .inr (4, [.int 0, .null, .null, .int 0, .null, va_rf (none), .int 0, .int 0, .int 0])) (hpL : pr ∈ L) (hpf : f pr = .inr (5, [.int v0, .int (nI z), .int v2, .ref ra, .int v4])) (hz2 : z ≤ 100) : Mc l yX2_init (wM yX2_init cX2_init 4 none) (rmL 1 1 100) D (yY K) [.ref o, .int x, .ref hm, .ref pr] (va_pl L f) (fun v w => v = none ∧ ∃ q1 : Nat, q1 ∉ L ∧ ∃ f1 : Nat → va_E, w = va_pl (L ++ [q1]) f1 ∧ f1 = va_up (va_up f q1 (.inl (K 0, z, .inl (fun _ => 0)))) o (.inr (4, [.int x, .ref hm, .ref pr, .int v4, .ref q1, va_rf (none), .int 0, .int 0, .int 0]))) 1 100 := by
  refine m_start (lv := [(0, .ref o), (1, .int x), (2, .ref hm), (3, .ref pr)]) rfl (Nat.le_of_ble_eq_true rfl) rfl (fun Γ hX hRm hnL hY hDD hLa hR hI hE => ?_)
  have hU : ∀ w ∈ wU, w ∈ wM yX2_init cX2_init 4 none := fun w h => wM_in h
  subst hLa
  subst hDD
  refine g_aload_n (n := 1) hX dX2_init_0 rfl rfl rfl ?_
  refine g_objInit (n := 4) hX dX2_init_1 rfl (hU _ um_X2_3) (hU _ ui_obj) (hU _ uc_obj) (by rw [hRm]; decide) (by decide) (by rw [hRm]; decide) ?_
  refine g_aload_n (n := 5) hX dX2_init_4 rfl rfl rfl ?_
  refine g_iload_n (n := 6) hX dX2_init_5 rfl rfl rfl ?_
  refine g_pputF (n := 9) (fs' := [.int x, .null, .null, .int 0, .null, va_rf (none), .int 0, .int 0, .int 0]) tyX2 tyX2_ok nmX2 ux_X2 rfl hX hU (hI rfl) dX2_init_6 rfl hoL hof 0 rfl uf_X2_9 rfl rfl rfl rfl rfl rfl (fun f1 ef1 => ?_)
  have ho_2 : f1 o = .inr (4, [.int x, .null, .null, .int 0, .null, va_rf (none), .int 0, .int 0, .int 0]) := by rw [ef1]; exact va_up_self _ _ _
  have hpr_3 : f1 pr = .inr (5, [.int v0, .int (nI z), .int v2, .ref ra, .int v4]) := by rw [ef1, va_up_ne _ _ (ne_oo hpf hof rfl)]; exact hpf
  refine g_aload_n (n := 10) hX dX2_init_9 rfl rfl rfl ?_
  refine g_aload_n (n := 11) hX dX2_init_10 rfl rfl rfl ?_
  refine g_pputF (n := 14) (fs' := [.int x, .ref hm, .null, .int 0, .null, va_rf (none), .int 0, .int 0, .int 0]) tyX2 tyX2_ok nmX2 ux_X2 rfl hX hU (hI rfl) dX2_init_11 rfl hoL ho_2 1 rfl uf_X2_15 rfl rfl rfl rfl rfl rfl (fun f4 ef4 => ?_)
  have ho_5 : f4 o = .inr (4, [.int x, .ref hm, .null, .int 0, .null, va_rf (none), .int 0, .int 0, .int 0]) := by rw [ef4]; exact va_up_self _ _ _
  have hpr_6 : f4 pr = .inr (5, [.int v0, .int (nI z), .int v2, .ref ra, .int v4]) := by rw [ef4, va_up_ne _ _ (ne_oo hpr_3 ho_2 rfl)]; exact hpr_3
  refine g_aload_n (n := 15) hX dX2_init_14 rfl rfl rfl ?_
  refine g_aload_n (n := 16) hX dX2_init_15 rfl rfl rfl ?_
  refine g_pputF (n := 19) (fs' := [.int x, .ref hm, .ref pr, .int 0, .null, va_rf (none), .int 0, .int 0, .int 0]) tyX2 tyX2_ok nmX2 ux_X2 rfl hX hU (hI rfl) dX2_init_16 rfl hoL ho_5 2 rfl uf_X2_19 rfl rfl rfl rfl rfl rfl (fun f7 ef7 => ?_)
  have ho_8 : f7 o = .inr (4, [.int x, .ref hm, .ref pr, .int 0, .null, va_rf (none), .int 0, .int 0, .int 0]) := by rw [ef7]; exact va_up_self _ _ _
  have hpr_9 : f7 pr = .inr (5, [.int v0, .int (nI z), .int v2, .ref ra, .int v4]) := by rw [ef7, va_up_ne _ _ (ne_oo hpr_6 ho_5 rfl)]; exact hpr_6
  refine g_aload_n (n := 20) hX dX2_init_19 rfl rfl rfl ?_
  refine g_aload_n (n := 21) hX dX2_init_20 rfl rfl rfl ?_
  refine g_pget (n := 24) ux_X3 rfl hX hU dX2_init_21 rfl hpL hpr_9 4 rfl uf_X2_23 rfl ?_
  refine g_pputF (n := 27) (fs' := [.int x, .ref hm, .ref pr, .int v4, .null, va_rf (none), .int 0, .int 0, .int 0]) tyX2 tyX2_ok nmX2 ux_X2 rfl hX hU (hI rfl) dX2_init_24 rfl hoL ho_8 3 rfl uf_X2_28 rfl rfl rfl rfl rfl rfl (fun f10 ef10 => ?_)
  have ho_11 : f10 o = .inr (4, [.int x, .ref hm, .ref pr, .int v4, .null, va_rf (none), .int 0, .int 0, .int 0]) := by rw [ef10]; exact va_up_self _ _ _
  have hpr_12 : f10 pr = .inr (5, [.int v0, .int (nI z), .int v2, .ref ra, .int v4]) := by rw [ef10, va_up_ne _ _ (ne_oo hpr_9 ho_8 rfl)]; exact hpr_9
  refine g_aload_n (n := 28) hX dX2_init_27 rfl rfl rfl ?_
  refine g_aload_n (n := 29) hX dX2_init_28 rfl rfl rfl ?_
  refine g_pget (n := 32) ux_X3 rfl hX hU dX2_init_29 rfl hpL hpr_12 1 rfl uf_X2_29 rfl ?_
  refine g_pnewa (n := 34) (atype := .byte) (N := z) (a0 := (z, .inl (fun _ => 0))) 0 ua_byte rfl rfl (Or.inl rfl) hX hU hY dX2_init_32 rfl (fun _ => rfl) (nI_pos (by omega)) (nI_clamp (by omega)) (by show z * 1 ≤ _; omega) (by rw [hRm]; exact (by decide)) (by rw [hRm]; exact (by show 0 + z ≤ 100; omega)) (fun q13 f13 hq13 ef13 => ?_)
  have ho_14 : f13 o = .inr (4, [.int x, .ref hm, .ref pr, .int v4, .null, va_rf (none), .int 0, .int 0, .int 0]) := by rw [ef13, va_up_ne _ _ (ne_new hoL hq13)]; exact ho_11
  have hpr_15 : f13 pr = .inr (5, [.int v0, .int (nI z), .int v2, .ref ra, .int v4]) := by rw [ef13, va_up_ne _ _ (ne_new hpL hq13)]; exact hpr_12
  have hq13_16 : f13 q13 = .inl (K 0, z, .inl (fun _ => 0)) := by rw [ef13]; exact va_up_self _ _ _
  refine g_widen (kc' := 1) (ks' := 100) (by decide) (by omega) ?_
  refine g_pputF (n := 37) (fs' := [.int x, .ref hm, .ref pr, .int v4, .ref q13, va_rf (none), .int 0, .int 0, .int 0]) tyX2 tyX2_ok nmX2 ux_X2 rfl hX hU (hI rfl) dX2_init_34 rfl (in_app hoL) ho_14 4 rfl uf_X2_32 rfl rfl rfl rfl rfl rfl (fun f17 ef17 => ?_)
  have ho_18 : f17 o = .inr (4, [.int x, .ref hm, .ref pr, .int v4, .ref q13, va_rf (none), .int 0, .int 0, .int 0]) := by rw [ef17]; exact va_up_self _ _ _
  have hpr_19 : f17 pr = .inr (5, [.int v0, .int (nI z), .int v2, .ref ra, .int v4]) := by rw [ef17, va_up_ne _ _ (ne_oo hpr_15 ho_14 rfl)]; exact hpr_15
  have hq13_20 : f17 q13 = .inl (K 0, z, .inl (fun _ => 0)) := by rw [ef17, va_up_ne _ _ (Ne.symm (ne_new hoL hq13))]; exact hq13_16
  exact g_vret hX hR dX2_init_37 ⟨rfl, q13, hq13, _, rfl, by simp only [ef1, ef4, ef7, ef10, ef13, ef17, up_up]; rw [up_mid (ne_new hoL hq13)]⟩

set_option maxHeartbeats 4000000 in
set_option maxRecDepth 100000 in
theorem x_addProgram (l : Launch) (D : va_G) (K : Nat → ClassId) (L : List Nat) (f : Nat → va_E) (z sf : Int32) (o pa ca np : Nat) (g : Nat → Option Nat) (v3 : Int32) (hoL : o ∈ L) (hof : f o = .inr (8, [.ref pa, .ref ca, .int (nI np), .int v3])) (haL : pa ∈ L) (haf : f pa = .inl (K 4, 12, rE g)) (hnp2 : np ≤ 12) (hsf : isB sf) : Mc l yX6_addProgram (wM yX6_addProgram cX6_addProgram 3 (some .int)) (rmL 2 2 65) D (yY K) [.ref o, .int z, .int sf] (va_pl L f) (fun v w => (¬ np < 12 ∧ v = some (.int (-1)) ∧ w = va_pl L f) ∨ (np < 12 ∧ v = some (.int (nI (np + 1))) ∧ ∃ (q q1 : Nat), q ∉ L ∧ q1 ∉ L ++ [q] ∧ ∃ f1 : Nat → va_E, w = va_pl (L ++ [q] ++ [q1]) f1 ∧ f1 = va_up (va_up (va_up (va_up (va_up f q (.inr (5, [.int 0, .int 0, .int 0, .null, .int 0]))) q1 (.inl (K 5, 60, rE (fun _ => none)))) q (.inr (5, [.int (nI (np + 1)), .int z, .int sf, .ref q1, .int 0]))) pa (.inl (K 4, 12, rE (va_up g np (some q))))) o (.inr (8, [.ref pa, .ref ca, .int (nI (np + 1)), .int v3])))) 2 65 := by
  refine m_start (lv := [(0, .ref o), (1, .int z), (2, .int sf)]) rfl (Nat.le_of_ble_eq_true rfl) rfl (fun Γ hX hRm hnL hY hDD hLa hR hI hE => ?_)
  have hU : ∀ w ∈ wU, w ∈ wM yX6_addProgram cX6_addProgram 3 (some .int) := fun w h => wM_in h
  subst hLa
  subst hDD
  by_cases hnp : np < 12
  · refine g_aload_n (n := 1) hX dX6_addProgram_0 rfl rfl rfl ?_
    refine g_pget (n := 4) ux_X6 rfl hX hU dX6_addProgram_1 rfl hoL hof 2 rfl uf_X6_23 rfl ?_
    refine g_aload_n (n := 5) hX dX6_addProgram_4 rfl rfl rfl ?_
    refine g_pget (n := 8) ux_X6 rfl hX hU dX6_addProgram_5 rfl hoL hof 0 rfl uf_X6_11 rfl ?_
    refine g_palen (n := 9) (t0 := 4) (v := nI (12)) hX hY dX6_addProgram_8 rfl haL haf rfl rfl ?_
    refine g_icmp_lt (n := 12) (tgt := 14) hX dX6_addProgram_9 rfl (by decide) (fun c9 => ?_) (fun c9 => absurd (nI_lt (a := np) (b := 12) hnp (by decide)) c9)
    refine g_aload_n (n := 15) hX dX6_addProgram_14 rfl rfl rfl ?_
    refine g_pget (n := 18) ux_X6 rfl hX hU dX6_addProgram_15 rfl hoL hof 0 rfl uf_X6_11 rfl ?_
    refine g_aload_n (n := 19) hX dX6_addProgram_18 rfl rfl rfl ?_
    refine g_pget (n := 22) ux_X6 rfl hX hU dX6_addProgram_19 rfl hoL hof 2 rfl uf_X6_23 rfl ?_
    refine g_pnew (n := 25) (ci := 5) (fs := [.int 0, .int 0, .int 0, .null, .int 0]) tyX3 tyX3_ok ux_X3 rfl hX hU dX6_addProgram_22 rfl ul_X6_9 ut_X3 un_X3 (by decide) (by rw [hRm]; decide) (by rw [hRm]; decide) (fun q21 f21 hq21 ef21 => ?_)
    have ho_22 : f21 o = .inr (8, [.ref pa, .ref ca, .int (nI np), .int v3]) := by rw [ef21, va_up_ne _ _ (ne_new hoL hq21)]; exact hof
    have hpa_23 : f21 pa = .inl (K 4, 12, rE g) := by rw [ef21, va_up_ne _ _ (ne_new haL hq21)]; exact haf
    have hq21_24 : f21 q21 = .inr (5, [.int 0, .int 0, .int 0, .null, .int 0]) := by rw [ef21]; exact va_up_self _ _ _
    refine g_dup (n := 26) hX dX6_addProgram_25 rfl rfl ?_
    refine g_aload_n (n := 27) hX dX6_addProgram_26 rfl rfl rfl ?_
    refine g_pget (n := 30) ux_X6 rfl hX hU dX6_addProgram_27 rfl (in_app hoL) ho_22 2 rfl uf_X6_23 rfl ?_
    refine g_iconst (n := 31) (v := 1) hX dX6_addProgram_30 rfl rfl ?_
    refine g_iadd (n := 32) (v := nI (np + 1)) hX dX6_addProgram_31 rfl (nI_add (np) (1)) ?_
    refine g_iload_n (n := 33) hX dX6_addProgram_32 rfl rfl rfl ?_
    refine g_iload_n (n := 34) hX dX6_addProgram_33 rfl rfl rfl ?_
    refine g_callI0 (n := 37) (As := [.int (nI (np + 1)), .int z, .int sf]) (rest := [.ref q21, .int (nI np), .ref pa]) hX hE hU hY dX6_addProgram_34 rfl yi_X3_init um_X6_27 (x_ProgramInit _ _ K (L ++ [q21]) f21 (nI (np + 1)) z sf q21 in_new hq21_24 hsf) ⟨rfl, rfl⟩ (rm_le hRm rfl rfl) rfl rfl (Nat.le_of_ble_eq_true rfl) (by rw [hRm]; decide) (fun v0 w0 hq0 => ?_)
    obtain ⟨rfl, q25, hq25, f25, rfl, ef25⟩ := hq0
    show G Γ (va_pl (L ++ [q21] ++ [q25]) f25) 2 65 37 [(0, .ref o), (1, .int z), (2, .int sf)] [.ref q21, .int (nI np), .ref pa]
    obtain ⟨f26, ef26⟩ : ∃ g9 : Nat → va_E, g9 = va_up f21 q25 (.inl (K 5, 60, rE (fun _ => none))) := ⟨_, rfl⟩
    rw [← ef26] at ef25
    have ho_27 : f26 o = .inr (8, [.ref pa, .ref ca, .int (nI np), .int v3]) := by rw [ef26, va_up_ne _ _ (ne_new (in_app hoL) hq25)]; exact ho_22
    have hpa_28 : f26 pa = .inl (K 4, 12, rE g) := by rw [ef26, va_up_ne _ _ (ne_new (in_app haL) hq25)]; exact hpa_23
    have hq21_29 : f26 q21 = .inr (5, [.int 0, .int 0, .int 0, .null, .int 0]) := by rw [ef26, va_up_ne _ _ (ne_new in_new hq25)]; exact hq21_24
    have hq25_30 : f26 q25 = .inl (K 5, 60, rE (fun _ => none)) := by rw [ef26]; exact va_up_self _ _ _
    have ho_31 : f25 o = .inr (8, [.ref pa, .ref ca, .int (nI np), .int v3]) := by rw [ef25, va_up_ne _ _ (ne_new hoL hq21)]; exact ho_27
    have hpa_32 : f25 pa = .inl (K 4, 12, rE g) := by rw [ef25, va_up_ne _ _ (ne_new haL hq21)]; exact hpa_28
    have hq21_33 : f25 q21 = .inr (5, [.int (nI (np + 1)), .int z, .int sf, .ref q25, .int 0]) := by rw [ef25]; exact va_up_self _ _ _
    have hq25_34 : f25 q25 = .inl (K 5, 60, rE (fun _ => none)) := by rw [ef25, va_up_ne _ _ (Ne.symm (ne_new in_new hq25))]; exact hq25_30
    refine g_past (n := 38) (i0 := np) 4 hX hY dX6_addProgram_37 rfl (in_app (in_app haL)) hpa_32 rfl (in_app in_new) hq21_33 rfl (vp_in_nI (show np < 12 by omega) (by omega)) (nI_clamp (by omega)) (fun f35 ef35 => ?_)
    have ho_36 : f35 o = .inr (8, [.ref pa, .ref ca, .int (nI np), .int v3]) := by rw [ef35, va_up_ne _ _ (ne_oa ho_31 hpa_32)]; exact ho_31
    have hpa_37 : f35 pa = .inl (K 4, 12, rE (va_up g np (some q21))) := by rw [ef35]; exact va_up_self _ _ _
    have hq21_38 : f35 q21 = .inr (5, [.int (nI (np + 1)), .int z, .int sf, .ref q25, .int 0]) := by rw [ef35, va_up_ne _ _ (Ne.symm (ne_new haL hq21))]; exact hq21_33
    have hq25_39 : f35 q25 = .inl (K 5, 60, rE (fun _ => none)) := by rw [ef35, va_up_ne _ _ (Ne.symm (ne_new (in_app haL) hq25))]; exact hq25_34
    refine g_aload_n (n := 39) hX dX6_addProgram_38 rfl rfl rfl ?_
    refine g_dup (n := 40) hX dX6_addProgram_39 rfl rfl ?_
    refine g_pget (n := 43) ux_X6 rfl hX hU dX6_addProgram_40 rfl (in_app (in_app hoL)) ho_36 2 rfl uf_X6_23 rfl ?_
    refine g_iconst (n := 44) (v := 1) hX dX6_addProgram_43 rfl rfl ?_
    refine g_iadd (n := 45) (v := nI (np + 1)) hX dX6_addProgram_44 rfl (nI_add (np) (1)) ?_
    refine g_pput (n := 48) (fs' := [.ref pa, .ref ca, .int (nI (np + 1)), .int v3]) tyX6 tyX6_ok nmX6 ux_X6 rfl hX hU dX6_addProgram_45 rfl (in_app (in_app hoL)) ho_36 2 rfl uf_X6_23 rfl rfl rfl rfl rfl (fun f40 ef40 => ?_)
    have ho_41 : f40 o = .inr (8, [.ref pa, .ref ca, .int (nI (np + 1)), .int v3]) := by rw [ef40]; exact va_up_self _ _ _
    have hpa_42 : f40 pa = .inl (K 4, 12, rE (va_up g np (some q21))) := by rw [ef40, va_up_ne _ _ (ne_ao hpa_37 ho_36)]; exact hpa_37
    have hq21_43 : f40 q21 = .inr (5, [.int (nI (np + 1)), .int z, .int sf, .ref q25, .int 0]) := by rw [ef40, va_up_ne _ _ (Ne.symm (ne_new hoL hq21))]; exact hq21_38
    have hq25_44 : f40 q25 = .inl (K 5, 60, rE (fun _ => none)) := by rw [ef40, va_up_ne _ _ (Ne.symm (ne_new (in_app hoL) hq25))]; exact hq25_39
    refine g_aload_n (n := 49) hX dX6_addProgram_48 rfl rfl rfl ?_
    refine g_pget (n := 52) ux_X6 rfl hX hU dX6_addProgram_49 rfl (in_app (in_app hoL)) ho_41 2 rfl uf_X6_23 rfl ?_
    exact g_iret hX hR dX6_addProgram_52 (Or.inr ⟨hnp, rfl, q21, q25, hq21, hq25, _, rfl, by simp only [ef21, ef26, ef25, ef35, ef40]⟩)
  · refine g_widen (kc' := 2) (ks' := 65) (by decide) (by decide) ?_
    refine g_aload_n (n := 1) hX dX6_addProgram_0 rfl rfl rfl ?_
    refine g_pget (n := 4) ux_X6 rfl hX hU dX6_addProgram_1 rfl hoL hof 2 rfl uf_X6_23 rfl ?_
    refine g_aload_n (n := 5) hX dX6_addProgram_4 rfl rfl rfl ?_
    refine g_pget (n := 8) ux_X6 rfl hX hU dX6_addProgram_5 rfl hoL hof 0 rfl uf_X6_11 rfl ?_
    refine g_palen (n := 9) (t0 := 4) (v := nI (12)) hX hY dX6_addProgram_8 rfl haL haf rfl rfl ?_
    refine g_icmp_lt (n := 12) (tgt := 14) hX dX6_addProgram_9 rfl (by decide) (fun c9 => absurd c9 (nI_nlt (a := np) (b := 12) (by omega) (by omega))) (fun c9 => ?_)
    refine g_iconst (n := 13) (v := (-1)) hX dX6_addProgram_12 rfl rfl ?_
    exact g_iret hX hR dX6_addProgram_13 (Or.inl ⟨hnp, rfl, rfl⟩)

