set_option maxHeartbeats 4000000 in
set_option maxRecDepth 100000 in
theorem x_StoreInit (l : Launch) (D : va_G) (K : Nat → ClassId) (L : List Nat) (f : Nat → va_E) (o : Nat) (hoL : o ∈ L) (hof : f o = .inr (8, [.null, .null, .int 0, .int 0])) : Mc l yX6_init (wM yX6_init cX6_init 1 none) (rmL 1 2 52) D (yY K) [.ref o] (va_pl L f) (fun v w => v = none ∧ ∃ q1 q2 : Nat, q1 ∉ L ∧ q2 ∉ L ++ [q1] ∧ ∃ f1 : Nat → va_E, w = va_pl (L ++ [q1] ++ [q2]) f1 ∧ f1 = va_up (va_up (va_up (va_up f q1 (.inl (K 4, 12, rE (fun _ => none)))) o (.inr (8, [.ref q1, .null, .int 0, .int 0]))) q2 (.inl (K 3, 40, rE (fun _ => none)))) o (.inr (8, [.ref q1, .ref q2, .int 0, .int 0]))) 2 52 := by
  refine m_start (lv := [(0, .ref o)]) rfl (Nat.le_of_ble_eq_true rfl) rfl (fun Γ hX hRm hnL hY hDD hLa hR hI hE => ?_)
  have hU : ∀ w ∈ wU, w ∈ wM yX6_init cX6_init 1 none := fun w h => wM_in h
  subst hLa
  subst hDD
  refine g_aload_n (n := 1) hX dX6_init_0 rfl rfl rfl ?_
  refine g_objInit (n := 4) hX dX6_init_1 rfl (hU _ um_X6_3) (hU _ ui_obj) (hU _ uc_obj) (by rw [hRm]; decide) (by decide) (by rw [hRm]; decide) ?_
  refine g_aload_n (n := 5) hX dX6_init_4 rfl rfl rfl ?_
  refine g_bipush (n := 7) (v := 12) hX dX6_init_5 rfl rfl ?_
  refine g_pnewq (n := 10) (N := 12) 4 (fun h9 => h9.1) rfl hX hE hU hY dX6_init_7 rfl ul_X6_9 (by decide) rfl (by decide) (by rw [hRm]; exact Nat.le_of_ble_eq_true rfl) (by rw [hRm]; exact Nat.le_of_ble_eq_true rfl) (fun q1 f1 hq1 ef1 => ?_)
  have ho_2 : f1 o = .inr (8, [.null, .null, .int 0, .int 0]) := by rw [ef1, va_up_ne _ _ (ne_new hoL hq1)]; exact hof
  have hq1_3 : f1 q1 = .inl (K 4, 12, rE (fun _ => none)) := by rw [ef1]; exact va_up_self _ _ _
  refine g_pputF (n := 13) (fs' := [.ref q1, .null, .int 0, .int 0]) tyX6 tyX6_ok nmX6 ux_X6 rfl hX hU (hI rfl) dX6_init_10 rfl (in_app hoL) ho_2 0 rfl uf_X6_11 rfl rfl rfl rfl rfl rfl (fun f4 ef4 => ?_)
  have ho_5 : f4 o = .inr (8, [.ref q1, .null, .int 0, .int 0]) := by rw [ef4]; exact va_up_self _ _ _
  have hq1_6 : f4 q1 = .inl (K 4, 12, rE (fun _ => none)) := by rw [ef4, va_up_ne _ _ (Ne.symm (ne_new hoL hq1))]; exact hq1_3
  refine g_aload_n (n := 14) hX dX6_init_13 rfl rfl rfl ?_
  refine g_bipush (n := 16) (v := 40) hX dX6_init_14 rfl rfl ?_
  refine g_pnewq (n := 19) (N := 40) 3 (fun h9 => h9.2.1) rfl hX hE hU hY dX6_init_16 rfl ul_X6_17 (by decide) rfl (by decide) (by rw [hRm]; exact Nat.le_of_ble_eq_true rfl) (by rw [hRm]; exact Nat.le_of_ble_eq_true rfl) (fun q7 f7 hq7 ef7 => ?_)
  have ho_8 : f7 o = .inr (8, [.ref q1, .null, .int 0, .int 0]) := by rw [ef7, va_up_ne _ _ (ne_new (in_app hoL) hq7)]; exact ho_5
  have hq1_9 : f7 q1 = .inl (K 4, 12, rE (fun _ => none)) := by rw [ef7, va_up_ne _ _ (ne_new in_new hq7)]; exact hq1_6
  have hq7_10 : f7 q7 = .inl (K 3, 40, rE (fun _ => none)) := by rw [ef7]; exact va_up_self _ _ _
  refine g_pputF (n := 22) (fs' := [.ref q1, .ref q7, .int 0, .int 0]) tyX6 tyX6_ok nmX6 ux_X6 rfl hX hU (hI rfl) dX6_init_19 rfl (in_app (in_app hoL)) ho_8 1 rfl uf_X6_19 rfl rfl rfl rfl rfl rfl (fun f11 ef11 => ?_)
  have ho_12 : f11 o = .inr (8, [.ref q1, .ref q7, .int 0, .int 0]) := by rw [ef11]; exact va_up_self _ _ _
  have hq1_13 : f11 q1 = .inl (K 4, 12, rE (fun _ => none)) := by rw [ef11, va_up_ne _ _ (Ne.symm (ne_new hoL hq1))]; exact hq1_9
  have hq7_14 : f11 q7 = .inl (K 3, 40, rE (fun _ => none)) := by rw [ef11, va_up_ne _ _ (Ne.symm (ne_new (in_app hoL) hq7))]; exact hq7_10
  exact g_vret hX hR dX6_init_22 ⟨rfl, q1, q7, hq1, hq7, _, rfl, by simp only [ef1, ef4, ef7, ef11]⟩

set_option maxHeartbeats 4000000 in
set_option maxRecDepth 100000 in
theorem x_MachineInit (l : Launch) (D : va_G) (K : Nat → ClassId) (L : List Nat) (f : Nat → va_E) (o t : Nat) (hoL : o ∈ L) (hof : f o = .inr (3, [.null])) : Mc l yX1_init (wM yX1_init cX1_init 2 none) (rmL 1 0 0) D (yY K) [.ref o, .ref t] (va_pl L f) (fun v w => v = none ∧ ∃ f1 : Nat → va_E, w = va_pl L f1 ∧ f1 = va_up f o (.inr (3, [.ref t]))) 0 0 := by
  refine m_start (lv := [(0, .ref o), (1, .ref t)]) rfl (Nat.le_of_ble_eq_true rfl) rfl (fun Γ hX hRm hnL hY hDD hLa hR hI hE => ?_)
  have hU : ∀ w ∈ wU, w ∈ wM yX1_init cX1_init 2 none := fun w h => wM_in h
  subst hLa
  subst hDD
  refine g_aload_n (n := 1) hX dX1_init_0 rfl rfl rfl ?_
  refine g_objInit (n := 4) hX dX1_init_1 rfl (hU _ um_X1_3) (hU _ ui_obj) (hU _ uc_obj) (by rw [hRm]; decide) (by decide) (by rw [hRm]; decide) ?_
  refine g_aload_n (n := 5) hX dX1_init_4 rfl rfl rfl ?_
  refine g_aload_n (n := 6) hX dX1_init_5 rfl rfl rfl ?_
  refine g_pputF (n := 9) (fs' := [.ref t]) tyX1 tyX1_ok nmX1 ux_X1 rfl hX hU (hI rfl) dX1_init_6 rfl hoL hof 0 rfl uf_X1_9 rfl rfl rfl rfl rfl rfl (fun f15 ef15 => ?_)
  have ho_16 : f15 o = .inr (3, [.ref t]) := by rw [ef15]; exact va_up_self _ _ _
  exact g_vret hX hR dX1_init_9 ⟨rfl, _, rfl, by simp only [ef15]⟩

set_option maxHeartbeats 4000000 in
set_option maxRecDepth 100000 in
theorem x_FileInit (l : Launch) (D : va_G) (K : Nat → ClassId) (L : List Nat) (f : Nat → va_E) (o : Nat) (hoL : o ∈ L) (hof : f o = .inr (2, [.null, .null, .int 0, .int 0, .int 0])) : Mc l yX0_init (wM yX0_init cX0_init 1 none) (rmL 1 2 2059) D (yY K) [.ref o] (va_pl L f) (fun v w => v = none ∧ ∃ q1 q2 : Nat, q1 ∉ L ∧ q2 ∉ L ++ [q1] ∧ ∃ f1 : Nat → va_E, w = va_pl (L ++ [q1] ++ [q2]) f1 ∧ f1 = va_up (va_up (va_up (va_up f q1 (.inl (K 0, 2048, .inl (fun _ => 0)))) o (.inr (2, [.ref q1, .null, .int 0, .int 0, .int 0]))) q2 (.inl (K 1, 11, .inl (fun _ => 0)))) o (.inr (2, [.ref q1, .ref q2, .int 0, .int 0, .int 0]))) 2 2059 := by
  refine m_start (lv := [(0, .ref o)]) rfl (Nat.le_of_ble_eq_true rfl) rfl (fun Γ hX hRm hnL hY hDD hLa hR hI hE => ?_)
  have hU : ∀ w ∈ wU, w ∈ wM yX0_init cX0_init 1 none := fun w h => wM_in h
  subst hLa
  subst hDD
  refine g_aload_n (n := 1) hX dX0_init_0 rfl rfl rfl ?_
  refine g_objInit (n := 4) hX dX0_init_1 rfl (hU _ um_X0_3) (hU _ ui_obj) (hU _ uc_obj) (by rw [hRm]; decide) (by decide) (by rw [hRm]; decide) ?_
  refine g_aload_n (n := 5) hX dX0_init_4 rfl rfl rfl ?_
  refine g_sipush (n := 8) (v := 2048) hX dX0_init_5 rfl rfl ?_
  refine g_pnewa (n := 10) (atype := .byte) (N := 2048) (a0 := (2048, .inl (fun _ => 0))) 0 ua_byte rfl rfl (Or.inl rfl) hX hU hY dX0_init_8 rfl (fun _ => rfl) (by decide) rfl (by decide) (by rw [hRm]; exact (by decide)) (by rw [hRm]; exact (by decide)) (fun q17 f17 hq17 ef17 => ?_)
  have ho_18 : f17 o = .inr (2, [.null, .null, .int 0, .int 0, .int 0]) := by rw [ef17, va_up_ne _ _ (ne_new hoL hq17)]; exact hof
  have hq17_19 : f17 q17 = .inl (K 0, 2048, .inl (fun _ => 0)) := by rw [ef17]; exact va_up_self _ _ _
  refine g_pputF (n := 13) (fs' := [.ref q17, .null, .int 0, .int 0, .int 0]) tyX0 tyX0_ok nmX0 ux_X0 rfl hX hU (hI rfl) dX0_init_10 rfl (in_app hoL) ho_18 0 rfl uf_X0_11 rfl rfl rfl rfl rfl rfl (fun f20 ef20 => ?_)
  have ho_21 : f20 o = .inr (2, [.ref q17, .null, .int 0, .int 0, .int 0]) := by rw [ef20]; exact va_up_self _ _ _
  have hq17_22 : f20 q17 = .inl (K 0, 2048, .inl (fun _ => 0)) := by rw [ef20, va_up_ne _ _ (Ne.symm (ne_new hoL hq17))]; exact hq17_19
  refine g_aload_n (n := 14) hX dX0_init_13 rfl rfl rfl ?_
  refine g_bipush (n := 16) (v := 11) hX dX0_init_14 rfl rfl ?_
  refine g_pnewa (n := 18) (atype := .int) (N := 11) (a0 := (11, .inl (fun _ => 0))) 1 ua_int rfl rfl (Or.inr (Or.inl rfl)) hX hU hY dX0_init_16 rfl (fun _ => rfl) (by decide) rfl (by decide) (by rw [hRm]; exact (by decide)) (by rw [hRm]; exact (by decide)) (fun q23 f23 hq23 ef23 => ?_)
  have ho_24 : f23 o = .inr (2, [.ref q17, .null, .int 0, .int 0, .int 0]) := by rw [ef23, va_up_ne _ _ (ne_new (in_app hoL) hq23)]; exact ho_21
  have hq17_25 : f23 q17 = .inl (K 0, 2048, .inl (fun _ => 0)) := by rw [ef23, va_up_ne _ _ (ne_new in_new hq23)]; exact hq17_22
  have hq23_26 : f23 q23 = .inl (K 1, 11, .inl (fun _ => 0)) := by rw [ef23]; exact va_up_self _ _ _
  refine g_pputF (n := 21) (fs' := [.ref q17, .ref q23, .int 0, .int 0, .int 0]) tyX0 tyX0_ok nmX0 ux_X0 rfl hX hU (hI rfl) dX0_init_18 rfl (in_app (in_app hoL)) ho_24 1 rfl uf_X0_15 rfl rfl rfl rfl rfl rfl (fun f27 ef27 => ?_)
  have ho_28 : f27 o = .inr (2, [.ref q17, .ref q23, .int 0, .int 0, .int 0]) := by rw [ef27]; exact va_up_self _ _ _
  have hq17_29 : f27 q17 = .inl (K 0, 2048, .inl (fun _ => 0)) := by rw [ef27, va_up_ne _ _ (Ne.symm (ne_new hoL hq17))]; exact hq17_25
  have hq23_30 : f27 q23 = .inl (K 1, 11, .inl (fun _ => 0)) := by rw [ef27, va_up_ne _ _ (Ne.symm (ne_new (in_app hoL) hq23))]; exact hq23_26
  exact g_vret hX hR dX0_init_21 ⟨rfl, q17, q23, hq17, hq23, _, rfl, by simp only [ef17, ef20, ef23, ef27]⟩

def σ0 : MS := (fun _ _ => 0, fun _ => 0)
theorem Inv_0 : Inv σ0 := by
  have z : ∀ m : Nat, isN 0 m := fun m => ⟨0, rfl, Nat.zero_le _⟩
  have n1 : nF σ0 1 = 0 := rfl
  have n3 : nF σ0 3 = 0 := rfl
  refine ⟨⟨z _, z _, z _, fun _ _ => z _, fun _ _ => z _, fun _ _ => ⟨z _, z _, z _⟩, fun _ _ => z _, fun _ _ => z _⟩, fun _ _ => rfl, fun p h1 h2 => by omega, fun _ _ _ => rfl, fun c h1 h2 => by omega, fun _ _ _ => ⟨rfl, rfl, rfl, rfl⟩, fun _ _ _ _ _ _ => Or.inl rfl, fun _ _ _ => ⟨rfl, rfl, rfl, rfl, rfl, rfl, rfl⟩, fun _ _ => z _⟩
def g0 : GX := (fun _ => 0, fun _ => 0, fun _ _ => 0, fun _ => 0, fun _ _ => 0, fun _ => false, fun _ _ => 0, (0, fun _ => 0, 0, 0, fun _ => 0))
theorem Lk_0 : Lk g0 σ0 0 := by
  have n2 : nF σ0 2 = 0 := rfl
  have n3 : nF σ0 3 = 0 := rfl
  exact ⟨fun u h1 h2 _ => by omega, fun u h1 h2 => by omega, fun c h1 h2 => by omega, fun c h1 h2 => by omega⟩
set_option maxHeartbeats 4000000 in
set_option maxRecDepth 100000 in
theorem RW_init {K : Nat → ClassId} (L : List Nat) (f : Nat → va_E) {ax st ma fi by0 ts pa ca ua : Nat} (m0 : ax ∈ L) (m1 : st ∈ L) (m2 : ma ∈ L) (m3 : fi ∈ L) (m4 : by0 ∈ L) (m5 : ts ∈ L) (m6 : pa ∈ L) (m7 : ca ∈ L) (m8 : ua ∈ L) (q0 : f ax = .inr (9, [.ref st, .ref ma, .ref fi, .ref ua, .int 0])) (q1 : f st = .inr (8, [.ref pa, .ref ca, .int 0, .int 0])) (q2 : f ma = .inr (3, [.ref st])) (q3 : f fi = .inr (2, [.ref by0, .ref ts, .int 0, .int 0, .int 0])) (q4 : f by0 = .inl (K 0, 2048, .inl (fun _ => 0))) (q5 : f ts = .inl (K 1, 11, .inl (fun _ => 0))) (q6 : f pa = .inl (K 4, 12, rE (fun _ => none))) (q7 : f ca = .inl (K 3, 40, rE (fun _ => none))) (q8 : f ua = .inl (K 6, 8, rE (fun _ => none))) (n1_0 : st ≠ ax) (n2_0 : ma ≠ ax) (n2_1 : ma ≠ st) (n3_0 : fi ≠ ax) (n3_1 : fi ≠ st) (n3_2 : fi ≠ ma) (n4_0 : by0 ≠ ax) (n4_1 : by0 ≠ st) (n4_2 : by0 ≠ ma) (n4_3 : by0 ≠ fi) (n5_0 : ts ≠ ax) (n5_1 : ts ≠ st) (n5_2 : ts ≠ ma) (n5_3 : ts ≠ fi) (n5_4 : ts ≠ by0) (n6_0 : pa ≠ ax) (n6_1 : pa ≠ st) (n6_2 : pa ≠ ma) (n6_3 : pa ≠ fi) (n6_4 : pa ≠ by0) (n6_5 : pa ≠ ts) (n7_0 : ca ≠ ax) (n7_1 : ca ≠ st) (n7_2 : ca ≠ ma) (n7_3 : ca ≠ fi) (n7_4 : ca ≠ by0) (n7_5 : ca ≠ ts) (n7_6 : ca ≠ pa) (n8_0 : ua ≠ ax) (n8_1 : ua ≠ st) (n8_2 : ua ≠ ma) (n8_3 : ua ≠ fi) (n8_4 : ua ≠ by0) (n8_5 : ua ≠ ts) (n8_6 : ua ≠ pa) (n8_7 : ua ≠ ca) : RW K ax σ0 (va_pl L f) := by
  have z1 : nF σ0 1 = 0 := rfl
  have z2 : nF σ0 2 = 0 := rfl
  have z3 : nF σ0 3 = 0 := rfl
  refine ⟨L, f, fun k _ _ => [ax, st, ma, fi, by0, ts, pa, ca, ua].getD k 0, fun a => if a = ax then (0, 0, 0) else if a = st then (1, 0, 0) else if a = ma then (2, 0, 0) else if a = fi then (3, 0, 0) else if a = by0 then (4, 0, 0) else if a = ts then (5, 0, 0) else if a = pa then (6, 0, 0) else if a = ca then (7, 0, 0) else if a = ua then (8, 0, 0) else (99, 0, 0), g0, rfl, rfl, ⟨?_, ?_, ?_, ?_, ?_, ?_, ?_, ?_, ?_, ?_, ?_, ?_, ?_, ?_, ?_, ?_, ?_, ?_⟩, Lk_0, Inv_0⟩
  · refine ⟨m0, ?_, ?_⟩
    · show (if ax = ax then ((0, 0, 0) : Nat × Nat × Nat) else if ax = st then ((1, 0, 0) : Nat × Nat × Nat) else if ax = ma then ((2, 0, 0) : Nat × Nat × Nat) else if ax = fi then ((3, 0, 0) : Nat × Nat × Nat) else if ax = by0 then ((4, 0, 0) : Nat × Nat × Nat) else if ax = ts then ((5, 0, 0) : Nat × Nat × Nat) else if ax = pa then ((6, 0, 0) : Nat × Nat × Nat) else if ax = ca then ((7, 0, 0) : Nat × Nat × Nat) else if ax = ua then ((8, 0, 0) : Nat × Nat × Nat) else (99, 0, 0)) = _
      rw [if_pos rfl]
    · exact q0
  · refine ⟨m1, ?_, ?_⟩
    · show (if st = ax then ((0, 0, 0) : Nat × Nat × Nat) else if st = st then ((1, 0, 0) : Nat × Nat × Nat) else if st = ma then ((2, 0, 0) : Nat × Nat × Nat) else if st = fi then ((3, 0, 0) : Nat × Nat × Nat) else if st = by0 then ((4, 0, 0) : Nat × Nat × Nat) else if st = ts then ((5, 0, 0) : Nat × Nat × Nat) else if st = pa then ((6, 0, 0) : Nat × Nat × Nat) else if st = ca then ((7, 0, 0) : Nat × Nat × Nat) else if st = ua then ((8, 0, 0) : Nat × Nat × Nat) else (99, 0, 0)) = _
      rw [if_neg n1_0, if_pos rfl]
    · exact q1
  · refine ⟨m2, ?_, ?_⟩
    · show (if ma = ax then ((0, 0, 0) : Nat × Nat × Nat) else if ma = st then ((1, 0, 0) : Nat × Nat × Nat) else if ma = ma then ((2, 0, 0) : Nat × Nat × Nat) else if ma = fi then ((3, 0, 0) : Nat × Nat × Nat) else if ma = by0 then ((4, 0, 0) : Nat × Nat × Nat) else if ma = ts then ((5, 0, 0) : Nat × Nat × Nat) else if ma = pa then ((6, 0, 0) : Nat × Nat × Nat) else if ma = ca then ((7, 0, 0) : Nat × Nat × Nat) else if ma = ua then ((8, 0, 0) : Nat × Nat × Nat) else (99, 0, 0)) = _
      rw [if_neg n2_0, if_neg n2_1, if_pos rfl]
    · exact q2
  · refine ⟨m3, ?_, ?_⟩
    · show (if fi = ax then ((0, 0, 0) : Nat × Nat × Nat) else if fi = st then ((1, 0, 0) : Nat × Nat × Nat) else if fi = ma then ((2, 0, 0) : Nat × Nat × Nat) else if fi = fi then ((3, 0, 0) : Nat × Nat × Nat) else if fi = by0 then ((4, 0, 0) : Nat × Nat × Nat) else if fi = ts then ((5, 0, 0) : Nat × Nat × Nat) else if fi = pa then ((6, 0, 0) : Nat × Nat × Nat) else if fi = ca then ((7, 0, 0) : Nat × Nat × Nat) else if fi = ua then ((8, 0, 0) : Nat × Nat × Nat) else (99, 0, 0)) = _
      rw [if_neg n3_0, if_neg n3_1, if_neg n3_2, if_pos rfl]
    · exact q3
  · refine ⟨m4, ?_, ?_⟩
    · show (if by0 = ax then ((0, 0, 0) : Nat × Nat × Nat) else if by0 = st then ((1, 0, 0) : Nat × Nat × Nat) else if by0 = ma then ((2, 0, 0) : Nat × Nat × Nat) else if by0 = fi then ((3, 0, 0) : Nat × Nat × Nat) else if by0 = by0 then ((4, 0, 0) : Nat × Nat × Nat) else if by0 = ts then ((5, 0, 0) : Nat × Nat × Nat) else if by0 = pa then ((6, 0, 0) : Nat × Nat × Nat) else if by0 = ca then ((7, 0, 0) : Nat × Nat × Nat) else if by0 = ua then ((8, 0, 0) : Nat × Nat × Nat) else (99, 0, 0)) = _
      rw [if_neg n4_0, if_neg n4_1, if_neg n4_2, if_neg n4_3, if_pos rfl]
    · exact q4
  · refine ⟨m5, ?_, ?_⟩
    · show (if ts = ax then ((0, 0, 0) : Nat × Nat × Nat) else if ts = st then ((1, 0, 0) : Nat × Nat × Nat) else if ts = ma then ((2, 0, 0) : Nat × Nat × Nat) else if ts = fi then ((3, 0, 0) : Nat × Nat × Nat) else if ts = by0 then ((4, 0, 0) : Nat × Nat × Nat) else if ts = ts then ((5, 0, 0) : Nat × Nat × Nat) else if ts = pa then ((6, 0, 0) : Nat × Nat × Nat) else if ts = ca then ((7, 0, 0) : Nat × Nat × Nat) else if ts = ua then ((8, 0, 0) : Nat × Nat × Nat) else (99, 0, 0)) = _
      rw [if_neg n5_0, if_neg n5_1, if_neg n5_2, if_neg n5_3, if_neg n5_4, if_pos rfl]
    · exact q5
  · refine ⟨m6, ?_, ?_⟩
    · show (if pa = ax then ((0, 0, 0) : Nat × Nat × Nat) else if pa = st then ((1, 0, 0) : Nat × Nat × Nat) else if pa = ma then ((2, 0, 0) : Nat × Nat × Nat) else if pa = fi then ((3, 0, 0) : Nat × Nat × Nat) else if pa = by0 then ((4, 0, 0) : Nat × Nat × Nat) else if pa = ts then ((5, 0, 0) : Nat × Nat × Nat) else if pa = pa then ((6, 0, 0) : Nat × Nat × Nat) else if pa = ca then ((7, 0, 0) : Nat × Nat × Nat) else if pa = ua then ((8, 0, 0) : Nat × Nat × Nat) else (99, 0, 0)) = _
      rw [if_neg n6_0, if_neg n6_1, if_neg n6_2, if_neg n6_3, if_neg n6_4, if_neg n6_5, if_pos rfl]
    · exact q6
  · refine ⟨m7, ?_, ?_⟩
    · show (if ca = ax then ((0, 0, 0) : Nat × Nat × Nat) else if ca = st then ((1, 0, 0) : Nat × Nat × Nat) else if ca = ma then ((2, 0, 0) : Nat × Nat × Nat) else if ca = fi then ((3, 0, 0) : Nat × Nat × Nat) else if ca = by0 then ((4, 0, 0) : Nat × Nat × Nat) else if ca = ts then ((5, 0, 0) : Nat × Nat × Nat) else if ca = pa then ((6, 0, 0) : Nat × Nat × Nat) else if ca = ca then ((7, 0, 0) : Nat × Nat × Nat) else if ca = ua then ((8, 0, 0) : Nat × Nat × Nat) else (99, 0, 0)) = _
      rw [if_neg n7_0, if_neg n7_1, if_neg n7_2, if_neg n7_3, if_neg n7_4, if_neg n7_5, if_neg n7_6, if_pos rfl]
    · exact q7
  · refine ⟨m8, ?_, ?_⟩
    · show (if ua = ax then ((0, 0, 0) : Nat × Nat × Nat) else if ua = st then ((1, 0, 0) : Nat × Nat × Nat) else if ua = ma then ((2, 0, 0) : Nat × Nat × Nat) else if ua = fi then ((3, 0, 0) : Nat × Nat × Nat) else if ua = by0 then ((4, 0, 0) : Nat × Nat × Nat) else if ua = ts then ((5, 0, 0) : Nat × Nat × Nat) else if ua = pa then ((6, 0, 0) : Nat × Nat × Nat) else if ua = ca then ((7, 0, 0) : Nat × Nat × Nat) else if ua = ua then ((8, 0, 0) : Nat × Nat × Nat) else (99, 0, 0)) = _
      rw [if_neg n8_0, if_neg n8_1, if_neg n8_2, if_neg n8_3, if_neg n8_4, if_neg n8_5, if_neg n8_6, if_neg n8_7, if_pos rfl]
    · exact q8
  · intro p h1 h2; omega
  · intro p h1 h2; omega
  · intro p h1 h2; omega
  · intro u h1 h2; omega
  · intro u h1 h2; omega
  · intro u h1 h2; omega
  · intro c h1 h2; omega
  · intro c h1 h2; omega
  · intro c h1 h2; omega

set_option maxHeartbeats 4000000 in
set_option maxRecDepth 100000 in
theorem x_init (l : Launch) (D : va_G) (K : Nat → ClassId) (L : List Nat) (f : Nat → va_E) (ax : Nat) (hoL : ax ∈ L) (hof : f ax = .inr (9, [.null, .null, .null, .null, .int 0])) : Mc l yX7_init (wM yX7_init cX7_init 1 none) (rmL 2 8 2129) D (yY K) [.ref ax] (va_pl L f) (fun v w => v = none ∧ RW K ax σ0 w) 8 2129 := by
  refine m_start (lv := [(0, .ref ax)]) rfl (Nat.le_of_ble_eq_true rfl) rfl (fun Γ hX hRm hnL hY hDD hLa hR hI hE => ?_)
  have hU : ∀ w ∈ wU, w ∈ wM yX7_init cX7_init 1 none := fun w h => wM_in h
  subst hLa
  subst hDD
  refine g_aload_n (n := 1) hX dX7_init_0 rfl rfl rfl ?_
  refine g_objInit (n := 4) hX dX7_init_1 rfl (hU _ um_X7_1) (hU _ ui_obj) (hU _ uc_obj) (by rw [hRm]; decide) (by decide) (by rw [hRm]; decide) ?_
  refine g_aload_n (n := 5) hX dX7_init_4 rfl rfl rfl ?_
  refine g_pnew (n := 8) (ci := 8) (fs := [.null, .null, .int 0, .int 0]) tyX6 tyX6_ok ux_X6 rfl hX hU dX7_init_5 rfl ul_X7_7 ut_X6 un_X6 (by decide) (by rw [hRm]; decide) (by rw [hRm]; decide) (fun q31 f31 hq31 ef31 => ?_)
  have hax_32 : f31 ax = .inr (9, [.null, .null, .null, .null, .int 0]) := by rw [ef31, va_up_ne _ _ (ne_new hoL hq31)]; exact hof
  have hq31_33 : f31 q31 = .inr (8, [.null, .null, .int 0, .int 0]) := by rw [ef31]; exact va_up_self _ _ _
  refine g_dup (n := 9) hX dX7_init_8 rfl rfl ?_
  refine g_callI0 (n := 12) (As := []) (rest := [.ref q31, .ref ax]) hX hE hU hY dX7_init_9 rfl yi_X6_init um_X7_9 (x_StoreInit _ _ K (L ++ [q31]) f31 q31 in_new hq31_33) ⟨rfl, rfl⟩ (rm_le hRm rfl rfl) rfl rfl (Nat.le_of_ble_eq_true rfl) (by rw [hRm]; decide) (fun v0 w0 hq0 => ?_)
  obtain ⟨rfl, qa34, qb34, hqa34, hqb34, f34, rfl, ef34⟩ := hq0
  show G Γ (va_pl (L ++ [q31] ++ [qa34] ++ [qb34]) f34) 3 56 12 [(0, .ref ax)] [.ref q31, .ref ax]
  obtain ⟨fx35_0, ex35_0⟩ : ∃ g9 : Nat → va_E, g9 = va_up f31 qa34 (.inl (K 4, 12, rE (fun _ => none))) := ⟨_, rfl⟩
  obtain ⟨fx35_1, ex35_1⟩ : ∃ g9 : Nat → va_E, g9 = va_up fx35_0 q31 (.inr (8, [.ref qa34, .null, .int 0, .int 0])) := ⟨_, rfl⟩
  obtain ⟨fx35_2, ex35_2⟩ : ∃ g9 : Nat → va_E, g9 = va_up fx35_1 qb34 (.inl (K 3, 40, rE (fun _ => none))) := ⟨_, rfl⟩
  rw [← ex35_0, ← ex35_1, ← ex35_2] at ef34
  have hax_36 : fx35_0 ax = .inr (9, [.null, .null, .null, .null, .int 0]) := by rw [ex35_0, va_up_ne _ _ (ne_new (in_app hoL) hqa34)]; exact hax_32
  have hq31_37 : fx35_0 q31 = .inr (8, [.null, .null, .int 0, .int 0]) := by rw [ex35_0, va_up_ne _ _ (ne_new in_new hqa34)]; exact hq31_33
  have hqa34_38 : fx35_0 qa34 = .inl (K 4, 12, rE (fun _ => none)) := by rw [ex35_0]; exact va_up_self _ _ _
  have hax_39 : fx35_1 ax = .inr (9, [.null, .null, .null, .null, .int 0]) := by rw [ex35_1, va_up_ne _ _ (ne_new hoL hq31)]; exact hax_36
  have hq31_40 : fx35_1 q31 = .inr (8, [.ref qa34, .null, .int 0, .int 0]) := by rw [ex35_1]; exact va_up_self _ _ _
  have hqa34_41 : fx35_1 qa34 = .inl (K 4, 12, rE (fun _ => none)) := by rw [ex35_1, va_up_ne _ _ (Ne.symm (ne_new in_new hqa34))]; exact hqa34_38
  have hax_42 : fx35_2 ax = .inr (9, [.null, .null, .null, .null, .int 0]) := by rw [ex35_2, va_up_ne _ _ (ne_new (in_app (in_app hoL)) hqb34)]; exact hax_39
  have hq31_43 : fx35_2 q31 = .inr (8, [.ref qa34, .null, .int 0, .int 0]) := by rw [ex35_2, va_up_ne _ _ (ne_new (in_app in_new) hqb34)]; exact hq31_40
  have hqa34_44 : fx35_2 qa34 = .inl (K 4, 12, rE (fun _ => none)) := by rw [ex35_2, va_up_ne _ _ (ne_new in_new hqb34)]; exact hqa34_41
  have hqb34_45 : fx35_2 qb34 = .inl (K 3, 40, rE (fun _ => none)) := by rw [ex35_2]; exact va_up_self _ _ _
  have hax_46 : f34 ax = .inr (9, [.null, .null, .null, .null, .int 0]) := by rw [ef34, va_up_ne _ _ (ne_new hoL hq31)]; exact hax_42
  have hq31_47 : f34 q31 = .inr (8, [.ref qa34, .ref qb34, .int 0, .int 0]) := by rw [ef34]; exact va_up_self _ _ _
  have hqa34_48 : f34 qa34 = .inl (K 4, 12, rE (fun _ => none)) := by rw [ef34, va_up_ne _ _ (Ne.symm (ne_new in_new hqa34))]; exact hqa34_44
  have hqb34_49 : f34 qb34 = .inl (K 3, 40, rE (fun _ => none)) := by rw [ef34, va_up_ne _ _ (Ne.symm (ne_new (in_app in_new) hqb34))]; exact hqb34_45
  refine g_pputF (n := 15) (fs' := [.ref q31, .null, .null, .null, .int 0]) tyX7 tyX7_ok nmX7 ux_X7 rfl hX hU (hI rfl) dX7_init_12 rfl (in_app (in_app (in_app hoL))) hax_46 0 rfl uf_X7_10 rfl rfl rfl rfl rfl rfl (fun f50 ef50 => ?_)
  have hax_51 : f50 ax = .inr (9, [.ref q31, .null, .null, .null, .int 0]) := by rw [ef50]; exact va_up_self _ _ _
  have hq31_52 : f50 q31 = .inr (8, [.ref qa34, .ref qb34, .int 0, .int 0]) := by rw [ef50, va_up_ne _ _ (Ne.symm (ne_new hoL hq31))]; exact hq31_47
  have hqa34_53 : f50 qa34 = .inl (K 4, 12, rE (fun _ => none)) := by rw [ef50, va_up_ne _ _ (Ne.symm (ne_new (in_app hoL) hqa34))]; exact hqa34_48
  have hqb34_54 : f50 qb34 = .inl (K 3, 40, rE (fun _ => none)) := by rw [ef50, va_up_ne _ _ (Ne.symm (ne_new (in_app (in_app hoL)) hqb34))]; exact hqb34_49
  refine g_aload_n (n := 16) hX dX7_init_15 rfl rfl rfl ?_
  refine g_pnew (n := 19) (ci := 3) (fs := [.null]) tyX1 tyX1_ok ux_X1 rfl hX hU dX7_init_16 rfl ul_X7_16 ut_X1 un_X1 (by decide) (by rw [hRm]; decide) (by rw [hRm]; decide) (fun q55 f55 hq55 ef55 => ?_)
  have hax_56 : f55 ax = .inr (9, [.ref q31, .null, .null, .null, .int 0]) := by rw [ef55, va_up_ne _ _ (ne_new (in_app (in_app (in_app hoL))) hq55)]; exact hax_51
  have hq31_57 : f55 q31 = .inr (8, [.ref qa34, .ref qb34, .int 0, .int 0]) := by rw [ef55, va_up_ne _ _ (ne_new (in_app (in_app in_new)) hq55)]; exact hq31_52
  have hqa34_58 : f55 qa34 = .inl (K 4, 12, rE (fun _ => none)) := by rw [ef55, va_up_ne _ _ (ne_new (in_app in_new) hq55)]; exact hqa34_53
  have hqb34_59 : f55 qb34 = .inl (K 3, 40, rE (fun _ => none)) := by rw [ef55, va_up_ne _ _ (ne_new in_new hq55)]; exact hqb34_54
  have hq55_60 : f55 q55 = .inr (3, [.null]) := by rw [ef55]; exact va_up_self _ _ _
  refine g_dup (n := 20) hX dX7_init_19 rfl rfl ?_
  refine g_aload_n (n := 21) hX dX7_init_20 rfl rfl rfl ?_
  refine g_pget (n := 24) ux_X7 rfl hX hU dX7_init_21 rfl (in_app (in_app (in_app (in_app hoL)))) hax_56 0 rfl uf_X7_10 rfl ?_
  refine g_callI0 (n := 27) (As := [.ref q31]) (rest := [.ref q55, .ref ax]) hX hE hU hY dX7_init_24 rfl yi_X1_init um_X7_18 (x_MachineInit _ _ K (L ++ [q31] ++ [qa34] ++ [qb34] ++ [q55]) f55 q55 q31 in_new hq55_60) ⟨rfl, rfl⟩ (rm_le hRm rfl rfl) rfl rfl (Nat.le_of_ble_eq_true rfl) (by rw [hRm]; decide) (fun v0 w0 hq0 => ?_)
  obtain ⟨rfl, f61, rfl, ef61⟩ := hq0
  show G Γ (va_pl (L ++ [q31] ++ [qa34] ++ [qb34] ++ [q55]) f61) 4 57 27 [(0, .ref ax)] [.ref q55, .ref ax]
  have hax_62 : f61 ax = .inr (9, [.ref q31, .null, .null, .null, .int 0]) := by rw [ef61, va_up_ne _ _ (ne_new (in_app (in_app (in_app hoL))) hq55)]; exact hax_56
  have hq31_63 : f61 q31 = .inr (8, [.ref qa34, .ref qb34, .int 0, .int 0]) := by rw [ef61, va_up_ne _ _ (ne_new (in_app (in_app in_new)) hq55)]; exact hq31_57
  have hqa34_64 : f61 qa34 = .inl (K 4, 12, rE (fun _ => none)) := by rw [ef61, va_up_ne _ _ (ne_new (in_app in_new) hq55)]; exact hqa34_58
  have hqb34_65 : f61 qb34 = .inl (K 3, 40, rE (fun _ => none)) := by rw [ef61, va_up_ne _ _ (ne_new in_new hq55)]; exact hqb34_59
  have hq55_66 : f61 q55 = .inr (3, [.ref q31]) := by rw [ef61]; exact va_up_self _ _ _
  refine g_pputF (n := 30) (fs' := [.ref q31, .ref q55, .null, .null, .int 0]) tyX7 tyX7_ok nmX7 ux_X7 rfl hX hU (hI rfl) dX7_init_27 rfl (in_app (in_app (in_app (in_app hoL)))) hax_62 1 rfl uf_X7_21 rfl rfl rfl rfl rfl rfl (fun f67 ef67 => ?_)
  have hax_68 : f67 ax = .inr (9, [.ref q31, .ref q55, .null, .null, .int 0]) := by rw [ef67]; exact va_up_self _ _ _
  have hq31_69 : f67 q31 = .inr (8, [.ref qa34, .ref qb34, .int 0, .int 0]) := by rw [ef67, va_up_ne _ _ (Ne.symm (ne_new hoL hq31))]; exact hq31_63
  have hqa34_70 : f67 qa34 = .inl (K 4, 12, rE (fun _ => none)) := by rw [ef67, va_up_ne _ _ (Ne.symm (ne_new (in_app hoL) hqa34))]; exact hqa34_64
  have hqb34_71 : f67 qb34 = .inl (K 3, 40, rE (fun _ => none)) := by rw [ef67, va_up_ne _ _ (Ne.symm (ne_new (in_app (in_app hoL)) hqb34))]; exact hqb34_65
  have hq55_72 : f67 q55 = .inr (3, [.ref q31]) := by rw [ef67, va_up_ne _ _ (Ne.symm (ne_new (in_app (in_app (in_app hoL))) hq55))]; exact hq55_66
  refine g_aload_n (n := 31) hX dX7_init_30 rfl rfl rfl ?_
  refine g_pnew (n := 34) (ci := 2) (fs := [.null, .null, .int 0, .int 0, .int 0]) tyX0 tyX0_ok ux_X0 rfl hX hU dX7_init_31 rfl ul_X7_25 ut_X0 un_X0 (by decide) (by rw [hRm]; decide) (by rw [hRm]; decide) (fun q73 f73 hq73 ef73 => ?_)
  have hax_74 : f73 ax = .inr (9, [.ref q31, .ref q55, .null, .null, .int 0]) := by rw [ef73, va_up_ne _ _ (ne_new (in_app (in_app (in_app (in_app hoL)))) hq73)]; exact hax_68
  have hq31_75 : f73 q31 = .inr (8, [.ref qa34, .ref qb34, .int 0, .int 0]) := by rw [ef73, va_up_ne _ _ (ne_new (in_app (in_app (in_app in_new))) hq73)]; exact hq31_69
  have hqa34_76 : f73 qa34 = .inl (K 4, 12, rE (fun _ => none)) := by rw [ef73, va_up_ne _ _ (ne_new (in_app (in_app in_new)) hq73)]; exact hqa34_70
  have hqb34_77 : f73 qb34 = .inl (K 3, 40, rE (fun _ => none)) := by rw [ef73, va_up_ne _ _ (ne_new (in_app in_new) hq73)]; exact hqb34_71
  have hq55_78 : f73 q55 = .inr (3, [.ref q31]) := by rw [ef73, va_up_ne _ _ (ne_new in_new hq73)]; exact hq55_72
  have hq73_79 : f73 q73 = .inr (2, [.null, .null, .int 0, .int 0, .int 0]) := by rw [ef73]; exact va_up_self _ _ _
  refine g_dup (n := 35) hX dX7_init_34 rfl rfl ?_
  refine g_callI0 (n := 38) (As := []) (rest := [.ref q73, .ref ax]) hX hE hU hY dX7_init_35 rfl yi_X0_init um_X7_27 (x_FileInit _ _ K (L ++ [q31] ++ [qa34] ++ [qb34] ++ [q55] ++ [q73]) f73 q73 in_new hq73_79) ⟨rfl, rfl⟩ (rm_le hRm rfl rfl) rfl rfl (Nat.le_of_ble_eq_true rfl) (by rw [hRm]; decide) (fun v0 w0 hq0 => ?_)
  obtain ⟨rfl, qa80, qb80, hqa80, hqb80, f80, rfl, ef80⟩ := hq0
  show G Γ (va_pl (L ++ [q31] ++ [qa34] ++ [qb34] ++ [q55] ++ [q73] ++ [qa80] ++ [qb80]) f80) 7 2121 38 [(0, .ref ax)] [.ref q73, .ref ax]
  obtain ⟨fx81_0, ex81_0⟩ : ∃ g9 : Nat → va_E, g9 = va_up f73 qa80 (.inl (K 0, 2048, .inl (fun _ => 0))) := ⟨_, rfl⟩
  obtain ⟨fx81_1, ex81_1⟩ : ∃ g9 : Nat → va_E, g9 = va_up fx81_0 q73 (.inr (2, [.ref qa80, .null, .int 0, .int 0, .int 0])) := ⟨_, rfl⟩
  obtain ⟨fx81_2, ex81_2⟩ : ∃ g9 : Nat → va_E, g9 = va_up fx81_1 qb80 (.inl (K 1, 11, .inl (fun _ => 0))) := ⟨_, rfl⟩
  rw [← ex81_0, ← ex81_1, ← ex81_2] at ef80
  have hax_82 : fx81_0 ax = .inr (9, [.ref q31, .ref q55, .null, .null, .int 0]) := by rw [ex81_0, va_up_ne _ _ (ne_new (in_app (in_app (in_app (in_app (in_app hoL))))) hqa80)]; exact hax_74
  have hq31_83 : fx81_0 q31 = .inr (8, [.ref qa34, .ref qb34, .int 0, .int 0]) := by rw [ex81_0, va_up_ne _ _ (ne_new (in_app (in_app (in_app (in_app in_new)))) hqa80)]; exact hq31_75
  have hqa34_84 : fx81_0 qa34 = .inl (K 4, 12, rE (fun _ => none)) := by rw [ex81_0, va_up_ne _ _ (ne_new (in_app (in_app (in_app in_new))) hqa80)]; exact hqa34_76
  have hqb34_85 : fx81_0 qb34 = .inl (K 3, 40, rE (fun _ => none)) := by rw [ex81_0, va_up_ne _ _ (ne_new (in_app (in_app in_new)) hqa80)]; exact hqb34_77
  have hq55_86 : fx81_0 q55 = .inr (3, [.ref q31]) := by rw [ex81_0, va_up_ne _ _ (ne_new (in_app in_new) hqa80)]; exact hq55_78
  have hq73_87 : fx81_0 q73 = .inr (2, [.null, .null, .int 0, .int 0, .int 0]) := by rw [ex81_0, va_up_ne _ _ (ne_new in_new hqa80)]; exact hq73_79
  have hqa80_88 : fx81_0 qa80 = .inl (K 0, 2048, .inl (fun _ => 0)) := by rw [ex81_0]; exact va_up_self _ _ _
  have hax_89 : fx81_1 ax = .inr (9, [.ref q31, .ref q55, .null, .null, .int 0]) := by rw [ex81_1, va_up_ne _ _ (ne_new (in_app (in_app (in_app (in_app hoL)))) hq73)]; exact hax_82
  have hq31_90 : fx81_1 q31 = .inr (8, [.ref qa34, .ref qb34, .int 0, .int 0]) := by rw [ex81_1, va_up_ne _ _ (ne_new (in_app (in_app (in_app in_new))) hq73)]; exact hq31_83
  have hqa34_91 : fx81_1 qa34 = .inl (K 4, 12, rE (fun _ => none)) := by rw [ex81_1, va_up_ne _ _ (ne_new (in_app (in_app in_new)) hq73)]; exact hqa34_84
  have hqb34_92 : fx81_1 qb34 = .inl (K 3, 40, rE (fun _ => none)) := by rw [ex81_1, va_up_ne _ _ (ne_new (in_app in_new) hq73)]; exact hqb34_85
  have hq55_93 : fx81_1 q55 = .inr (3, [.ref q31]) := by rw [ex81_1, va_up_ne _ _ (ne_new in_new hq73)]; exact hq55_86
  have hq73_94 : fx81_1 q73 = .inr (2, [.ref qa80, .null, .int 0, .int 0, .int 0]) := by rw [ex81_1]; exact va_up_self _ _ _
  have hqa80_95 : fx81_1 qa80 = .inl (K 0, 2048, .inl (fun _ => 0)) := by rw [ex81_1, va_up_ne _ _ (Ne.symm (ne_new in_new hqa80))]; exact hqa80_88
  have hax_96 : fx81_2 ax = .inr (9, [.ref q31, .ref q55, .null, .null, .int 0]) := by rw [ex81_2, va_up_ne _ _ (ne_new (in_app (in_app (in_app (in_app (in_app (in_app hoL)))))) hqb80)]; exact hax_89
  have hq31_97 : fx81_2 q31 = .inr (8, [.ref qa34, .ref qb34, .int 0, .int 0]) := by rw [ex81_2, va_up_ne _ _ (ne_new (in_app (in_app (in_app (in_app (in_app in_new))))) hqb80)]; exact hq31_90
  have hqa34_98 : fx81_2 qa34 = .inl (K 4, 12, rE (fun _ => none)) := by rw [ex81_2, va_up_ne _ _ (ne_new (in_app (in_app (in_app (in_app in_new)))) hqb80)]; exact hqa34_91
  have hqb34_99 : fx81_2 qb34 = .inl (K 3, 40, rE (fun _ => none)) := by rw [ex81_2, va_up_ne _ _ (ne_new (in_app (in_app (in_app in_new))) hqb80)]; exact hqb34_92
  have hq55_100 : fx81_2 q55 = .inr (3, [.ref q31]) := by rw [ex81_2, va_up_ne _ _ (ne_new (in_app (in_app in_new)) hqb80)]; exact hq55_93
  have hq73_101 : fx81_2 q73 = .inr (2, [.ref qa80, .null, .int 0, .int 0, .int 0]) := by rw [ex81_2, va_up_ne _ _ (ne_new (in_app in_new) hqb80)]; exact hq73_94
  have hqa80_102 : fx81_2 qa80 = .inl (K 0, 2048, .inl (fun _ => 0)) := by rw [ex81_2, va_up_ne _ _ (ne_new in_new hqb80)]; exact hqa80_95
  have hqb80_103 : fx81_2 qb80 = .inl (K 1, 11, .inl (fun _ => 0)) := by rw [ex81_2]; exact va_up_self _ _ _
  have hax_104 : f80 ax = .inr (9, [.ref q31, .ref q55, .null, .null, .int 0]) := by rw [ef80, va_up_ne _ _ (ne_new (in_app (in_app (in_app (in_app hoL)))) hq73)]; exact hax_96
  have hq31_105 : f80 q31 = .inr (8, [.ref qa34, .ref qb34, .int 0, .int 0]) := by rw [ef80, va_up_ne _ _ (ne_new (in_app (in_app (in_app in_new))) hq73)]; exact hq31_97
  have hqa34_106 : f80 qa34 = .inl (K 4, 12, rE (fun _ => none)) := by rw [ef80, va_up_ne _ _ (ne_new (in_app (in_app in_new)) hq73)]; exact hqa34_98
  have hqb34_107 : f80 qb34 = .inl (K 3, 40, rE (fun _ => none)) := by rw [ef80, va_up_ne _ _ (ne_new (in_app in_new) hq73)]; exact hqb34_99
  have hq55_108 : f80 q55 = .inr (3, [.ref q31]) := by rw [ef80, va_up_ne _ _ (ne_new in_new hq73)]; exact hq55_100
  have hq73_109 : f80 q73 = .inr (2, [.ref qa80, .ref qb80, .int 0, .int 0, .int 0]) := by rw [ef80]; exact va_up_self _ _ _
  have hqa80_110 : f80 qa80 = .inl (K 0, 2048, .inl (fun _ => 0)) := by rw [ef80, va_up_ne _ _ (Ne.symm (ne_new in_new hqa80))]; exact hqa80_102
  have hqb80_111 : f80 qb80 = .inl (K 1, 11, .inl (fun _ => 0)) := by rw [ef80, va_up_ne _ _ (Ne.symm (ne_new (in_app in_new) hqb80))]; exact hqb80_103
  refine g_pputF (n := 41) (fs' := [.ref q31, .ref q55, .ref q73, .null, .int 0]) tyX7 tyX7_ok nmX7 ux_X7 rfl hX hU (hI rfl) dX7_init_38 rfl (in_app (in_app (in_app (in_app (in_app (in_app (in_app hoL))))))) hax_104 2 rfl uf_X7_28 rfl rfl rfl rfl rfl rfl (fun f112 ef112 => ?_)
  have hax_113 : f112 ax = .inr (9, [.ref q31, .ref q55, .ref q73, .null, .int 0]) := by rw [ef112]; exact va_up_self _ _ _
  have hq31_114 : f112 q31 = .inr (8, [.ref qa34, .ref qb34, .int 0, .int 0]) := by rw [ef112, va_up_ne _ _ (Ne.symm (ne_new hoL hq31))]; exact hq31_105
  have hqa34_115 : f112 qa34 = .inl (K 4, 12, rE (fun _ => none)) := by rw [ef112, va_up_ne _ _ (Ne.symm (ne_new (in_app hoL) hqa34))]; exact hqa34_106
  have hqb34_116 : f112 qb34 = .inl (K 3, 40, rE (fun _ => none)) := by rw [ef112, va_up_ne _ _ (Ne.symm (ne_new (in_app (in_app hoL)) hqb34))]; exact hqb34_107
  have hq55_117 : f112 q55 = .inr (3, [.ref q31]) := by rw [ef112, va_up_ne _ _ (Ne.symm (ne_new (in_app (in_app (in_app hoL))) hq55))]; exact hq55_108
  have hq73_118 : f112 q73 = .inr (2, [.ref qa80, .ref qb80, .int 0, .int 0, .int 0]) := by rw [ef112, va_up_ne _ _ (Ne.symm (ne_new (in_app (in_app (in_app (in_app hoL)))) hq73))]; exact hq73_109
  have hqa80_119 : f112 qa80 = .inl (K 0, 2048, .inl (fun _ => 0)) := by rw [ef112, va_up_ne _ _ (Ne.symm (ne_new (in_app (in_app (in_app (in_app (in_app hoL))))) hqa80))]; exact hqa80_110
  have hqb80_120 : f112 qb80 = .inl (K 1, 11, .inl (fun _ => 0)) := by rw [ef112, va_up_ne _ _ (Ne.symm (ne_new (in_app (in_app (in_app (in_app (in_app (in_app hoL)))))) hqb80))]; exact hqb80_111
  refine g_aload_n (n := 42) hX dX7_init_41 rfl rfl rfl ?_
  refine g_bipush (n := 44) (v := 8) hX dX7_init_42 rfl rfl ?_
  refine g_pnewq (n := 47) (N := 8) 6 (fun h9 => h9.2.2.1) rfl hX hE hU hY dX7_init_44 rfl ul_X7_32 (by decide) rfl (by decide) (by rw [hRm]; exact Nat.le_of_ble_eq_true rfl) (by rw [hRm]; exact Nat.le_of_ble_eq_true rfl) (fun q121 f121 hq121 ef121 => ?_)
  have hax_122 : f121 ax = .inr (9, [.ref q31, .ref q55, .ref q73, .null, .int 0]) := by rw [ef121, va_up_ne _ _ (ne_new (in_app (in_app (in_app (in_app (in_app (in_app (in_app hoL))))))) hq121)]; exact hax_113
  have hq31_123 : f121 q31 = .inr (8, [.ref qa34, .ref qb34, .int 0, .int 0]) := by rw [ef121, va_up_ne _ _ (ne_new (in_app (in_app (in_app (in_app (in_app (in_app in_new)))))) hq121)]; exact hq31_114
  have hqa34_124 : f121 qa34 = .inl (K 4, 12, rE (fun _ => none)) := by rw [ef121, va_up_ne _ _ (ne_new (in_app (in_app (in_app (in_app (in_app in_new))))) hq121)]; exact hqa34_115
  have hqb34_125 : f121 qb34 = .inl (K 3, 40, rE (fun _ => none)) := by rw [ef121, va_up_ne _ _ (ne_new (in_app (in_app (in_app (in_app in_new)))) hq121)]; exact hqb34_116
  have hq55_126 : f121 q55 = .inr (3, [.ref q31]) := by rw [ef121, va_up_ne _ _ (ne_new (in_app (in_app (in_app in_new))) hq121)]; exact hq55_117
  have hq73_127 : f121 q73 = .inr (2, [.ref qa80, .ref qb80, .int 0, .int 0, .int 0]) := by rw [ef121, va_up_ne _ _ (ne_new (in_app (in_app in_new)) hq121)]; exact hq73_118
  have hqa80_128 : f121 qa80 = .inl (K 0, 2048, .inl (fun _ => 0)) := by rw [ef121, va_up_ne _ _ (ne_new (in_app in_new) hq121)]; exact hqa80_119
  have hqb80_129 : f121 qb80 = .inl (K 1, 11, .inl (fun _ => 0)) := by rw [ef121, va_up_ne _ _ (ne_new in_new hq121)]; exact hqb80_120
  have hq121_130 : f121 q121 = .inl (K 6, 8, rE (fun _ => none)) := by rw [ef121]; exact va_up_self _ _ _
  refine g_pputF (n := 50) (fs' := [.ref q31, .ref q55, .ref q73, .ref q121, .int 0]) tyX7 tyX7_ok nmX7 ux_X7 rfl hX hU (hI rfl) dX7_init_47 rfl (in_app (in_app (in_app (in_app (in_app (in_app (in_app (in_app hoL)))))))) hax_122 3 rfl uf_X7_34 rfl rfl rfl rfl rfl rfl (fun f131 ef131 => ?_)
  have hax_132 : f131 ax = .inr (9, [.ref q31, .ref q55, .ref q73, .ref q121, .int 0]) := by rw [ef131]; exact va_up_self _ _ _
  have hq31_133 : f131 q31 = .inr (8, [.ref qa34, .ref qb34, .int 0, .int 0]) := by rw [ef131, va_up_ne _ _ (Ne.symm (ne_new hoL hq31))]; exact hq31_123
  have hqa34_134 : f131 qa34 = .inl (K 4, 12, rE (fun _ => none)) := by rw [ef131, va_up_ne _ _ (Ne.symm (ne_new (in_app hoL) hqa34))]; exact hqa34_124
  have hqb34_135 : f131 qb34 = .inl (K 3, 40, rE (fun _ => none)) := by rw [ef131, va_up_ne _ _ (Ne.symm (ne_new (in_app (in_app hoL)) hqb34))]; exact hqb34_125
  have hq55_136 : f131 q55 = .inr (3, [.ref q31]) := by rw [ef131, va_up_ne _ _ (Ne.symm (ne_new (in_app (in_app (in_app hoL))) hq55))]; exact hq55_126
  have hq73_137 : f131 q73 = .inr (2, [.ref qa80, .ref qb80, .int 0, .int 0, .int 0]) := by rw [ef131, va_up_ne _ _ (Ne.symm (ne_new (in_app (in_app (in_app (in_app hoL)))) hq73))]; exact hq73_127
  have hqa80_138 : f131 qa80 = .inl (K 0, 2048, .inl (fun _ => 0)) := by rw [ef131, va_up_ne _ _ (Ne.symm (ne_new (in_app (in_app (in_app (in_app (in_app hoL))))) hqa80))]; exact hqa80_128
  have hqb80_139 : f131 qb80 = .inl (K 1, 11, .inl (fun _ => 0)) := by rw [ef131, va_up_ne _ _ (Ne.symm (ne_new (in_app (in_app (in_app (in_app (in_app (in_app hoL)))))) hqb80))]; exact hqb80_129
  have hq121_140 : f131 q121 = .inl (K 6, 8, rE (fun _ => none)) := by rw [ef131, va_up_ne _ _ (Ne.symm (ne_new (in_app (in_app (in_app (in_app (in_app (in_app (in_app hoL))))))) hq121))]; exact hq121_130
  exact g_vret hX hR dX7_init_50 ⟨rfl, RW_init (L ++ [q31] ++ [qa34] ++ [qb34] ++ [q55] ++ [q73] ++ [qa80] ++ [qb80] ++ [q121]) (f131) (in_app (in_app (in_app (in_app (in_app (in_app (in_app (in_app hoL)))))))) (in_app (in_app (in_app (in_app (in_app (in_app (in_app in_new))))))) (in_app (in_app (in_app (in_app in_new)))) (in_app (in_app (in_app in_new))) (in_app (in_app in_new)) (in_app in_new) (in_app (in_app (in_app (in_app (in_app (in_app in_new)))))) (in_app (in_app (in_app (in_app (in_app in_new))))) in_new hax_132 hq31_133 hq55_136 hq73_137 hqa80_138 hqb80_139 hqa34_134 hqb34_135 hq121_140 (Ne.symm (ne_new hoL hq31)) (Ne.symm (ne_new (in_app (in_app (in_app hoL))) hq55)) (Ne.symm (ne_new (in_app (in_app in_new)) hq55)) (Ne.symm (ne_new (in_app (in_app (in_app (in_app hoL)))) hq73)) (Ne.symm (ne_new (in_app (in_app (in_app in_new))) hq73)) (Ne.symm (ne_new in_new hq73)) (Ne.symm (ne_new (in_app (in_app (in_app (in_app (in_app hoL))))) hqa80)) (Ne.symm (ne_new (in_app (in_app (in_app (in_app in_new)))) hqa80)) (Ne.symm (ne_new (in_app in_new) hqa80)) (Ne.symm (ne_new in_new hqa80)) (Ne.symm (ne_new (in_app (in_app (in_app (in_app (in_app (in_app hoL)))))) hqb80)) (Ne.symm (ne_new (in_app (in_app (in_app (in_app (in_app in_new))))) hqb80)) (Ne.symm (ne_new (in_app (in_app in_new)) hqb80)) (Ne.symm (ne_new (in_app in_new) hqb80)) (Ne.symm (ne_new in_new hqb80)) (Ne.symm (ne_new (in_app hoL) hqa34)) (Ne.symm (ne_new in_new hqa34)) (ne_new (in_app in_new) hq55) (ne_new (in_app (in_app in_new)) hq73) (ne_new (in_app (in_app (in_app in_new))) hqa80) (ne_new (in_app (in_app (in_app (in_app in_new)))) hqb80) (Ne.symm (ne_new (in_app (in_app hoL)) hqb34)) (Ne.symm (ne_new (in_app in_new) hqb34)) (ne_new in_new hq55) (ne_new (in_app in_new) hq73) (ne_new (in_app (in_app in_new)) hqa80) (ne_new (in_app (in_app (in_app in_new))) hqb80) (Ne.symm (ne_new in_new hqb34)) (Ne.symm (ne_new (in_app (in_app (in_app (in_app (in_app (in_app (in_app hoL))))))) hq121)) (Ne.symm (ne_new (in_app (in_app (in_app (in_app (in_app (in_app in_new)))))) hq121)) (Ne.symm (ne_new (in_app (in_app (in_app in_new))) hq121)) (Ne.symm (ne_new (in_app (in_app in_new)) hq121)) (Ne.symm (ne_new (in_app in_new) hq121)) (Ne.symm (ne_new in_new hq121)) (Ne.symm (ne_new (in_app (in_app (in_app (in_app (in_app in_new))))) hq121)) (Ne.symm (ne_new (in_app (in_app (in_app (in_app in_new)))) hq121))⟩

