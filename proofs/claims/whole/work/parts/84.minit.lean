theorem mW_of {K : Nat → ClassId} {L : List Nat} {f : Nat → va_E} {am : Nat} {A : Nat → Nat} (hL : L = am :: (List.range 25).map A) (h0 : f am = .inr (10, mF A σ0)) (hj : ∀ j, j < 25 → f (A j) = .inl (K (mT j), mN j, .inl (fun _ => 0))) : va_pl L f = mW K am A σ0 := by
  subst hL
  show (am, f am) :: ((List.range 25).map A).map (fun a => (a, f a)) = (am, .inr (10, mF A σ0)) :: (List.range 25).map (mA K A σ0)
  rw [h0, List.map_map]
  refine congrArg _ (List.map_congr_left (fun j h => ?_))
  show (A j, f (A j)) = (A j, .inl (K (mT j), mN j, .inl (fun _ => 0)))
  rw [hj j (List.mem_range.mp h)]
def aN (A : Nat → Nat) (k q : Nat) : Nat → Nat := fun j => if j = k then q else A j
def MI (K : Nat → ClassId) (am k : Nat) (A : Nat → Nat) (L : List Nat) (f : Nat → va_E) (fs : List Value) : Prop := L = am :: (List.range k).map A ∧ f am = .inr (10, fs) ∧ (∀ j, j < k → f (A j) = .inl (K (mT j), mN j, .inl (fun _ => 0))) ∧ ∀ j, j < k → A j ≠ am
theorem MI_next {K : Nat → ClassId} {am k q N t : Nat} {A : Nat → Nat} {L : List Nat} {f f1 f2 : Nat → va_E} {fs fs' : List Value} (h : MI K am k A L f fs) (hq : q ∉ L) (e1 : f1 = va_up f q (.inl (K t, N, .inl (fun _ => 0)))) (e2 : f2 = va_up f1 am (.inr (10, fs'))) (ht : mT k = t) (hN : mN k = N) : MI K am (k + 1) (aN A k q) (L ++ [q]) f2 fs' := by
  obtain ⟨h1, h2, h3, h4⟩ := h
  have hqa : q ≠ am := fun e => hq (by rw [h1, e]; exact List.mem_cons_self)
  have hA : ∀ j, j < k → aN A k q j = A j := fun j hj => if_neg (by omega)
  have hk : aN A k q k = q := if_pos rfl
  have hAq : ∀ j, j < k → A j ≠ q := fun j hj e => hq (by rw [h1, ← e]; exact List.mem_cons_of_mem _ (List.mem_map.mpr ⟨j, List.mem_range.mpr hj, rfl⟩))
  refine ⟨?_, ?_, fun j hj => ?_, fun j hj => ?_⟩
  · rw [h1, List.range_succ, List.map_append, List.cons_append]
    refine congrArg _ ?_
    show _ ++ [q] = _ ++ [aN A k q k]
    rw [hk, List.map_congr_left (fun j hj => hA j (List.mem_range.mp hj))]
  · rw [e2, va_up_self]
  · by_cases e : j = k
    · rw [e, hk, e2, va_up_ne _ _ hqa, e1, va_up_self, ht, hN]
    · have hjk : j < k := by omega
      rw [hA j hjk, e2, va_up_ne _ _ (h4 j hjk), e1, va_up_ne _ _ (hAq j hjk), h3 j hjk]
  · by_cases e : j = k
    · rw [e, hk]; exact hqa
    · rw [hA j (by omega)]; exact h4 j (by omega)
theorem MI_am {K : Nat → ClassId} {am k q : Nat} {A : Nat → Nat} {L : List Nat} {f f1 : Nat → va_E} {fs : List Value} {e : va_E} (h : MI K am k A L f fs) (hq : q ∉ L) (e1 : f1 = va_up f q e) : f1 am = .inr (10, fs) := by
  rw [e1, va_up_ne _ _ (fun e9 => hq (by rw [h.1, ← e9]; exact List.mem_cons_self)), h.2.1]
theorem MI_in {K : Nat → ClassId} {am k : Nat} {A : Nat → Nat} {L : List Nat} {f : Nat → va_E} {fs : List Value} (h : MI K am k A L f fs) : am ∈ L := by rw [h.1]; exact List.mem_cons_self
set_option maxHeartbeats 4000000 in
set_option maxRecDepth 100000 in
theorem m_init (l : Launch) (D : va_G) (K : Nat → ClassId) (f : Nat → va_E) (am : Nat) (hof : f am = .inr (10, [.int 0, .int 0, .int 0, .int 0, .null, .null, .null, .null, .null, .null, .null, .null, .null, .null, .null, .null, .null, .null, .null, .null, .null, .null, .null, .null, .null, .null, .int 0, .null, .null, .int 0, .null])) : Mc l yX8_init (wM yX8_init cX8_init 1 none) (rmL 1 25 18781) D (yY K) [.ref am] (va_pl [am] f) (fun v w => v = none ∧ ∃ A : Nat → Nat, w = mW K am A σ0) 25 18781 := by
  refine m_start (lv := [(0, .ref am)]) rfl (Nat.le_of_ble_eq_true rfl) rfl (fun Γ hX hRm hnL hY hDD hLa hR hI hE => ?_)
  have hU : ∀ w ∈ wU, w ∈ wM yX8_init cX8_init 1 none := fun w h => wM_in h
  subst hLa
  subst hDD
  have hM0 : MI K am 0 (fun _ => 0) [am] f _ := ⟨rfl, hof, fun j h9 => absurd h9 (Nat.not_lt_zero _), fun j h9 => absurd h9 (Nat.not_lt_zero _)⟩
  refine g_aload_n (n := 1) hX dX8_init_0 rfl rfl rfl ?_
  refine g_objInit (n := 4) hX dX8_init_1 rfl (hU _ um_X8_1) (hU _ ui_obj) (hU _ uc_obj) (by rw [hRm]; decide) (by decide) (by rw [hRm]; decide) ?_
  refine g_aload_n (n := 5) hX dX8_init_4 rfl rfl rfl ?_
  refine g_bipush (n := 7) (v := 13) hX dX8_init_5 rfl rfl ?_
  refine g_pnewa (n := 9) (atype := .int) (N := 13) (a0 := (13, .inl (fun _ => 0))) 1 ua_int rfl rfl (Or.inr (Or.inl rfl)) hX hU hY dX8_init_7 rfl (fun _ => rfl) (by decide) rfl (by decide) (by rw [hRm]; exact (Nat.le_of_ble_eq_true rfl)) (by rw [hRm]; exact (Nat.le_of_ble_eq_true rfl)) (fun q1 f1 hq1 ef1 => ?_)
  have a0 := MI_am hM0 hq1 ef1
  refine g_pputF (n := 12) (fs' := [.int 0, .int 0, .int 0, .int 0, .ref q1, .null, .null, .null, .null, .null, .null, .null, .null, .null, .null, .null, .null, .null, .null, .null, .null, .null, .null, .null, .null, .null, .int 0, .null, .null, .int 0, .null]) tyX8 tyX8_ok nmX8 ux_X8 rfl hX hU (hI rfl) dX8_init_9 rfl (in_app (MI_in hM0)) a0 4 rfl uf_X8_7 rfl rfl rfl rfl rfl rfl (fun f2 ef2 => ?_)
  have hM1 := MI_next hM0 hq1 ef1 ef2 rfl rfl
  refine g_aload_n (n := 13) hX dX8_init_12 rfl rfl rfl ?_
  refine g_bipush (n := 15) (v := 13) hX dX8_init_13 rfl rfl ?_
  refine g_pnewa (n := 17) (atype := .int) (N := 13) (a0 := (13, .inl (fun _ => 0))) 1 ua_int rfl rfl (Or.inr (Or.inl rfl)) hX hU hY dX8_init_15 rfl (fun _ => rfl) (by decide) rfl (by decide) (by rw [hRm]; exact (Nat.le_of_ble_eq_true rfl)) (by rw [hRm]; exact (Nat.le_of_ble_eq_true rfl)) (fun q3 f3 hq3 ef3 => ?_)
  have a1 := MI_am hM1 hq3 ef3
  refine g_pputF (n := 20) (fs' := [.int 0, .int 0, .int 0, .int 0, .ref q1, .ref q3, .null, .null, .null, .null, .null, .null, .null, .null, .null, .null, .null, .null, .null, .null, .null, .null, .null, .null, .null, .null, .int 0, .null, .null, .int 0, .null]) tyX8 tyX8_ok nmX8 ux_X8 rfl hX hU (hI rfl) dX8_init_17 rfl (in_app (MI_in hM1)) a1 5 rfl uf_X8_13 rfl rfl rfl rfl rfl rfl (fun f4 ef4 => ?_)
  have hM2 := MI_next hM1 hq3 ef3 ef4 rfl rfl
  refine g_aload_n (n := 21) hX dX8_init_20 rfl rfl rfl ?_
  refine g_sipush (n := 24) (v := 793) hX dX8_init_21 rfl rfl ?_
  refine g_pnewa (n := 26) (atype := .int) (N := 793) (a0 := (793, .inl (fun _ => 0))) 1 ua_int rfl rfl (Or.inr (Or.inl rfl)) hX hU hY dX8_init_24 rfl (fun _ => rfl) (by decide) rfl (by decide) (by rw [hRm]; exact (Nat.le_of_ble_eq_true rfl)) (by rw [hRm]; exact (Nat.le_of_ble_eq_true rfl)) (fun q5 f5 hq5 ef5 => ?_)
  have a2 := MI_am hM2 hq5 ef5
  refine g_pputF (n := 29) (fs' := [.int 0, .int 0, .int 0, .int 0, .ref q1, .ref q3, .ref q5, .null, .null, .null, .null, .null, .null, .null, .null, .null, .null, .null, .null, .null, .null, .null, .null, .null, .null, .null, .int 0, .null, .null, .int 0, .null]) tyX8 tyX8_ok nmX8 ux_X8 rfl hX hU (hI rfl) dX8_init_26 rfl (in_app (MI_in hM2)) a2 6 rfl uf_X8_16 rfl rfl rfl rfl rfl rfl (fun f6 ef6 => ?_)
  have hM3 := MI_next hM2 hq5 ef5 ef6 rfl rfl
  refine g_aload_n (n := 30) hX dX8_init_29 rfl rfl rfl ?_
  refine g_sipush (n := 33) (v := 793) hX dX8_init_30 rfl rfl ?_
  refine g_pnewa (n := 35) (atype := .int) (N := 793) (a0 := (793, .inl (fun _ => 0))) 1 ua_int rfl rfl (Or.inr (Or.inl rfl)) hX hU hY dX8_init_33 rfl (fun _ => rfl) (by decide) rfl (by decide) (by rw [hRm]; exact (Nat.le_of_ble_eq_true rfl)) (by rw [hRm]; exact (Nat.le_of_ble_eq_true rfl)) (fun q7 f7 hq7 ef7 => ?_)
  have a3 := MI_am hM3 hq7 ef7
  refine g_pputF (n := 38) (fs' := [.int 0, .int 0, .int 0, .int 0, .ref q1, .ref q3, .ref q5, .ref q7, .null, .null, .null, .null, .null, .null, .null, .null, .null, .null, .null, .null, .null, .null, .null, .null, .null, .null, .int 0, .null, .null, .int 0, .null]) tyX8 tyX8_ok nmX8 ux_X8 rfl hX hU (hI rfl) dX8_init_35 rfl (in_app (MI_in hM3)) a3 7 rfl uf_X8_19 rfl rfl rfl rfl rfl rfl (fun f8 ef8 => ?_)
  have hM4 := MI_next hM3 hq7 ef7 ef8 rfl rfl
  refine g_aload_n (n := 39) hX dX8_init_38 rfl rfl rfl ?_
  refine g_sipush (n := 42) (v := 793) hX dX8_init_39 rfl rfl ?_
  refine g_pnewa (n := 44) (atype := .int) (N := 793) (a0 := (793, .inl (fun _ => 0))) 1 ua_int rfl rfl (Or.inr (Or.inl rfl)) hX hU hY dX8_init_42 rfl (fun _ => rfl) (by decide) rfl (by decide) (by rw [hRm]; exact (Nat.le_of_ble_eq_true rfl)) (by rw [hRm]; exact (Nat.le_of_ble_eq_true rfl)) (fun q9 f9 hq9 ef9 => ?_)
  have a4 := MI_am hM4 hq9 ef9
  refine g_pputF (n := 47) (fs' := [.int 0, .int 0, .int 0, .int 0, .ref q1, .ref q3, .ref q5, .ref q7, .ref q9, .null, .null, .null, .null, .null, .null, .null, .null, .null, .null, .null, .null, .null, .null, .null, .null, .null, .int 0, .null, .null, .int 0, .null]) tyX8 tyX8_ok nmX8 ux_X8 rfl hX hU (hI rfl) dX8_init_44 rfl (in_app (MI_in hM4)) a4 8 rfl uf_X8_22 rfl rfl rfl rfl rfl rfl (fun f10 ef10 => ?_)
  have hM5 := MI_next hM4 hq9 ef9 ef10 rfl rfl
  refine g_aload_n (n := 48) hX dX8_init_47 rfl rfl rfl ?_
  refine g_bipush (n := 50) (v := 13) hX dX8_init_48 rfl rfl ?_
  refine g_pnewa (n := 52) (atype := .boolean) (N := 13) (a0 := (13, .inl (fun _ => 0))) 2 ua_boolean rfl rfl (Or.inr (Or.inr (Or.inl rfl))) hX hU hY dX8_init_50 rfl (fun _ => rfl) (by decide) rfl (by decide) (by rw [hRm]; exact (Nat.le_of_ble_eq_true rfl)) (by rw [hRm]; exact (Nat.le_of_ble_eq_true rfl)) (fun q11 f11 hq11 ef11 => ?_)
  have a5 := MI_am hM5 hq11 ef11
  refine g_pputF (n := 55) (fs' := [.int 0, .int 0, .int 0, .int 0, .ref q1, .ref q3, .ref q5, .ref q7, .ref q9, .ref q11, .null, .null, .null, .null, .null, .null, .null, .null, .null, .null, .null, .null, .null, .null, .null, .null, .int 0, .null, .null, .int 0, .null]) tyX8 tyX8_ok nmX8 ux_X8 rfl hX hU (hI rfl) dX8_init_52 rfl (in_app (MI_in hM5)) a5 9 rfl uf_X8_25 rfl rfl rfl rfl rfl rfl (fun f12 ef12 => ?_)
  have hM6 := MI_next hM5 hq11 ef11 ef12 rfl rfl
  refine g_aload_n (n := 56) hX dX8_init_55 rfl rfl rfl ?_
  refine g_bipush (n := 58) (v := 41) hX dX8_init_56 rfl rfl ?_
  refine g_pnewa (n := 60) (atype := .int) (N := 41) (a0 := (41, .inl (fun _ => 0))) 1 ua_int rfl rfl (Or.inr (Or.inl rfl)) hX hU hY dX8_init_58 rfl (fun _ => rfl) (by decide) rfl (by decide) (by rw [hRm]; exact (Nat.le_of_ble_eq_true rfl)) (by rw [hRm]; exact (Nat.le_of_ble_eq_true rfl)) (fun q13 f13 hq13 ef13 => ?_)
  have a6 := MI_am hM6 hq13 ef13
  refine g_pputF (n := 63) (fs' := [.int 0, .int 0, .int 0, .int 0, .ref q1, .ref q3, .ref q5, .ref q7, .ref q9, .ref q11, .ref q13, .null, .null, .null, .null, .null, .null, .null, .null, .null, .null, .null, .null, .null, .null, .null, .int 0, .null, .null, .int 0, .null]) tyX8 tyX8_ok nmX8 ux_X8 rfl hX hU (hI rfl) dX8_init_60 rfl (in_app (MI_in hM6)) a6 10 rfl uf_X8_29 rfl rfl rfl rfl rfl rfl (fun f14 ef14 => ?_)
  have hM7 := MI_next hM6 hq13 ef13 ef14 rfl rfl
  refine g_aload_n (n := 64) hX dX8_init_63 rfl rfl rfl ?_
  refine g_bipush (n := 66) (v := 41) hX dX8_init_64 rfl rfl ?_
  refine g_pnewa (n := 68) (atype := .int) (N := 41) (a0 := (41, .inl (fun _ => 0))) 1 ua_int rfl rfl (Or.inr (Or.inl rfl)) hX hU hY dX8_init_66 rfl (fun _ => rfl) (by decide) rfl (by decide) (by rw [hRm]; exact (Nat.le_of_ble_eq_true rfl)) (by rw [hRm]; exact (Nat.le_of_ble_eq_true rfl)) (fun q15 f15 hq15 ef15 => ?_)
  have a7 := MI_am hM7 hq15 ef15
  refine g_pputF (n := 71) (fs' := [.int 0, .int 0, .int 0, .int 0, .ref q1, .ref q3, .ref q5, .ref q7, .ref q9, .ref q11, .ref q13, .ref q15, .null, .null, .null, .null, .null, .null, .null, .null, .null, .null, .null, .null, .null, .null, .int 0, .null, .null, .int 0, .null]) tyX8 tyX8_ok nmX8 ux_X8 rfl hX hU (hI rfl) dX8_init_68 rfl (in_app (MI_in hM7)) a7 11 rfl uf_X8_32 rfl rfl rfl rfl rfl rfl (fun f16 ef16 => ?_)
  have hM8 := MI_next hM7 hq15 ef15 ef16 rfl rfl
  refine g_aload_n (n := 72) hX dX8_init_71 rfl rfl rfl ?_
  refine g_bipush (n := 74) (v := 41) hX dX8_init_72 rfl rfl ?_
  refine g_pnewa (n := 76) (atype := .int) (N := 41) (a0 := (41, .inl (fun _ => 0))) 1 ua_int rfl rfl (Or.inr (Or.inl rfl)) hX hU hY dX8_init_74 rfl (fun _ => rfl) (by decide) rfl (by decide) (by rw [hRm]; exact (Nat.le_of_ble_eq_true rfl)) (by rw [hRm]; exact (Nat.le_of_ble_eq_true rfl)) (fun q17 f17 hq17 ef17 => ?_)
  have a8 := MI_am hM8 hq17 ef17
  refine g_pputF (n := 79) (fs' := [.int 0, .int 0, .int 0, .int 0, .ref q1, .ref q3, .ref q5, .ref q7, .ref q9, .ref q11, .ref q13, .ref q15, .ref q17, .null, .null, .null, .null, .null, .null, .null, .null, .null, .null, .null, .null, .null, .int 0, .null, .null, .int 0, .null]) tyX8 tyX8_ok nmX8 ux_X8 rfl hX hU (hI rfl) dX8_init_76 rfl (in_app (MI_in hM8)) a8 12 rfl uf_X8_35 rfl rfl rfl rfl rfl rfl (fun f18 ef18 => ?_)
  have hM9 := MI_next hM8 hq17 ef17 ef18 rfl rfl
  refine g_aload_n (n := 80) hX dX8_init_79 rfl rfl rfl ?_
  refine g_bipush (n := 82) (v := 41) hX dX8_init_80 rfl rfl ?_
  refine g_pnewa (n := 84) (atype := .boolean) (N := 41) (a0 := (41, .inl (fun _ => 0))) 2 ua_boolean rfl rfl (Or.inr (Or.inr (Or.inl rfl))) hX hU hY dX8_init_82 rfl (fun _ => rfl) (by decide) rfl (by decide) (by rw [hRm]; exact (Nat.le_of_ble_eq_true rfl)) (by rw [hRm]; exact (Nat.le_of_ble_eq_true rfl)) (fun q19 f19 hq19 ef19 => ?_)
  have a9 := MI_am hM9 hq19 ef19
  refine g_pputF (n := 87) (fs' := [.int 0, .int 0, .int 0, .int 0, .ref q1, .ref q3, .ref q5, .ref q7, .ref q9, .ref q11, .ref q13, .ref q15, .ref q17, .ref q19, .null, .null, .null, .null, .null, .null, .null, .null, .null, .null, .null, .null, .int 0, .null, .null, .int 0, .null]) tyX8 tyX8_ok nmX8 ux_X8 rfl hX hU (hI rfl) dX8_init_84 rfl (in_app (MI_in hM9)) a9 13 rfl uf_X8_38 rfl rfl rfl rfl rfl rfl (fun f20 ef20 => ?_)
  have hM10 := MI_next hM9 hq19 ef19 ef20 rfl rfl
  refine g_aload_n (n := 88) hX dX8_init_87 rfl rfl rfl ?_
  refine g_bipush (n := 90) (v := 41) hX dX8_init_88 rfl rfl ?_
  refine g_pnewa (n := 92) (atype := .boolean) (N := 41) (a0 := (41, .inl (fun _ => 0))) 2 ua_boolean rfl rfl (Or.inr (Or.inr (Or.inl rfl))) hX hU hY dX8_init_90 rfl (fun _ => rfl) (by decide) rfl (by decide) (by rw [hRm]; exact (Nat.le_of_ble_eq_true rfl)) (by rw [hRm]; exact (Nat.le_of_ble_eq_true rfl)) (fun q21 f21 hq21 ef21 => ?_)
  have a10 := MI_am hM10 hq21 ef21
  refine g_pputF (n := 95) (fs' := [.int 0, .int 0, .int 0, .int 0, .ref q1, .ref q3, .ref q5, .ref q7, .ref q9, .ref q11, .ref q13, .ref q15, .ref q17, .ref q19, .ref q21, .null, .null, .null, .null, .null, .null, .null, .null, .null, .null, .null, .int 0, .null, .null, .int 0, .null]) tyX8 tyX8_ok nmX8 ux_X8 rfl hX hU (hI rfl) dX8_init_92 rfl (in_app (MI_in hM10)) a10 14 rfl uf_X8_41 rfl rfl rfl rfl rfl rfl (fun f22 ef22 => ?_)
  have hM11 := MI_next hM10 hq21 ef21 ef22 rfl rfl
  refine g_aload_n (n := 96) hX dX8_init_95 rfl rfl rfl ?_
  refine g_bipush (n := 98) (v := 41) hX dX8_init_96 rfl rfl ?_
  refine g_pnewa (n := 100) (atype := .boolean) (N := 41) (a0 := (41, .inl (fun _ => 0))) 2 ua_boolean rfl rfl (Or.inr (Or.inr (Or.inl rfl))) hX hU hY dX8_init_98 rfl (fun _ => rfl) (by decide) rfl (by decide) (by rw [hRm]; exact (Nat.le_of_ble_eq_true rfl)) (by rw [hRm]; exact (Nat.le_of_ble_eq_true rfl)) (fun q23 f23 hq23 ef23 => ?_)
  have a11 := MI_am hM11 hq23 ef23
  refine g_pputF (n := 103) (fs' := [.int 0, .int 0, .int 0, .int 0, .ref q1, .ref q3, .ref q5, .ref q7, .ref q9, .ref q11, .ref q13, .ref q15, .ref q17, .ref q19, .ref q21, .ref q23, .null, .null, .null, .null, .null, .null, .null, .null, .null, .null, .int 0, .null, .null, .int 0, .null]) tyX8 tyX8_ok nmX8 ux_X8 rfl hX hU (hI rfl) dX8_init_100 rfl (in_app (MI_in hM11)) a11 15 rfl uf_X8_44 rfl rfl rfl rfl rfl rfl (fun f24 ef24 => ?_)
  have hM12 := MI_next hM11 hq23 ef23 ef24 rfl rfl
  refine g_aload_n (n := 104) hX dX8_init_103 rfl rfl rfl ?_
  refine g_bipush (n := 106) (v := 9) hX dX8_init_104 rfl rfl ?_
  refine g_pnewa (n := 108) (atype := .boolean) (N := 9) (a0 := (9, .inl (fun _ => 0))) 2 ua_boolean rfl rfl (Or.inr (Or.inr (Or.inl rfl))) hX hU hY dX8_init_106 rfl (fun _ => rfl) (by decide) rfl (by decide) (by rw [hRm]; exact (Nat.le_of_ble_eq_true rfl)) (by rw [hRm]; exact (Nat.le_of_ble_eq_true rfl)) (fun q25 f25 hq25 ef25 => ?_)
  have a12 := MI_am hM12 hq25 ef25
  refine g_pputF (n := 111) (fs' := [.int 0, .int 0, .int 0, .int 0, .ref q1, .ref q3, .ref q5, .ref q7, .ref q9, .ref q11, .ref q13, .ref q15, .ref q17, .ref q19, .ref q21, .ref q23, .ref q25, .null, .null, .null, .null, .null, .null, .null, .null, .null, .int 0, .null, .null, .int 0, .null]) tyX8 tyX8_ok nmX8 ux_X8 rfl hX hU (hI rfl) dX8_init_108 rfl (in_app (MI_in hM12)) a12 16 rfl uf_X8_47 rfl rfl rfl rfl rfl rfl (fun f26 ef26 => ?_)
  have hM13 := MI_next hM12 hq25 ef25 ef26 rfl rfl
  refine g_aload_n (n := 112) hX dX8_init_111 rfl rfl rfl ?_
  refine g_bipush (n := 114) (v := 9) hX dX8_init_112 rfl rfl ?_
  refine g_pnewa (n := 116) (atype := .boolean) (N := 9) (a0 := (9, .inl (fun _ => 0))) 2 ua_boolean rfl rfl (Or.inr (Or.inr (Or.inl rfl))) hX hU hY dX8_init_114 rfl (fun _ => rfl) (by decide) rfl (by decide) (by rw [hRm]; exact (Nat.le_of_ble_eq_true rfl)) (by rw [hRm]; exact (Nat.le_of_ble_eq_true rfl)) (fun q27 f27 hq27 ef27 => ?_)
  have a13 := MI_am hM13 hq27 ef27
  refine g_pputF (n := 119) (fs' := [.int 0, .int 0, .int 0, .int 0, .ref q1, .ref q3, .ref q5, .ref q7, .ref q9, .ref q11, .ref q13, .ref q15, .ref q17, .ref q19, .ref q21, .ref q23, .ref q25, .ref q27, .null, .null, .null, .null, .null, .null, .null, .null, .int 0, .null, .null, .int 0, .null]) tyX8 tyX8_ok nmX8 ux_X8 rfl hX hU (hI rfl) dX8_init_116 rfl (in_app (MI_in hM13)) a13 17 rfl uf_X8_50 rfl rfl rfl rfl rfl rfl (fun f28 ef28 => ?_)
  have hM14 := MI_next hM13 hq27 ef27 ef28 rfl rfl
  refine g_aload_n (n := 120) hX dX8_init_119 rfl rfl rfl ?_
  refine g_sipush (n := 123) (v := 130) hX dX8_init_120 rfl rfl ?_
  refine g_pnewa (n := 125) (atype := .int) (N := 130) (a0 := (130, .inl (fun _ => 0))) 1 ua_int rfl rfl (Or.inr (Or.inl rfl)) hX hU hY dX8_init_123 rfl (fun _ => rfl) (by decide) rfl (by decide) (by rw [hRm]; exact (Nat.le_of_ble_eq_true rfl)) (by rw [hRm]; exact (Nat.le_of_ble_eq_true rfl)) (fun q29 f29 hq29 ef29 => ?_)
  have a14 := MI_am hM14 hq29 ef29
  refine g_pputF (n := 128) (fs' := [.int 0, .int 0, .int 0, .int 0, .ref q1, .ref q3, .ref q5, .ref q7, .ref q9, .ref q11, .ref q13, .ref q15, .ref q17, .ref q19, .ref q21, .ref q23, .ref q25, .ref q27, .ref q29, .null, .null, .null, .null, .null, .null, .null, .int 0, .null, .null, .int 0, .null]) tyX8 tyX8_ok nmX8 ux_X8 rfl hX hU (hI rfl) dX8_init_125 rfl (in_app (MI_in hM14)) a14 18 rfl uf_X8_53 rfl rfl rfl rfl rfl rfl (fun f30 ef30 => ?_)
  have hM15 := MI_next hM14 hq29 ef29 ef30 rfl rfl
  refine g_aload_n (n := 129) hX dX8_init_128 rfl rfl rfl ?_
  refine g_bipush (n := 131) (v := 9) hX dX8_init_129 rfl rfl ?_
  refine g_pnewa (n := 133) (atype := .int) (N := 9) (a0 := (9, .inl (fun _ => 0))) 1 ua_int rfl rfl (Or.inr (Or.inl rfl)) hX hU hY dX8_init_131 rfl (fun _ => rfl) (by decide) rfl (by decide) (by rw [hRm]; exact (Nat.le_of_ble_eq_true rfl)) (by rw [hRm]; exact (Nat.le_of_ble_eq_true rfl)) (fun q31 f31 hq31 ef31 => ?_)
  have a15 := MI_am hM15 hq31 ef31
  refine g_pputF (n := 136) (fs' := [.int 0, .int 0, .int 0, .int 0, .ref q1, .ref q3, .ref q5, .ref q7, .ref q9, .ref q11, .ref q13, .ref q15, .ref q17, .ref q19, .ref q21, .ref q23, .ref q25, .ref q27, .ref q29, .ref q31, .null, .null, .null, .null, .null, .null, .int 0, .null, .null, .int 0, .null]) tyX8 tyX8_ok nmX8 ux_X8 rfl hX hU (hI rfl) dX8_init_133 rfl (in_app (MI_in hM15)) a15 19 rfl uf_X8_56 rfl rfl rfl rfl rfl rfl (fun f32 ef32 => ?_)
  have hM16 := MI_next hM15 hq31 ef31 ef32 rfl rfl
  refine g_aload_n (n := 137) hX dX8_init_136 rfl rfl rfl ?_
  refine g_bipush (n := 139) (v := 9) hX dX8_init_137 rfl rfl ?_
  refine g_pnewa (n := 141) (atype := .int) (N := 9) (a0 := (9, .inl (fun _ => 0))) 1 ua_int rfl rfl (Or.inr (Or.inl rfl)) hX hU hY dX8_init_139 rfl (fun _ => rfl) (by decide) rfl (by decide) (by rw [hRm]; exact (Nat.le_of_ble_eq_true rfl)) (by rw [hRm]; exact (Nat.le_of_ble_eq_true rfl)) (fun q33 f33 hq33 ef33 => ?_)
  have a16 := MI_am hM16 hq33 ef33
  refine g_pputF (n := 144) (fs' := [.int 0, .int 0, .int 0, .int 0, .ref q1, .ref q3, .ref q5, .ref q7, .ref q9, .ref q11, .ref q13, .ref q15, .ref q17, .ref q19, .ref q21, .ref q23, .ref q25, .ref q27, .ref q29, .ref q31, .ref q33, .null, .null, .null, .null, .null, .int 0, .null, .null, .int 0, .null]) tyX8 tyX8_ok nmX8 ux_X8 rfl hX hU (hI rfl) dX8_init_141 rfl (in_app (MI_in hM16)) a16 20 rfl uf_X8_59 rfl rfl rfl rfl rfl rfl (fun f34 ef34 => ?_)
  have hM17 := MI_next hM16 hq33 ef33 ef34 rfl rfl
  refine g_aload_n (n := 145) hX dX8_init_144 rfl rfl rfl ?_
  refine g_bipush (n := 147) (v := 9) hX dX8_init_145 rfl rfl ?_
  refine g_pnewa (n := 149) (atype := .int) (N := 9) (a0 := (9, .inl (fun _ => 0))) 1 ua_int rfl rfl (Or.inr (Or.inl rfl)) hX hU hY dX8_init_147 rfl (fun _ => rfl) (by decide) rfl (by decide) (by rw [hRm]; exact (Nat.le_of_ble_eq_true rfl)) (by rw [hRm]; exact (Nat.le_of_ble_eq_true rfl)) (fun q35 f35 hq35 ef35 => ?_)
  have a17 := MI_am hM17 hq35 ef35
  refine g_pputF (n := 152) (fs' := [.int 0, .int 0, .int 0, .int 0, .ref q1, .ref q3, .ref q5, .ref q7, .ref q9, .ref q11, .ref q13, .ref q15, .ref q17, .ref q19, .ref q21, .ref q23, .ref q25, .ref q27, .ref q29, .ref q31, .ref q33, .ref q35, .null, .null, .null, .null, .int 0, .null, .null, .int 0, .null]) tyX8 tyX8_ok nmX8 ux_X8 rfl hX hU (hI rfl) dX8_init_149 rfl (in_app (MI_in hM17)) a17 21 rfl uf_X8_62 rfl rfl rfl rfl rfl rfl (fun f36 ef36 => ?_)
  have hM18 := MI_next hM17 hq35 ef35 ef36 rfl rfl
  refine g_aload_n (n := 153) hX dX8_init_152 rfl rfl rfl ?_
  refine g_bipush (n := 155) (v := 9) hX dX8_init_153 rfl rfl ?_
  refine g_pnewa (n := 157) (atype := .int) (N := 9) (a0 := (9, .inl (fun _ => 0))) 1 ua_int rfl rfl (Or.inr (Or.inl rfl)) hX hU hY dX8_init_155 rfl (fun _ => rfl) (by decide) rfl (by decide) (by rw [hRm]; exact (Nat.le_of_ble_eq_true rfl)) (by rw [hRm]; exact (Nat.le_of_ble_eq_true rfl)) (fun q37 f37 hq37 ef37 => ?_)
  have a18 := MI_am hM18 hq37 ef37
  refine g_pputF (n := 160) (fs' := [.int 0, .int 0, .int 0, .int 0, .ref q1, .ref q3, .ref q5, .ref q7, .ref q9, .ref q11, .ref q13, .ref q15, .ref q17, .ref q19, .ref q21, .ref q23, .ref q25, .ref q27, .ref q29, .ref q31, .ref q33, .ref q35, .ref q37, .null, .null, .null, .int 0, .null, .null, .int 0, .null]) tyX8 tyX8_ok nmX8 ux_X8 rfl hX hU (hI rfl) dX8_init_157 rfl (in_app (MI_in hM18)) a18 22 rfl uf_X8_65 rfl rfl rfl rfl rfl rfl (fun f38 ef38 => ?_)
  have hM19 := MI_next hM18 hq37 ef37 ef38 rfl rfl
  refine g_aload_n (n := 161) hX dX8_init_160 rfl rfl rfl ?_
  refine g_bipush (n := 163) (v := 9) hX dX8_init_161 rfl rfl ?_
  refine g_pnewa (n := 165) (atype := .int) (N := 9) (a0 := (9, .inl (fun _ => 0))) 1 ua_int rfl rfl (Or.inr (Or.inl rfl)) hX hU hY dX8_init_163 rfl (fun _ => rfl) (by decide) rfl (by decide) (by rw [hRm]; exact (Nat.le_of_ble_eq_true rfl)) (by rw [hRm]; exact (Nat.le_of_ble_eq_true rfl)) (fun q39 f39 hq39 ef39 => ?_)
  have a19 := MI_am hM19 hq39 ef39
  refine g_pputF (n := 168) (fs' := [.int 0, .int 0, .int 0, .int 0, .ref q1, .ref q3, .ref q5, .ref q7, .ref q9, .ref q11, .ref q13, .ref q15, .ref q17, .ref q19, .ref q21, .ref q23, .ref q25, .ref q27, .ref q29, .ref q31, .ref q33, .ref q35, .ref q37, .ref q39, .null, .null, .int 0, .null, .null, .int 0, .null]) tyX8 tyX8_ok nmX8 ux_X8 rfl hX hU (hI rfl) dX8_init_165 rfl (in_app (MI_in hM19)) a19 23 rfl uf_X8_68 rfl rfl rfl rfl rfl rfl (fun f40 ef40 => ?_)
  have hM20 := MI_next hM19 hq39 ef39 ef40 rfl rfl
  refine g_aload_n (n := 169) hX dX8_init_168 rfl rfl rfl ?_
  refine g_sipush (n := 172) (v := 12000) hX dX8_init_169 rfl rfl ?_
  refine g_pnewa (n := 174) (atype := .byte) (N := 12000) (a0 := (12000, .inl (fun _ => 0))) 0 ua_byte rfl rfl (Or.inl rfl) hX hU hY dX8_init_172 rfl (fun _ => rfl) (by decide) rfl (by decide) (by rw [hRm]; exact (Nat.le_of_ble_eq_true rfl)) (by rw [hRm]; exact (Nat.le_of_ble_eq_true rfl)) (fun q41 f41 hq41 ef41 => ?_)
  have a20 := MI_am hM20 hq41 ef41
  refine g_pputF (n := 177) (fs' := [.int 0, .int 0, .int 0, .int 0, .ref q1, .ref q3, .ref q5, .ref q7, .ref q9, .ref q11, .ref q13, .ref q15, .ref q17, .ref q19, .ref q21, .ref q23, .ref q25, .ref q27, .ref q29, .ref q31, .ref q33, .ref q35, .ref q37, .ref q39, .ref q41, .null, .int 0, .null, .null, .int 0, .null]) tyX8 tyX8_ok nmX8 ux_X8 rfl hX hU (hI rfl) dX8_init_174 rfl (in_app (MI_in hM20)) a20 24 rfl uf_X8_71 rfl rfl rfl rfl rfl rfl (fun f42 ef42 => ?_)
  have hM21 := MI_next hM20 hq41 ef41 ef42 rfl rfl
  refine g_aload_n (n := 178) hX dX8_init_177 rfl rfl rfl ?_
  refine g_sipush (n := 181) (v := 900) hX dX8_init_178 rfl rfl ?_
  refine g_pnewa (n := 183) (atype := .int) (N := 900) (a0 := (900, .inl (fun _ => 0))) 1 ua_int rfl rfl (Or.inr (Or.inl rfl)) hX hU hY dX8_init_181 rfl (fun _ => rfl) (by decide) rfl (by decide) (by rw [hRm]; exact (Nat.le_of_ble_eq_true rfl)) (by rw [hRm]; exact (Nat.le_of_ble_eq_true rfl)) (fun q43 f43 hq43 ef43 => ?_)
  have a21 := MI_am hM21 hq43 ef43
  refine g_pputF (n := 186) (fs' := [.int 0, .int 0, .int 0, .int 0, .ref q1, .ref q3, .ref q5, .ref q7, .ref q9, .ref q11, .ref q13, .ref q15, .ref q17, .ref q19, .ref q21, .ref q23, .ref q25, .ref q27, .ref q29, .ref q31, .ref q33, .ref q35, .ref q37, .ref q39, .ref q41, .ref q43, .int 0, .null, .null, .int 0, .null]) tyX8 tyX8_ok nmX8 ux_X8 rfl hX hU (hI rfl) dX8_init_183 rfl (in_app (MI_in hM21)) a21 25 rfl uf_X8_75 rfl rfl rfl rfl rfl rfl (fun f44 ef44 => ?_)
  have hM22 := MI_next hM21 hq43 ef43 ef44 rfl rfl
  refine g_aload_n (n := 187) hX dX8_init_186 rfl rfl rfl ?_
  refine g_bipush (n := 189) (v := 12) hX dX8_init_187 rfl rfl ?_
  refine g_pnewa (n := 191) (atype := .int) (N := 12) (a0 := (12, .inl (fun _ => 0))) 1 ua_int rfl rfl (Or.inr (Or.inl rfl)) hX hU hY dX8_init_189 rfl (fun _ => rfl) (by decide) rfl (by decide) (by rw [hRm]; exact (Nat.le_of_ble_eq_true rfl)) (by rw [hRm]; exact (Nat.le_of_ble_eq_true rfl)) (fun q45 f45 hq45 ef45 => ?_)
  have a22 := MI_am hM22 hq45 ef45
  refine g_pputF (n := 194) (fs' := [.int 0, .int 0, .int 0, .int 0, .ref q1, .ref q3, .ref q5, .ref q7, .ref q9, .ref q11, .ref q13, .ref q15, .ref q17, .ref q19, .ref q21, .ref q23, .ref q25, .ref q27, .ref q29, .ref q31, .ref q33, .ref q35, .ref q37, .ref q39, .ref q41, .ref q43, .int 0, .ref q45, .null, .int 0, .null]) tyX8 tyX8_ok nmX8 ux_X8 rfl hX hU (hI rfl) dX8_init_191 rfl (in_app (MI_in hM22)) a22 27 rfl uf_X8_78 rfl rfl rfl rfl rfl rfl (fun f46 ef46 => ?_)
  have hM23 := MI_next hM22 hq45 ef45 ef46 rfl rfl
  refine g_aload_n (n := 195) hX dX8_init_194 rfl rfl rfl ?_
  refine g_bipush (n := 197) (v := 12) hX dX8_init_195 rfl rfl ?_
  refine g_pnewa (n := 199) (atype := .int) (N := 12) (a0 := (12, .inl (fun _ => 0))) 1 ua_int rfl rfl (Or.inr (Or.inl rfl)) hX hU hY dX8_init_197 rfl (fun _ => rfl) (by decide) rfl (by decide) (by rw [hRm]; exact (Nat.le_of_ble_eq_true rfl)) (by rw [hRm]; exact (Nat.le_of_ble_eq_true rfl)) (fun q47 f47 hq47 ef47 => ?_)
  have a23 := MI_am hM23 hq47 ef47
  refine g_pputF (n := 202) (fs' := [.int 0, .int 0, .int 0, .int 0, .ref q1, .ref q3, .ref q5, .ref q7, .ref q9, .ref q11, .ref q13, .ref q15, .ref q17, .ref q19, .ref q21, .ref q23, .ref q25, .ref q27, .ref q29, .ref q31, .ref q33, .ref q35, .ref q37, .ref q39, .ref q41, .ref q43, .int 0, .ref q45, .ref q47, .int 0, .null]) tyX8 tyX8_ok nmX8 ux_X8 rfl hX hU (hI rfl) dX8_init_199 rfl (in_app (MI_in hM23)) a23 28 rfl uf_X8_81 rfl rfl rfl rfl rfl rfl (fun f48 ef48 => ?_)
  have hM24 := MI_next hM23 hq47 ef47 ef48 rfl rfl
  refine g_aload_n (n := 203) hX dX8_init_202 rfl rfl rfl ?_
  refine g_sipush (n := 206) (v := 3000) hX dX8_init_203 rfl rfl ?_
  refine g_pnewa (n := 208) (atype := .int) (N := 3000) (a0 := (3000, .inl (fun _ => 0))) 1 ua_int rfl rfl (Or.inr (Or.inl rfl)) hX hU hY dX8_init_206 rfl (fun _ => rfl) (by decide) rfl (by decide) (by rw [hRm]; exact (Nat.le_of_ble_eq_true rfl)) (by rw [hRm]; exact (Nat.le_of_ble_eq_true rfl)) (fun q49 f49 hq49 ef49 => ?_)
  have a24 := MI_am hM24 hq49 ef49
  refine g_pputF (n := 211) (fs' := [.int 0, .int 0, .int 0, .int 0, .ref q1, .ref q3, .ref q5, .ref q7, .ref q9, .ref q11, .ref q13, .ref q15, .ref q17, .ref q19, .ref q21, .ref q23, .ref q25, .ref q27, .ref q29, .ref q31, .ref q33, .ref q35, .ref q37, .ref q39, .ref q41, .ref q43, .int 0, .ref q45, .ref q47, .int 0, .ref q49]) tyX8 tyX8_ok nmX8 ux_X8 rfl hX hU (hI rfl) dX8_init_208 rfl (in_app (MI_in hM24)) a24 30 rfl uf_X8_84 rfl rfl rfl rfl rfl rfl (fun f50 ef50 => ?_)
  have hM25 := MI_next hM24 hq49 ef49 ef50 rfl rfl
  exact g_vret hX hR dX8_init_211 ⟨rfl, _, mW_of hM25.1 hM25.2.1 hM25.2.2.1⟩

