set_option maxHeartbeats 4000000 in
set_option maxRecDepth 100000 in
theorem lp_constants {Γ : gT} {K : Nat → ClassId} {am : Nat} {A : Nat → Nat} (hX : gOk Γ cX8_constants (wM yX8_constants cX8_constants 4 none) RX8) (hE : gEv Γ) (hRm : gRm Γ = rmL 3 0 0) (hnL : gnL Γ = 4) (hY : gY Γ = yY K) (p mem : Nat) (hm : mem ≤ 6) (q : Nat) : ∀ (j i : Nat) (σ : MS), i + j = mem → Lo σ (19 * j + q) → (Lo (ap σ (catR (bNm 109) i j)) q → G Γ (mW K am A (ap σ (catR (bNm 109) i j))) 0 0 263 [(3, .int (nI mem)), (0, .ref am), (1, .int (nI p)), (2, .int (nI mem))] []) → G Γ (mW K am A σ) 0 0 241 [(3, .int (nI i)), (0, .ref am), (1, .int (nI p)), (2, .int (nI mem))] [] := by
  have hU : ∀ w ∈ wU, w ∈ wM yX8_constants cX8_constants 4 none := fun w h => wM_in h
  intro j
  induction j with
  | zero =>
    intro i σ hi hr hk0
    have hii : i = mem := by omega
    subst hii
    refine g_iload_n (n := 242) hX dX8_constants_241 rfl rfl rfl ?_
    refine g_iload_n (n := 243) hX dX8_constants_242 rfl rfl rfl ?_
    refine g_icmp_ge (n := 246) (tgt := 263) hX dX8_constants_243 rfl (by decide) (fun c243 => ?_) (fun c243 => absurd (nI_le (a := i) (b := i) (by omega) (by omega)) c243)
    exact hk0 (hr.le (by omega))
  | succ j ih =>
    intro i σ hi hr hk0
    refine g_iload_n (n := 242) hX dX8_constants_241 rfl rfl rfl ?_
    refine g_iload_n (n := 243) hX dX8_constants_242 rfl rfl rfl ?_
    refine g_icmp_ge (n := 246) (tgt := 263) hX dX8_constants_243 rfl (by decide) (fun c243 => absurd c243 (nI_ge (a := i) (b := mem) (by omega) (by omega))) (fun c243 => ?_)
    refine g_aload_n (n := 247) hX dX8_constants_246 rfl rfl rfl ?_
    refine g_bipush (n := 249) (v := 109) hX dX8_constants_247 rfl rfl ?_
    refine g_iload_n (n := 250) hX dX8_constants_249 rfl rfl rfl ?_
    refine g_callS0 (n := 253) (As := [.int 109, .int (nI i)]) (rest := [.ref am]) hX hE hU hY dX8_constants_250 rfl ys_X8_named um_X8_151 (m_named _ _ K (mW K am A σ) 109 (nI i)) ⟨rfl, rfl⟩ (rm_le hRm rfl rfl) rfl rfl (Nat.le_of_ble_eq_true rfl) ⟨Nat.zero_le _, Nat.zero_le _⟩ (fun v0 w0 hq0 => ?_)
    obtain ⟨rfl, rfl⟩ := hq0
    show G Γ (mW K am A σ) 0 0 253 [(3, .int (nI i)), (0, .ref am), (1, .int (nI p)), (2, .int (nI mem))] [.long (nmL 109 (nI i)), .ref am]
    refine g_lconst (n := 254) (v := 0) hX dX8_constants_253 rfl rfl ?_
    refine g_callV0 (n := 257) (As := [.long (nmL 109 (nI i)), .long 0]) (rest := []) hX hE hU hY dX8_constants_254 rfl yv_X8_utf um_X8_155 (m_utf _ _ K am A σ (nmL 109 (nI i)) 0 (hr.le (by omega))) ⟨rfl, rfl⟩ (rm_le hRm rfl rfl) rfl (ci := 10) (q0 := 0) rfl rfl rfl rfl (Nat.le_of_ble_eq_true rfl) ⟨Nat.zero_le _, Nat.zero_le _⟩ (fun v0 w0 hq0 => ?_)
    obtain ⟨rfl, rfl⟩ := hq0
    show G Γ (mW K am A (ap σ (bNm 109 i))) 0 0 257 [(3, .int (nI i)), (0, .ref am), (1, .int (nI p)), (2, .int (nI mem))] []
    have hr : Lo (ap σ (bNm 109 i)) (19 * j + q) := hr.app (by have := bUtf_len (nmL 109 (nI i)) 0; unfold bNm; omega)
    refine g_iinc (n := 260) (v := nI (i + 1)) (lv' := [(3, .int (nI (i + 1))), (0, .ref am), (1, .int (nI p)), (2, .int (nI mem))]) hX dX8_constants_257 rfl rfl (nI_add i 1) (by rw [hnL]; rfl) rfl ?_
    refine g_goto (n := 241) hX dX8_constants_260 (by decide) ?_
    refine g_pick (lv' := [(3, .int (nI (i + 1))), (0, .ref am), (1, .int (nI p)), (2, .int (nI mem))]) [0, 1, 2, 3] rfl ?_
    refine ih (i + 1) _ (by omega) hr ?_
    intro hr9
    rw [catR_front, ← ap_ap] at hk0
    exact hk0 hr9
set_option maxHeartbeats 4000000 in
set_option maxRecDepth 100000 in
theorem m_constants (l : Launch) (D : va_G) (K : Nat → ClassId) (am : Nat) (A : Nat → Nat) (σ : MS) (p mem : Nat) (hp : p ≤ 12) (hm : mem ≤ 6) (hr : Lo σ 460) : Mc l yX8_constants (wM yX8_constants cX8_constants 4 none) (rmL 3 0 0) D (yY K) [.ref am, .int (nI p), .int (nI mem)] (mW K am A σ) (fun v w => v = none ∧ w = mW K am A (ap σ (bConst p mem))) 0 0 := by
  refine m_start (lv := [(0, .ref am), (1, .int (nI p)), (2, .int (nI mem))]) rfl (Nat.le_of_ble_eq_true rfl) rfl (fun Γ hX hRm hnL hY hDD hLa hR hI hE => ?_)
  have hU : ∀ w ∈ wU, w ∈ wM yX8_constants cX8_constants 4 none := fun w h => wM_in h
  subst hLa
  subst hDD
  refine g_aload_n (n := 1) hX dX8_constants_0 rfl rfl rfl ?_
  refine g_bipush (n := 3) (v := 28) hX dX8_constants_1 rfl rfl ?_
  refine g_iload_n (n := 4) hX dX8_constants_3 rfl rfl rfl ?_
  refine g_iadd (n := 5) (v := nI (28 + mem)) hX dX8_constants_4 rfl (nI_add 28 mem) ?_
  refine g_callV0 (n := 8) (As := [.int (nI (28 + mem))]) (rest := []) hX hE hU hY dX8_constants_5 rfl yv_X8_u2 um_X8_142 (m_u2 _ _ K am A σ (nI (28 + mem)) (hr.le (by decide))) ⟨rfl, rfl⟩ (rm_le hRm rfl rfl) rfl (ci := 10) (q0 := 0) rfl rfl rfl rfl (Nat.le_of_ble_eq_true rfl) ⟨Nat.zero_le _, Nat.zero_le _⟩ (fun v0 w0 hq0 => ?_)
  obtain ⟨rfl, rfl⟩ := hq0
  show G Γ (mW K am A (ap σ (b2 (nI (28 + mem))))) 0 0 8 [(0, .ref am), (1, .int (nI p)), (2, .int (nI mem))] []
  have hr : Lo (ap σ (b2 (nI (28 + mem)))) 458 := hr.app (Nat.le_of_ble_eq_true rfl)
  refine g_aload_n (n := 9) hX dX8_constants_8 rfl rfl rfl ?_
  refine g_bipush (n := 11) (v := 80) hX dX8_constants_9 rfl rfl ?_
  refine g_iload_n (n := 12) hX dX8_constants_11 rfl rfl rfl ?_
  refine g_callS0 (n := 15) (As := [.int 80, .int (nI p)]) (rest := [.ref am]) hX hE hU hY dX8_constants_12 rfl ys_X8_named um_X8_151 (m_named _ _ K (mW K am A (ap σ (b2 (nI (28 + mem))))) 80 (nI p)) ⟨rfl, rfl⟩ (rm_le hRm rfl rfl) rfl rfl (Nat.le_of_ble_eq_true rfl) ⟨Nat.zero_le _, Nat.zero_le _⟩ (fun v0 w0 hq0 => ?_)
  obtain ⟨rfl, rfl⟩ := hq0
  show G Γ (mW K am A (ap σ (b2 (nI (28 + mem))))) 0 0 15 [(0, .ref am), (1, .int (nI p)), (2, .int (nI mem))] [.long (nmL 80 (nI p)), .ref am]
  refine g_lconst (n := 16) (v := 0) hX dX8_constants_15 rfl rfl ?_
  refine g_callV0 (n := 19) (As := [.long (nmL 80 (nI p)), .long 0]) (rest := []) hX hE hU hY dX8_constants_16 rfl yv_X8_utf um_X8_155 (m_utf _ _ K am A (ap σ (b2 (nI (28 + mem)))) (nmL 80 (nI p)) 0 (hr.le (by decide))) ⟨rfl, rfl⟩ (rm_le hRm rfl rfl) rfl (ci := 10) (q0 := 0) rfl rfl rfl rfl (Nat.le_of_ble_eq_true rfl) ⟨Nat.zero_le _, Nat.zero_le _⟩ (fun v0 w0 hq0 => ?_)
  obtain ⟨rfl, rfl⟩ := hq0
  show G Γ (mW K am A (ap (ap σ (b2 (nI (28 + mem)))) (bNm 80 p))) 0 0 19 [(0, .ref am), (1, .int (nI p)), (2, .int (nI mem))] []
  have hr : Lo (ap (ap σ (b2 (nI (28 + mem)))) (bNm 80 p)) 439 := hr.app (by have := bUtf_len (nmL 80 (nI p)) 0; unfold bNm; omega)
  refine g_aload_n (n := 20) hX dX8_constants_19 rfl rfl rfl ?_
  refine g_iconst (n := 21) (v := 1) hX dX8_constants_20 rfl rfl ?_
  refine g_callV0 (n := 24) (As := [.int 1]) (rest := []) hX hE hU hY dX8_constants_21 rfl yv_X8_classed um_X8_159 (m_classed _ _ K am A (ap (ap σ (b2 (nI (28 + mem)))) (bNm 80 p)) 1 (hr.le (by decide))) ⟨rfl, rfl⟩ (rm_le hRm rfl rfl) rfl (ci := 10) (q0 := 0) rfl rfl rfl rfl (Nat.le_of_ble_eq_true rfl) ⟨Nat.zero_le _, Nat.zero_le _⟩ (fun v0 w0 hq0 => ?_)
  obtain ⟨rfl, rfl⟩ := hq0
  show G Γ (mW K am A (ap (ap (ap σ (b2 (nI (28 + mem)))) (bNm 80 p)) (bClassed 1))) 0 0 24 [(0, .ref am), (1, .int (nI p)), (2, .int (nI mem))] []
  have hr : Lo (ap (ap (ap σ (b2 (nI (28 + mem)))) (bNm 80 p)) (bClassed 1)) 436 := hr.app (Nat.le_of_ble_eq_true rfl)
  refine g_aload_n (n := 25) hX dX8_constants_24 rfl rfl rfl ?_
  refine g_ldc2 (n := 28) (v := 7665538200540832110) hX dX8_constants_25 rfl (hU _ uk_X8_162) ?_
  refine g_ldc2 (n := 31) (v := 7435248793922397044) hX dX8_constants_28 rfl (hU _ uk_X8_164) ?_
  refine g_callV0 (n := 34) (As := [.long 7665538200540832110, .long 7435248793922397044]) (rest := []) hX hE hU hY dX8_constants_31 rfl yv_X8_utf um_X8_155 (m_utf _ _ K am A (ap (ap (ap σ (b2 (nI (28 + mem)))) (bNm 80 p)) (bClassed 1)) 7665538200540832110 7435248793922397044 (hr.le (by decide))) ⟨rfl, rfl⟩ (rm_le hRm rfl rfl) rfl (ci := 10) (q0 := 0) rfl rfl rfl rfl (Nat.le_of_ble_eq_true rfl) ⟨Nat.zero_le _, Nat.zero_le _⟩ (fun v0 w0 hq0 => ?_)
  obtain ⟨rfl, rfl⟩ := hq0
  show G Γ (mW K am A (ap (ap (ap (ap σ (b2 (nI (28 + mem)))) (bNm 80 p)) (bClassed 1)) (bUtf 7665538200540832110 7435248793922397044))) 0 0 34 [(0, .ref am), (1, .int (nI p)), (2, .int (nI mem))] []
  have hr : Lo (ap (ap (ap (ap σ (b2 (nI (28 + mem)))) (bNm 80 p)) (bClassed 1)) (bUtf 7665538200540832110 7435248793922397044)) 417 := hr.app (by have := bUtf_len 7665538200540832110 7435248793922397044; omega)
  refine g_aload_n (n := 35) hX dX8_constants_34 rfl rfl rfl ?_
  refine g_iconst (n := 36) (v := 3) hX dX8_constants_35 rfl rfl ?_
  refine g_callV0 (n := 39) (As := [.int 3]) (rest := []) hX hE hU hY dX8_constants_36 rfl yv_X8_classed um_X8_159 (m_classed _ _ K am A (ap (ap (ap (ap σ (b2 (nI (28 + mem)))) (bNm 80 p)) (bClassed 1)) (bUtf 7665538200540832110 7435248793922397044)) 3 (hr.le (by decide))) ⟨rfl, rfl⟩ (rm_le hRm rfl rfl) rfl (ci := 10) (q0 := 0) rfl rfl rfl rfl (Nat.le_of_ble_eq_true rfl) ⟨Nat.zero_le _, Nat.zero_le _⟩ (fun v0 w0 hq0 => ?_)
  obtain ⟨rfl, rfl⟩ := hq0
  show G Γ (mW K am A (ap (ap (ap (ap (ap σ (b2 (nI (28 + mem)))) (bNm 80 p)) (bClassed 1)) (bUtf 7665538200540832110 7435248793922397044)) (bClassed 3))) 0 0 39 [(0, .ref am), (1, .int (nI p)), (2, .int (nI mem))] []
  have hr : Lo (ap (ap (ap (ap (ap σ (b2 (nI (28 + mem)))) (bNm 80 p)) (bClassed 1)) (bUtf 7665538200540832110 7435248793922397044)) (bClassed 3)) 414 := hr.app (Nat.le_of_ble_eq_true rfl)
  refine g_aload_n (n := 40) hX dX8_constants_39 rfl rfl rfl ?_
  refine g_ldc2 (n := 43) (v := 87) hX dX8_constants_40 rfl (hU _ uk_X8_166) ?_
  refine g_lconst (n := 44) (v := 0) hX dX8_constants_43 rfl rfl ?_
  refine g_callV0 (n := 47) (As := [.long 87, .long 0]) (rest := []) hX hE hU hY dX8_constants_44 rfl yv_X8_utf um_X8_155 (m_utf _ _ K am A (ap (ap (ap (ap (ap σ (b2 (nI (28 + mem)))) (bNm 80 p)) (bClassed 1)) (bUtf 7665538200540832110 7435248793922397044)) (bClassed 3)) 87 0 (hr.le (by decide))) ⟨rfl, rfl⟩ (rm_le hRm rfl rfl) rfl (ci := 10) (q0 := 0) rfl rfl rfl rfl (Nat.le_of_ble_eq_true rfl) ⟨Nat.zero_le _, Nat.zero_le _⟩ (fun v0 w0 hq0 => ?_)
  obtain ⟨rfl, rfl⟩ := hq0
  show G Γ (mW K am A (ap (ap (ap (ap (ap (ap σ (b2 (nI (28 + mem)))) (bNm 80 p)) (bClassed 1)) (bUtf 7665538200540832110 7435248793922397044)) (bClassed 3)) (bUtf 87 0))) 0 0 47 [(0, .ref am), (1, .int (nI p)), (2, .int (nI mem))] []
  have hr : Lo (ap (ap (ap (ap (ap (ap σ (b2 (nI (28 + mem)))) (bNm 80 p)) (bClassed 1)) (bUtf 7665538200540832110 7435248793922397044)) (bClassed 3)) (bUtf 87 0)) 395 := hr.app (by have := bUtf_len 87 0; omega)
  refine g_aload_n (n := 48) hX dX8_constants_47 rfl rfl rfl ?_
  refine g_ldc2 (n := 51) (v := 23362) hX dX8_constants_48 rfl (hU _ uk_X8_168) ?_
  refine g_lconst (n := 52) (v := 0) hX dX8_constants_51 rfl rfl ?_
  refine g_callV0 (n := 55) (As := [.long 23362, .long 0]) (rest := []) hX hE hU hY dX8_constants_52 rfl yv_X8_utf um_X8_155 (m_utf _ _ K am A (ap (ap (ap (ap (ap (ap σ (b2 (nI (28 + mem)))) (bNm 80 p)) (bClassed 1)) (bUtf 7665538200540832110 7435248793922397044)) (bClassed 3)) (bUtf 87 0)) 23362 0 (hr.le (by decide))) ⟨rfl, rfl⟩ (rm_le hRm rfl rfl) rfl (ci := 10) (q0 := 0) rfl rfl rfl rfl (Nat.le_of_ble_eq_true rfl) ⟨Nat.zero_le _, Nat.zero_le _⟩ (fun v0 w0 hq0 => ?_)
  obtain ⟨rfl, rfl⟩ := hq0
  show G Γ (mW K am A (ap (ap (ap (ap (ap (ap (ap σ (b2 (nI (28 + mem)))) (bNm 80 p)) (bClassed 1)) (bUtf 7665538200540832110 7435248793922397044)) (bClassed 3)) (bUtf 87 0)) (bUtf 23362 0))) 0 0 55 [(0, .ref am), (1, .int (nI p)), (2, .int (nI mem))] []
  have hr : Lo (ap (ap (ap (ap (ap (ap (ap σ (b2 (nI (28 + mem)))) (bNm 80 p)) (bClassed 1)) (bUtf 7665538200540832110 7435248793922397044)) (bClassed 3)) (bUtf 87 0)) (bUtf 23362 0)) 376 := hr.app (by have := bUtf_len 23362 0; omega)
  refine g_aload_n (n := 56) hX dX8_constants_55 rfl rfl rfl ?_
  refine g_bipush (n := 58) (v := 12) hX dX8_constants_56 rfl rfl ?_
  refine g_iconst (n := 59) (v := 5) hX dX8_constants_58 rfl rfl ?_
  refine g_bipush (n := 61) (v := 6) hX dX8_constants_59 rfl rfl ?_
  refine g_callV0 (n := 64) (As := [.int 12, .int 5, .int 6]) (rest := []) hX hE hU hY dX8_constants_61 rfl yv_X8_pair um_X8_170 (m_pair _ _ K am A (ap (ap (ap (ap (ap (ap (ap σ (b2 (nI (28 + mem)))) (bNm 80 p)) (bClassed 1)) (bUtf 7665538200540832110 7435248793922397044)) (bClassed 3)) (bUtf 87 0)) (bUtf 23362 0)) 12 5 6 (hr.le (by decide))) ⟨rfl, rfl⟩ (rm_le hRm rfl rfl) rfl (ci := 10) (q0 := 0) rfl rfl rfl rfl (Nat.le_of_ble_eq_true rfl) ⟨Nat.zero_le _, Nat.zero_le _⟩ (fun v0 w0 hq0 => ?_)
  obtain ⟨rfl, rfl⟩ := hq0
  show G Γ (mW K am A (ap (ap (ap (ap (ap (ap (ap (ap σ (b2 (nI (28 + mem)))) (bNm 80 p)) (bClassed 1)) (bUtf 7665538200540832110 7435248793922397044)) (bClassed 3)) (bUtf 87 0)) (bUtf 23362 0)) (bPair 12 5 6))) 0 0 64 [(0, .ref am), (1, .int (nI p)), (2, .int (nI mem))] []
  have hr : Lo (ap (ap (ap (ap (ap (ap (ap (ap σ (b2 (nI (28 + mem)))) (bNm 80 p)) (bClassed 1)) (bUtf 7665538200540832110 7435248793922397044)) (bClassed 3)) (bUtf 87 0)) (bUtf 23362 0)) (bPair 12 5 6)) 371 := hr.app (Nat.le_of_ble_eq_true rfl)
  refine g_aload_n (n := 65) hX dX8_constants_64 rfl rfl rfl ?_
  refine g_bipush (n := 67) (v := 9) hX dX8_constants_65 rfl rfl ?_
  refine g_iconst (n := 68) (v := 2) hX dX8_constants_67 rfl rfl ?_
  refine g_bipush (n := 70) (v := 7) hX dX8_constants_68 rfl rfl ?_
  refine g_callV0 (n := 73) (As := [.int 9, .int 2, .int 7]) (rest := []) hX hE hU hY dX8_constants_70 rfl yv_X8_pair um_X8_170 (m_pair _ _ K am A (ap (ap (ap (ap (ap (ap (ap (ap σ (b2 (nI (28 + mem)))) (bNm 80 p)) (bClassed 1)) (bUtf 7665538200540832110 7435248793922397044)) (bClassed 3)) (bUtf 87 0)) (bUtf 23362 0)) (bPair 12 5 6)) 9 2 7 (hr.le (by decide))) ⟨rfl, rfl⟩ (rm_le hRm rfl rfl) rfl (ci := 10) (q0 := 0) rfl rfl rfl rfl (Nat.le_of_ble_eq_true rfl) ⟨Nat.zero_le _, Nat.zero_le _⟩ (fun v0 w0 hq0 => ?_)
  obtain ⟨rfl, rfl⟩ := hq0
  show G Γ (mW K am A (ap (ap (ap (ap (ap (ap (ap (ap (ap σ (b2 (nI (28 + mem)))) (bNm 80 p)) (bClassed 1)) (bUtf 7665538200540832110 7435248793922397044)) (bClassed 3)) (bUtf 87 0)) (bUtf 23362 0)) (bPair 12 5 6)) (bPair 9 2 7))) 0 0 73 [(0, .ref am), (1, .int (nI p)), (2, .int (nI mem))] []
  have hr : Lo (ap (ap (ap (ap (ap (ap (ap (ap (ap σ (b2 (nI (28 + mem)))) (bNm 80 p)) (bClassed 1)) (bUtf 7665538200540832110 7435248793922397044)) (bClassed 3)) (bUtf 87 0)) (bUtf 23362 0)) (bPair 12 5 6)) (bPair 9 2 7)) 366 := hr.app (Nat.le_of_ble_eq_true rfl)
  refine g_aload_n (n := 74) hX dX8_constants_73 rfl rfl rfl ?_
  refine g_ldc2 (n := 77) (v := 75) hX dX8_constants_74 rfl (hU _ uk_X8_174) ?_
  refine g_lconst (n := 78) (v := 0) hX dX8_constants_77 rfl rfl ?_
  refine g_callV0 (n := 81) (As := [.long 75, .long 0]) (rest := []) hX hE hU hY dX8_constants_78 rfl yv_X8_utf um_X8_155 (m_utf _ _ K am A (ap (ap (ap (ap (ap (ap (ap (ap (ap σ (b2 (nI (28 + mem)))) (bNm 80 p)) (bClassed 1)) (bUtf 7665538200540832110 7435248793922397044)) (bClassed 3)) (bUtf 87 0)) (bUtf 23362 0)) (bPair 12 5 6)) (bPair 9 2 7)) 75 0 (hr.le (by decide))) ⟨rfl, rfl⟩ (rm_le hRm rfl rfl) rfl (ci := 10) (q0 := 0) rfl rfl rfl rfl (Nat.le_of_ble_eq_true rfl) ⟨Nat.zero_le _, Nat.zero_le _⟩ (fun v0 w0 hq0 => ?_)
  obtain ⟨rfl, rfl⟩ := hq0
  show G Γ (mW K am A (ap (ap (ap (ap (ap (ap (ap (ap (ap (ap σ (b2 (nI (28 + mem)))) (bNm 80 p)) (bClassed 1)) (bUtf 7665538200540832110 7435248793922397044)) (bClassed 3)) (bUtf 87 0)) (bUtf 23362 0)) (bPair 12 5 6)) (bPair 9 2 7)) (bUtf 75 0))) 0 0 81 [(0, .ref am), (1, .int (nI p)), (2, .int (nI mem))] []
  have hr : Lo (ap (ap (ap (ap (ap (ap (ap (ap (ap (ap σ (b2 (nI (28 + mem)))) (bNm 80 p)) (bClassed 1)) (bUtf 7665538200540832110 7435248793922397044)) (bClassed 3)) (bUtf 87 0)) (bUtf 23362 0)) (bPair 12 5 6)) (bPair 9 2 7)) (bUtf 75 0)) 347 := hr.app (by have := bUtf_len 75 0; omega)
  refine g_aload_n (n := 82) hX dX8_constants_81 rfl rfl rfl ?_
  refine g_bipush (n := 84) (v := 9) hX dX8_constants_82 rfl rfl ?_
  refine g_callV0 (n := 87) (As := [.int 9]) (rest := []) hX hE hU hY dX8_constants_84 rfl yv_X8_classed um_X8_159 (m_classed _ _ K am A (ap (ap (ap (ap (ap (ap (ap (ap (ap (ap σ (b2 (nI (28 + mem)))) (bNm 80 p)) (bClassed 1)) (bUtf 7665538200540832110 7435248793922397044)) (bClassed 3)) (bUtf 87 0)) (bUtf 23362 0)) (bPair 12 5 6)) (bPair 9 2 7)) (bUtf 75 0)) 9 (hr.le (by decide))) ⟨rfl, rfl⟩ (rm_le hRm rfl rfl) rfl (ci := 10) (q0 := 0) rfl rfl rfl rfl (Nat.le_of_ble_eq_true rfl) ⟨Nat.zero_le _, Nat.zero_le _⟩ (fun v0 w0 hq0 => ?_)
  obtain ⟨rfl, rfl⟩ := hq0
  show G Γ (mW K am A (ap (ap (ap (ap (ap (ap (ap (ap (ap (ap (ap σ (b2 (nI (28 + mem)))) (bNm 80 p)) (bClassed 1)) (bUtf 7665538200540832110 7435248793922397044)) (bClassed 3)) (bUtf 87 0)) (bUtf 23362 0)) (bPair 12 5 6)) (bPair 9 2 7)) (bUtf 75 0)) (bClassed 9))) 0 0 87 [(0, .ref am), (1, .int (nI p)), (2, .int (nI mem))] []
  have hr : Lo (ap (ap (ap (ap (ap (ap (ap (ap (ap (ap (ap σ (b2 (nI (28 + mem)))) (bNm 80 p)) (bClassed 1)) (bUtf 7665538200540832110 7435248793922397044)) (bClassed 3)) (bUtf 87 0)) (bUtf 23362 0)) (bPair 12 5 6)) (bPair 9 2 7)) (bUtf 75 0)) (bClassed 9)) 344 := hr.app (Nat.le_of_ble_eq_true rfl)
  refine g_aload_n (n := 88) hX dX8_constants_87 rfl rfl rfl ?_
  refine g_ldc2 (n := 91) (v := 1667329132) hX dX8_constants_88 rfl (hU _ uk_X8_176) ?_
  refine g_lconst (n := 92) (v := 0) hX dX8_constants_91 rfl rfl ?_
  refine g_callV0 (n := 95) (As := [.long 1667329132, .long 0]) (rest := []) hX hE hU hY dX8_constants_92 rfl yv_X8_utf um_X8_155 (m_utf _ _ K am A (ap (ap (ap (ap (ap (ap (ap (ap (ap (ap (ap σ (b2 (nI (28 + mem)))) (bNm 80 p)) (bClassed 1)) (bUtf 7665538200540832110 7435248793922397044)) (bClassed 3)) (bUtf 87 0)) (bUtf 23362 0)) (bPair 12 5 6)) (bPair 9 2 7)) (bUtf 75 0)) (bClassed 9)) 1667329132 0 (hr.le (by decide))) ⟨rfl, rfl⟩ (rm_le hRm rfl rfl) rfl (ci := 10) (q0 := 0) rfl rfl rfl rfl (Nat.le_of_ble_eq_true rfl) ⟨Nat.zero_le _, Nat.zero_le _⟩ (fun v0 w0 hq0 => ?_)
  obtain ⟨rfl, rfl⟩ := hq0
  show G Γ (mW K am A (ap (ap (ap (ap (ap (ap (ap (ap (ap (ap (ap (ap σ (b2 (nI (28 + mem)))) (bNm 80 p)) (bClassed 1)) (bUtf 7665538200540832110 7435248793922397044)) (bClassed 3)) (bUtf 87 0)) (bUtf 23362 0)) (bPair 12 5 6)) (bPair 9 2 7)) (bUtf 75 0)) (bClassed 9)) (bUtf 1667329132 0))) 0 0 95 [(0, .ref am), (1, .int (nI p)), (2, .int (nI mem))] []
  have hr : Lo (ap (ap (ap (ap (ap (ap (ap (ap (ap (ap (ap (ap σ (b2 (nI (28 + mem)))) (bNm 80 p)) (bClassed 1)) (bUtf 7665538200540832110 7435248793922397044)) (bClassed 3)) (bUtf 87 0)) (bUtf 23362 0)) (bPair 12 5 6)) (bPair 9 2 7)) (bUtf 75 0)) (bClassed 9)) (bUtf 1667329132 0)) 325 := hr.app (by have := bUtf_len 1667329132 0; omega)
  refine g_aload_n (n := 96) hX dX8_constants_95 rfl rfl rfl ?_
  refine g_ldc2 (n := 99) (v := 675883350) hX dX8_constants_96 rfl (hU _ uk_X8_178) ?_
  refine g_lconst (n := 100) (v := 0) hX dX8_constants_99 rfl rfl ?_
  refine g_callV0 (n := 103) (As := [.long 675883350, .long 0]) (rest := []) hX hE hU hY dX8_constants_100 rfl yv_X8_utf um_X8_155 (m_utf _ _ K am A (ap (ap (ap (ap (ap (ap (ap (ap (ap (ap (ap (ap σ (b2 (nI (28 + mem)))) (bNm 80 p)) (bClassed 1)) (bUtf 7665538200540832110 7435248793922397044)) (bClassed 3)) (bUtf 87 0)) (bUtf 23362 0)) (bPair 12 5 6)) (bPair 9 2 7)) (bUtf 75 0)) (bClassed 9)) (bUtf 1667329132 0)) 675883350 0 (hr.le (by decide))) ⟨rfl, rfl⟩ (rm_le hRm rfl rfl) rfl (ci := 10) (q0 := 0) rfl rfl rfl rfl (Nat.le_of_ble_eq_true rfl) ⟨Nat.zero_le _, Nat.zero_le _⟩ (fun v0 w0 hq0 => ?_)
  obtain ⟨rfl, rfl⟩ := hq0
  show G Γ (mW K am A (ap (ap (ap (ap (ap (ap (ap (ap (ap (ap (ap (ap (ap σ (b2 (nI (28 + mem)))) (bNm 80 p)) (bClassed 1)) (bUtf 7665538200540832110 7435248793922397044)) (bClassed 3)) (bUtf 87 0)) (bUtf 23362 0)) (bPair 12 5 6)) (bPair 9 2 7)) (bUtf 75 0)) (bClassed 9)) (bUtf 1667329132 0)) (bUtf 675883350 0))) 0 0 103 [(0, .ref am), (1, .int (nI p)), (2, .int (nI mem))] []
  have hr : Lo (ap (ap (ap (ap (ap (ap (ap (ap (ap (ap (ap (ap (ap σ (b2 (nI (28 + mem)))) (bNm 80 p)) (bClassed 1)) (bUtf 7665538200540832110 7435248793922397044)) (bClassed 3)) (bUtf 87 0)) (bUtf 23362 0)) (bPair 12 5 6)) (bPair 9 2 7)) (bUtf 75 0)) (bClassed 9)) (bUtf 1667329132 0)) (bUtf 675883350 0)) 306 := hr.app (by have := bUtf_len 675883350 0; omega)
  refine g_aload_n (n := 104) hX dX8_constants_103 rfl rfl rfl ?_
  refine g_bipush (n := 106) (v := 12) hX dX8_constants_104 rfl rfl ?_
  refine g_bipush (n := 108) (v := 11) hX dX8_constants_106 rfl rfl ?_
  refine g_bipush (n := 110) (v := 12) hX dX8_constants_108 rfl rfl ?_
  refine g_callV0 (n := 113) (As := [.int 12, .int 11, .int 12]) (rest := []) hX hE hU hY dX8_constants_110 rfl yv_X8_pair um_X8_170 (m_pair _ _ K am A (ap (ap (ap (ap (ap (ap (ap (ap (ap (ap (ap (ap (ap σ (b2 (nI (28 + mem)))) (bNm 80 p)) (bClassed 1)) (bUtf 7665538200540832110 7435248793922397044)) (bClassed 3)) (bUtf 87 0)) (bUtf 23362 0)) (bPair 12 5 6)) (bPair 9 2 7)) (bUtf 75 0)) (bClassed 9)) (bUtf 1667329132 0)) (bUtf 675883350 0)) 12 11 12 (hr.le (by decide))) ⟨rfl, rfl⟩ (rm_le hRm rfl rfl) rfl (ci := 10) (q0 := 0) rfl rfl rfl rfl (Nat.le_of_ble_eq_true rfl) ⟨Nat.zero_le _, Nat.zero_le _⟩ (fun v0 w0 hq0 => ?_)
  obtain ⟨rfl, rfl⟩ := hq0
  show G Γ (mW K am A (ap (ap (ap (ap (ap (ap (ap (ap (ap (ap (ap (ap (ap (ap σ (b2 (nI (28 + mem)))) (bNm 80 p)) (bClassed 1)) (bUtf 7665538200540832110 7435248793922397044)) (bClassed 3)) (bUtf 87 0)) (bUtf 23362 0)) (bPair 12 5 6)) (bPair 9 2 7)) (bUtf 75 0)) (bClassed 9)) (bUtf 1667329132 0)) (bUtf 675883350 0)) (bPair 12 11 12))) 0 0 113 [(0, .ref am), (1, .int (nI p)), (2, .int (nI mem))] []
  have hr : Lo (ap (ap (ap (ap (ap (ap (ap (ap (ap (ap (ap (ap (ap (ap σ (b2 (nI (28 + mem)))) (bNm 80 p)) (bClassed 1)) (bUtf 7665538200540832110 7435248793922397044)) (bClassed 3)) (bUtf 87 0)) (bUtf 23362 0)) (bPair 12 5 6)) (bPair 9 2 7)) (bUtf 75 0)) (bClassed 9)) (bUtf 1667329132 0)) (bUtf 675883350 0)) (bPair 12 11 12)) 301 := hr.app (Nat.le_of_ble_eq_true rfl)
  refine g_aload_n (n := 114) hX dX8_constants_113 rfl rfl rfl ?_
  refine g_bipush (n := 116) (v := 10) hX dX8_constants_114 rfl rfl ?_
  refine g_bipush (n := 118) (v := 10) hX dX8_constants_116 rfl rfl ?_
  refine g_bipush (n := 120) (v := 13) hX dX8_constants_118 rfl rfl ?_
  refine g_callV0 (n := 123) (As := [.int 10, .int 10, .int 13]) (rest := []) hX hE hU hY dX8_constants_120 rfl yv_X8_pair um_X8_170 (m_pair _ _ K am A (ap (ap (ap (ap (ap (ap (ap (ap (ap (ap (ap (ap (ap (ap σ (b2 (nI (28 + mem)))) (bNm 80 p)) (bClassed 1)) (bUtf 7665538200540832110 7435248793922397044)) (bClassed 3)) (bUtf 87 0)) (bUtf 23362 0)) (bPair 12 5 6)) (bPair 9 2 7)) (bUtf 75 0)) (bClassed 9)) (bUtf 1667329132 0)) (bUtf 675883350 0)) (bPair 12 11 12)) 10 10 13 (hr.le (by decide))) ⟨rfl, rfl⟩ (rm_le hRm rfl rfl) rfl (ci := 10) (q0 := 0) rfl rfl rfl rfl (Nat.le_of_ble_eq_true rfl) ⟨Nat.zero_le _, Nat.zero_le _⟩ (fun v0 w0 hq0 => ?_)
  obtain ⟨rfl, rfl⟩ := hq0
  show G Γ (mW K am A (ap (ap (ap (ap (ap (ap (ap (ap (ap (ap (ap (ap (ap (ap (ap σ (b2 (nI (28 + mem)))) (bNm 80 p)) (bClassed 1)) (bUtf 7665538200540832110 7435248793922397044)) (bClassed 3)) (bUtf 87 0)) (bUtf 23362 0)) (bPair 12 5 6)) (bPair 9 2 7)) (bUtf 75 0)) (bClassed 9)) (bUtf 1667329132 0)) (bUtf 675883350 0)) (bPair 12 11 12)) (bPair 10 10 13))) 0 0 123 [(0, .ref am), (1, .int (nI p)), (2, .int (nI mem))] []
  have hr : Lo (ap (ap (ap (ap (ap (ap (ap (ap (ap (ap (ap (ap (ap (ap (ap σ (b2 (nI (28 + mem)))) (bNm 80 p)) (bClassed 1)) (bUtf 7665538200540832110 7435248793922397044)) (bClassed 3)) (bUtf 87 0)) (bUtf 23362 0)) (bPair 12 5 6)) (bPair 9 2 7)) (bUtf 75 0)) (bClassed 9)) (bUtf 1667329132 0)) (bUtf 675883350 0)) (bPair 12 11 12)) (bPair 10 10 13)) 296 := hr.app (Nat.le_of_ble_eq_true rfl)
  refine g_aload_n (n := 124) hX dX8_constants_123 rfl rfl rfl ?_
  refine g_ldc2 (n := 127) (v := 1835102827) hX dX8_constants_124 rfl (hU _ uk_X8_180) ?_
  refine g_lconst (n := 128) (v := 0) hX dX8_constants_127 rfl rfl ?_
  refine g_callV0 (n := 131) (As := [.long 1835102827, .long 0]) (rest := []) hX hE hU hY dX8_constants_128 rfl yv_X8_utf um_X8_155 (m_utf _ _ K am A (ap (ap (ap (ap (ap (ap (ap (ap (ap (ap (ap (ap (ap (ap (ap σ (b2 (nI (28 + mem)))) (bNm 80 p)) (bClassed 1)) (bUtf 7665538200540832110 7435248793922397044)) (bClassed 3)) (bUtf 87 0)) (bUtf 23362 0)) (bPair 12 5 6)) (bPair 9 2 7)) (bUtf 75 0)) (bClassed 9)) (bUtf 1667329132 0)) (bUtf 675883350 0)) (bPair 12 11 12)) (bPair 10 10 13)) 1835102827 0 (hr.le (by decide))) ⟨rfl, rfl⟩ (rm_le hRm rfl rfl) rfl (ci := 10) (q0 := 0) rfl rfl rfl rfl (Nat.le_of_ble_eq_true rfl) ⟨Nat.zero_le _, Nat.zero_le _⟩ (fun v0 w0 hq0 => ?_)
  obtain ⟨rfl, rfl⟩ := hq0
  show G Γ (mW K am A (ap (ap (ap (ap (ap (ap (ap (ap (ap (ap (ap (ap (ap (ap (ap (ap σ (b2 (nI (28 + mem)))) (bNm 80 p)) (bClassed 1)) (bUtf 7665538200540832110 7435248793922397044)) (bClassed 3)) (bUtf 87 0)) (bUtf 23362 0)) (bPair 12 5 6)) (bPair 9 2 7)) (bUtf 75 0)) (bClassed 9)) (bUtf 1667329132 0)) (bUtf 675883350 0)) (bPair 12 11 12)) (bPair 10 10 13)) (bUtf 1835102827 0))) 0 0 131 [(0, .ref am), (1, .int (nI p)), (2, .int (nI mem))] []
  have hr : Lo (ap (ap (ap (ap (ap (ap (ap (ap (ap (ap (ap (ap (ap (ap (ap (ap σ (b2 (nI (28 + mem)))) (bNm 80 p)) (bClassed 1)) (bUtf 7665538200540832110 7435248793922397044)) (bClassed 3)) (bUtf 87 0)) (bUtf 23362 0)) (bPair 12 5 6)) (bPair 9 2 7)) (bUtf 75 0)) (bClassed 9)) (bUtf 1667329132 0)) (bUtf 675883350 0)) (bPair 12 11 12)) (bPair 10 10 13)) (bUtf 1835102827 0)) 277 := hr.app (by have := bUtf_len 1835102827 0; omega)
  refine g_aload_n (n := 132) hX dX8_constants_131 rfl rfl rfl ?_
  refine g_bipush (n := 134) (v := 12) hX dX8_constants_132 rfl rfl ?_
  refine g_bipush (n := 136) (v := 15) hX dX8_constants_134 rfl rfl ?_
  refine g_bipush (n := 138) (v := 12) hX dX8_constants_136 rfl rfl ?_
  refine g_callV0 (n := 141) (As := [.int 12, .int 15, .int 12]) (rest := []) hX hE hU hY dX8_constants_138 rfl yv_X8_pair um_X8_170 (m_pair _ _ K am A (ap (ap (ap (ap (ap (ap (ap (ap (ap (ap (ap (ap (ap (ap (ap (ap σ (b2 (nI (28 + mem)))) (bNm 80 p)) (bClassed 1)) (bUtf 7665538200540832110 7435248793922397044)) (bClassed 3)) (bUtf 87 0)) (bUtf 23362 0)) (bPair 12 5 6)) (bPair 9 2 7)) (bUtf 75 0)) (bClassed 9)) (bUtf 1667329132 0)) (bUtf 675883350 0)) (bPair 12 11 12)) (bPair 10 10 13)) (bUtf 1835102827 0)) 12 15 12 (hr.le (by decide))) ⟨rfl, rfl⟩ (rm_le hRm rfl rfl) rfl (ci := 10) (q0 := 0) rfl rfl rfl rfl (Nat.le_of_ble_eq_true rfl) ⟨Nat.zero_le _, Nat.zero_le _⟩ (fun v0 w0 hq0 => ?_)
  obtain ⟨rfl, rfl⟩ := hq0
  show G Γ (mW K am A (ap (ap (ap (ap (ap (ap (ap (ap (ap (ap (ap (ap (ap (ap (ap (ap (ap σ (b2 (nI (28 + mem)))) (bNm 80 p)) (bClassed 1)) (bUtf 7665538200540832110 7435248793922397044)) (bClassed 3)) (bUtf 87 0)) (bUtf 23362 0)) (bPair 12 5 6)) (bPair 9 2 7)) (bUtf 75 0)) (bClassed 9)) (bUtf 1667329132 0)) (bUtf 675883350 0)) (bPair 12 11 12)) (bPair 10 10 13)) (bUtf 1835102827 0)) (bPair 12 15 12))) 0 0 141 [(0, .ref am), (1, .int (nI p)), (2, .int (nI mem))] []
  have hr : Lo (ap (ap (ap (ap (ap (ap (ap (ap (ap (ap (ap (ap (ap (ap (ap (ap (ap σ (b2 (nI (28 + mem)))) (bNm 80 p)) (bClassed 1)) (bUtf 7665538200540832110 7435248793922397044)) (bClassed 3)) (bUtf 87 0)) (bUtf 23362 0)) (bPair 12 5 6)) (bPair 9 2 7)) (bUtf 75 0)) (bClassed 9)) (bUtf 1667329132 0)) (bUtf 675883350 0)) (bPair 12 11 12)) (bPair 10 10 13)) (bUtf 1835102827 0)) (bPair 12 15 12)) 272 := hr.app (Nat.le_of_ble_eq_true rfl)
  refine g_aload_n (n := 142) hX dX8_constants_141 rfl rfl rfl ?_
  refine g_bipush (n := 144) (v := 10) hX dX8_constants_142 rfl rfl ?_
  refine g_bipush (n := 146) (v := 10) hX dX8_constants_144 rfl rfl ?_
  refine g_bipush (n := 148) (v := 16) hX dX8_constants_146 rfl rfl ?_
  refine g_callV0 (n := 151) (As := [.int 10, .int 10, .int 16]) (rest := []) hX hE hU hY dX8_constants_148 rfl yv_X8_pair um_X8_170 (m_pair _ _ K am A (ap (ap (ap (ap (ap (ap (ap (ap (ap (ap (ap (ap (ap (ap (ap (ap (ap σ (b2 (nI (28 + mem)))) (bNm 80 p)) (bClassed 1)) (bUtf 7665538200540832110 7435248793922397044)) (bClassed 3)) (bUtf 87 0)) (bUtf 23362 0)) (bPair 12 5 6)) (bPair 9 2 7)) (bUtf 75 0)) (bClassed 9)) (bUtf 1667329132 0)) (bUtf 675883350 0)) (bPair 12 11 12)) (bPair 10 10 13)) (bUtf 1835102827 0)) (bPair 12 15 12)) 10 10 16 (hr.le (by decide))) ⟨rfl, rfl⟩ (rm_le hRm rfl rfl) rfl (ci := 10) (q0 := 0) rfl rfl rfl rfl (Nat.le_of_ble_eq_true rfl) ⟨Nat.zero_le _, Nat.zero_le _⟩ (fun v0 w0 hq0 => ?_)
  obtain ⟨rfl, rfl⟩ := hq0
  show G Γ (mW K am A (ap (ap (ap (ap (ap (ap (ap (ap (ap (ap (ap (ap (ap (ap (ap (ap (ap (ap σ (b2 (nI (28 + mem)))) (bNm 80 p)) (bClassed 1)) (bUtf 7665538200540832110 7435248793922397044)) (bClassed 3)) (bUtf 87 0)) (bUtf 23362 0)) (bPair 12 5 6)) (bPair 9 2 7)) (bUtf 75 0)) (bClassed 9)) (bUtf 1667329132 0)) (bUtf 675883350 0)) (bPair 12 11 12)) (bPair 10 10 13)) (bUtf 1835102827 0)) (bPair 12 15 12)) (bPair 10 10 16))) 0 0 151 [(0, .ref am), (1, .int (nI p)), (2, .int (nI mem))] []
  have hr : Lo (ap (ap (ap (ap (ap (ap (ap (ap (ap (ap (ap (ap (ap (ap (ap (ap (ap (ap σ (b2 (nI (28 + mem)))) (bNm 80 p)) (bClassed 1)) (bUtf 7665538200540832110 7435248793922397044)) (bClassed 3)) (bUtf 87 0)) (bUtf 23362 0)) (bPair 12 5 6)) (bPair 9 2 7)) (bUtf 75 0)) (bClassed 9)) (bUtf 1667329132 0)) (bUtf 675883350 0)) (bPair 12 11 12)) (bPair 10 10 13)) (bUtf 1835102827 0)) (bPair 12 15 12)) (bPair 10 10 16)) 267 := hr.app (Nat.le_of_ble_eq_true rfl)
  refine g_aload_n (n := 152) hX dX8_constants_151 rfl rfl rfl ?_
  refine g_ldc2 (n := 155) (v := 1937010544) hX dX8_constants_152 rfl (hU _ uk_X8_182) ?_
  refine g_lconst (n := 156) (v := 0) hX dX8_constants_155 rfl rfl ?_
  refine g_callV0 (n := 159) (As := [.long 1937010544, .long 0]) (rest := []) hX hE hU hY dX8_constants_156 rfl yv_X8_utf um_X8_155 (m_utf _ _ K am A (ap (ap (ap (ap (ap (ap (ap (ap (ap (ap (ap (ap (ap (ap (ap (ap (ap (ap σ (b2 (nI (28 + mem)))) (bNm 80 p)) (bClassed 1)) (bUtf 7665538200540832110 7435248793922397044)) (bClassed 3)) (bUtf 87 0)) (bUtf 23362 0)) (bPair 12 5 6)) (bPair 9 2 7)) (bUtf 75 0)) (bClassed 9)) (bUtf 1667329132 0)) (bUtf 675883350 0)) (bPair 12 11 12)) (bPair 10 10 13)) (bUtf 1835102827 0)) (bPair 12 15 12)) (bPair 10 10 16)) 1937010544 0 (hr.le (by decide))) ⟨rfl, rfl⟩ (rm_le hRm rfl rfl) rfl (ci := 10) (q0 := 0) rfl rfl rfl rfl (Nat.le_of_ble_eq_true rfl) ⟨Nat.zero_le _, Nat.zero_le _⟩ (fun v0 w0 hq0 => ?_)
  obtain ⟨rfl, rfl⟩ := hq0
  show G Γ (mW K am A (ap (ap (ap (ap (ap (ap (ap (ap (ap (ap (ap (ap (ap (ap (ap (ap (ap (ap (ap σ (b2 (nI (28 + mem)))) (bNm 80 p)) (bClassed 1)) (bUtf 7665538200540832110 7435248793922397044)) (bClassed 3)) (bUtf 87 0)) (bUtf 23362 0)) (bPair 12 5 6)) (bPair 9 2 7)) (bUtf 75 0)) (bClassed 9)) (bUtf 1667329132 0)) (bUtf 675883350 0)) (bPair 12 11 12)) (bPair 10 10 13)) (bUtf 1835102827 0)) (bPair 12 15 12)) (bPair 10 10 16)) (bUtf 1937010544 0))) 0 0 159 [(0, .ref am), (1, .int (nI p)), (2, .int (nI mem))] []
  have hr : Lo (ap (ap (ap (ap (ap (ap (ap (ap (ap (ap (ap (ap (ap (ap (ap (ap (ap (ap (ap σ (b2 (nI (28 + mem)))) (bNm 80 p)) (bClassed 1)) (bUtf 7665538200540832110 7435248793922397044)) (bClassed 3)) (bUtf 87 0)) (bUtf 23362 0)) (bPair 12 5 6)) (bPair 9 2 7)) (bUtf 75 0)) (bClassed 9)) (bUtf 1667329132 0)) (bUtf 675883350 0)) (bPair 12 11 12)) (bPair 10 10 13)) (bUtf 1835102827 0)) (bPair 12 15 12)) (bPair 10 10 16)) (bUtf 1937010544 0)) 248 := hr.app (by have := bUtf_len 1937010544 0; omega)
  refine g_aload_n (n := 160) hX dX8_constants_159 rfl rfl rfl ?_
  refine g_bipush (n := 162) (v := 12) hX dX8_constants_160 rfl rfl ?_
  refine g_bipush (n := 164) (v := 18) hX dX8_constants_162 rfl rfl ?_
  refine g_bipush (n := 166) (v := 12) hX dX8_constants_164 rfl rfl ?_
  refine g_callV0 (n := 169) (As := [.int 12, .int 18, .int 12]) (rest := []) hX hE hU hY dX8_constants_166 rfl yv_X8_pair um_X8_170 (m_pair _ _ K am A (ap (ap (ap (ap (ap (ap (ap (ap (ap (ap (ap (ap (ap (ap (ap (ap (ap (ap (ap σ (b2 (nI (28 + mem)))) (bNm 80 p)) (bClassed 1)) (bUtf 7665538200540832110 7435248793922397044)) (bClassed 3)) (bUtf 87 0)) (bUtf 23362 0)) (bPair 12 5 6)) (bPair 9 2 7)) (bUtf 75 0)) (bClassed 9)) (bUtf 1667329132 0)) (bUtf 675883350 0)) (bPair 12 11 12)) (bPair 10 10 13)) (bUtf 1835102827 0)) (bPair 12 15 12)) (bPair 10 10 16)) (bUtf 1937010544 0)) 12 18 12 (hr.le (by decide))) ⟨rfl, rfl⟩ (rm_le hRm rfl rfl) rfl (ci := 10) (q0 := 0) rfl rfl rfl rfl (Nat.le_of_ble_eq_true rfl) ⟨Nat.zero_le _, Nat.zero_le _⟩ (fun v0 w0 hq0 => ?_)
  obtain ⟨rfl, rfl⟩ := hq0
  show G Γ (mW K am A (ap (ap (ap (ap (ap (ap (ap (ap (ap (ap (ap (ap (ap (ap (ap (ap (ap (ap (ap (ap σ (b2 (nI (28 + mem)))) (bNm 80 p)) (bClassed 1)) (bUtf 7665538200540832110 7435248793922397044)) (bClassed 3)) (bUtf 87 0)) (bUtf 23362 0)) (bPair 12 5 6)) (bPair 9 2 7)) (bUtf 75 0)) (bClassed 9)) (bUtf 1667329132 0)) (bUtf 675883350 0)) (bPair 12 11 12)) (bPair 10 10 13)) (bUtf 1835102827 0)) (bPair 12 15 12)) (bPair 10 10 16)) (bUtf 1937010544 0)) (bPair 12 18 12))) 0 0 169 [(0, .ref am), (1, .int (nI p)), (2, .int (nI mem))] []
  have hr : Lo (ap (ap (ap (ap (ap (ap (ap (ap (ap (ap (ap (ap (ap (ap (ap (ap (ap (ap (ap (ap σ (b2 (nI (28 + mem)))) (bNm 80 p)) (bClassed 1)) (bUtf 7665538200540832110 7435248793922397044)) (bClassed 3)) (bUtf 87 0)) (bUtf 23362 0)) (bPair 12 5 6)) (bPair 9 2 7)) (bUtf 75 0)) (bClassed 9)) (bUtf 1667329132 0)) (bUtf 675883350 0)) (bPair 12 11 12)) (bPair 10 10 13)) (bUtf 1835102827 0)) (bPair 12 15 12)) (bPair 10 10 16)) (bUtf 1937010544 0)) (bPair 12 18 12)) 243 := hr.app (Nat.le_of_ble_eq_true rfl)
  refine g_aload_n (n := 170) hX dX8_constants_169 rfl rfl rfl ?_
  refine g_bipush (n := 172) (v := 10) hX dX8_constants_170 rfl rfl ?_
  refine g_bipush (n := 174) (v := 10) hX dX8_constants_172 rfl rfl ?_
  refine g_bipush (n := 176) (v := 19) hX dX8_constants_174 rfl rfl ?_
  refine g_callV0 (n := 179) (As := [.int 10, .int 10, .int 19]) (rest := []) hX hE hU hY dX8_constants_176 rfl yv_X8_pair um_X8_170 (m_pair _ _ K am A (ap (ap (ap (ap (ap (ap (ap (ap (ap (ap (ap (ap (ap (ap (ap (ap (ap (ap (ap (ap σ (b2 (nI (28 + mem)))) (bNm 80 p)) (bClassed 1)) (bUtf 7665538200540832110 7435248793922397044)) (bClassed 3)) (bUtf 87 0)) (bUtf 23362 0)) (bPair 12 5 6)) (bPair 9 2 7)) (bUtf 75 0)) (bClassed 9)) (bUtf 1667329132 0)) (bUtf 675883350 0)) (bPair 12 11 12)) (bPair 10 10 13)) (bUtf 1835102827 0)) (bPair 12 15 12)) (bPair 10 10 16)) (bUtf 1937010544 0)) (bPair 12 18 12)) 10 10 19 (hr.le (by decide))) ⟨rfl, rfl⟩ (rm_le hRm rfl rfl) rfl (ci := 10) (q0 := 0) rfl rfl rfl rfl (Nat.le_of_ble_eq_true rfl) ⟨Nat.zero_le _, Nat.zero_le _⟩ (fun v0 w0 hq0 => ?_)
  obtain ⟨rfl, rfl⟩ := hq0
  show G Γ (mW K am A (ap (ap (ap (ap (ap (ap (ap (ap (ap (ap (ap (ap (ap (ap (ap (ap (ap (ap (ap (ap (ap σ (b2 (nI (28 + mem)))) (bNm 80 p)) (bClassed 1)) (bUtf 7665538200540832110 7435248793922397044)) (bClassed 3)) (bUtf 87 0)) (bUtf 23362 0)) (bPair 12 5 6)) (bPair 9 2 7)) (bUtf 75 0)) (bClassed 9)) (bUtf 1667329132 0)) (bUtf 675883350 0)) (bPair 12 11 12)) (bPair 10 10 13)) (bUtf 1835102827 0)) (bPair 12 15 12)) (bPair 10 10 16)) (bUtf 1937010544 0)) (bPair 12 18 12)) (bPair 10 10 19))) 0 0 179 [(0, .ref am), (1, .int (nI p)), (2, .int (nI mem))] []
  have hr : Lo (ap (ap (ap (ap (ap (ap (ap (ap (ap (ap (ap (ap (ap (ap (ap (ap (ap (ap (ap (ap (ap σ (b2 (nI (28 + mem)))) (bNm 80 p)) (bClassed 1)) (bUtf 7665538200540832110 7435248793922397044)) (bClassed 3)) (bUtf 87 0)) (bUtf 23362 0)) (bPair 12 5 6)) (bPair 9 2 7)) (bUtf 75 0)) (bClassed 9)) (bUtf 1667329132 0)) (bUtf 675883350 0)) (bPair 12 11 12)) (bPair 10 10 13)) (bUtf 1835102827 0)) (bPair 12 15 12)) (bPair 10 10 16)) (bUtf 1937010544 0)) (bPair 12 18 12)) (bPair 10 10 19)) 238 := hr.app (Nat.le_of_ble_eq_true rfl)
  refine g_aload_n (n := 180) hX dX8_constants_179 rfl rfl rfl ?_
  refine g_ldc2 (n := 183) (v := 1936292453) hX dX8_constants_180 rfl (hU _ uk_X8_184) ?_
  refine g_lconst (n := 184) (v := 0) hX dX8_constants_183 rfl rfl ?_
  refine g_callV0 (n := 187) (As := [.long 1936292453, .long 0]) (rest := []) hX hE hU hY dX8_constants_184 rfl yv_X8_utf um_X8_155 (m_utf _ _ K am A (ap (ap (ap (ap (ap (ap (ap (ap (ap (ap (ap (ap (ap (ap (ap (ap (ap (ap (ap (ap (ap σ (b2 (nI (28 + mem)))) (bNm 80 p)) (bClassed 1)) (bUtf 7665538200540832110 7435248793922397044)) (bClassed 3)) (bUtf 87 0)) (bUtf 23362 0)) (bPair 12 5 6)) (bPair 9 2 7)) (bUtf 75 0)) (bClassed 9)) (bUtf 1667329132 0)) (bUtf 675883350 0)) (bPair 12 11 12)) (bPair 10 10 13)) (bUtf 1835102827 0)) (bPair 12 15 12)) (bPair 10 10 16)) (bUtf 1937010544 0)) (bPair 12 18 12)) (bPair 10 10 19)) 1936292453 0 (hr.le (by decide))) ⟨rfl, rfl⟩ (rm_le hRm rfl rfl) rfl (ci := 10) (q0 := 0) rfl rfl rfl rfl (Nat.le_of_ble_eq_true rfl) ⟨Nat.zero_le _, Nat.zero_le _⟩ (fun v0 w0 hq0 => ?_)
  obtain ⟨rfl, rfl⟩ := hq0
  show G Γ (mW K am A (ap (ap (ap (ap (ap (ap (ap (ap (ap (ap (ap (ap (ap (ap (ap (ap (ap (ap (ap (ap (ap (ap σ (b2 (nI (28 + mem)))) (bNm 80 p)) (bClassed 1)) (bUtf 7665538200540832110 7435248793922397044)) (bClassed 3)) (bUtf 87 0)) (bUtf 23362 0)) (bPair 12 5 6)) (bPair 9 2 7)) (bUtf 75 0)) (bClassed 9)) (bUtf 1667329132 0)) (bUtf 675883350 0)) (bPair 12 11 12)) (bPair 10 10 13)) (bUtf 1835102827 0)) (bPair 12 15 12)) (bPair 10 10 16)) (bUtf 1937010544 0)) (bPair 12 18 12)) (bPair 10 10 19)) (bUtf 1936292453 0))) 0 0 187 [(0, .ref am), (1, .int (nI p)), (2, .int (nI mem))] []
  have hr : Lo (ap (ap (ap (ap (ap (ap (ap (ap (ap (ap (ap (ap (ap (ap (ap (ap (ap (ap (ap (ap (ap (ap σ (b2 (nI (28 + mem)))) (bNm 80 p)) (bClassed 1)) (bUtf 7665538200540832110 7435248793922397044)) (bClassed 3)) (bUtf 87 0)) (bUtf 23362 0)) (bPair 12 5 6)) (bPair 9 2 7)) (bUtf 75 0)) (bClassed 9)) (bUtf 1667329132 0)) (bUtf 675883350 0)) (bPair 12 11 12)) (bPair 10 10 13)) (bUtf 1835102827 0)) (bPair 12 15 12)) (bPair 10 10 16)) (bUtf 1937010544 0)) (bPair 12 18 12)) (bPair 10 10 19)) (bUtf 1936292453 0)) 219 := hr.app (by have := bUtf_len 1936292453 0; omega)
  refine g_aload_n (n := 188) hX dX8_constants_187 rfl rfl rfl ?_
  refine g_bipush (n := 190) (v := 12) hX dX8_constants_188 rfl rfl ?_
  refine g_bipush (n := 192) (v := 21) hX dX8_constants_190 rfl rfl ?_
  refine g_bipush (n := 194) (v := 12) hX dX8_constants_192 rfl rfl ?_
  refine g_callV0 (n := 197) (As := [.int 12, .int 21, .int 12]) (rest := []) hX hE hU hY dX8_constants_194 rfl yv_X8_pair um_X8_170 (m_pair _ _ K am A (ap (ap (ap (ap (ap (ap (ap (ap (ap (ap (ap (ap (ap (ap (ap (ap (ap (ap (ap (ap (ap (ap σ (b2 (nI (28 + mem)))) (bNm 80 p)) (bClassed 1)) (bUtf 7665538200540832110 7435248793922397044)) (bClassed 3)) (bUtf 87 0)) (bUtf 23362 0)) (bPair 12 5 6)) (bPair 9 2 7)) (bUtf 75 0)) (bClassed 9)) (bUtf 1667329132 0)) (bUtf 675883350 0)) (bPair 12 11 12)) (bPair 10 10 13)) (bUtf 1835102827 0)) (bPair 12 15 12)) (bPair 10 10 16)) (bUtf 1937010544 0)) (bPair 12 18 12)) (bPair 10 10 19)) (bUtf 1936292453 0)) 12 21 12 (hr.le (by decide))) ⟨rfl, rfl⟩ (rm_le hRm rfl rfl) rfl (ci := 10) (q0 := 0) rfl rfl rfl rfl (Nat.le_of_ble_eq_true rfl) ⟨Nat.zero_le _, Nat.zero_le _⟩ (fun v0 w0 hq0 => ?_)
  obtain ⟨rfl, rfl⟩ := hq0
  show G Γ (mW K am A (ap (ap (ap (ap (ap (ap (ap (ap (ap (ap (ap (ap (ap (ap (ap (ap (ap (ap (ap (ap (ap (ap (ap σ (b2 (nI (28 + mem)))) (bNm 80 p)) (bClassed 1)) (bUtf 7665538200540832110 7435248793922397044)) (bClassed 3)) (bUtf 87 0)) (bUtf 23362 0)) (bPair 12 5 6)) (bPair 9 2 7)) (bUtf 75 0)) (bClassed 9)) (bUtf 1667329132 0)) (bUtf 675883350 0)) (bPair 12 11 12)) (bPair 10 10 13)) (bUtf 1835102827 0)) (bPair 12 15 12)) (bPair 10 10 16)) (bUtf 1937010544 0)) (bPair 12 18 12)) (bPair 10 10 19)) (bUtf 1936292453 0)) (bPair 12 21 12))) 0 0 197 [(0, .ref am), (1, .int (nI p)), (2, .int (nI mem))] []
  have hr : Lo (ap (ap (ap (ap (ap (ap (ap (ap (ap (ap (ap (ap (ap (ap (ap (ap (ap (ap (ap (ap (ap (ap (ap σ (b2 (nI (28 + mem)))) (bNm 80 p)) (bClassed 1)) (bUtf 7665538200540832110 7435248793922397044)) (bClassed 3)) (bUtf 87 0)) (bUtf 23362 0)) (bPair 12 5 6)) (bPair 9 2 7)) (bUtf 75 0)) (bClassed 9)) (bUtf 1667329132 0)) (bUtf 675883350 0)) (bPair 12 11 12)) (bPair 10 10 13)) (bUtf 1835102827 0)) (bPair 12 15 12)) (bPair 10 10 16)) (bUtf 1937010544 0)) (bPair 12 18 12)) (bPair 10 10 19)) (bUtf 1936292453 0)) (bPair 12 21 12)) 214 := hr.app (Nat.le_of_ble_eq_true rfl)
  refine g_aload_n (n := 198) hX dX8_constants_197 rfl rfl rfl ?_
  refine g_bipush (n := 200) (v := 10) hX dX8_constants_198 rfl rfl ?_
  refine g_bipush (n := 202) (v := 10) hX dX8_constants_200 rfl rfl ?_
  refine g_bipush (n := 204) (v := 22) hX dX8_constants_202 rfl rfl ?_
  refine g_callV0 (n := 207) (As := [.int 10, .int 10, .int 22]) (rest := []) hX hE hU hY dX8_constants_204 rfl yv_X8_pair um_X8_170 (m_pair _ _ K am A (ap (ap (ap (ap (ap (ap (ap (ap (ap (ap (ap (ap (ap (ap (ap (ap (ap (ap (ap (ap (ap (ap (ap σ (b2 (nI (28 + mem)))) (bNm 80 p)) (bClassed 1)) (bUtf 7665538200540832110 7435248793922397044)) (bClassed 3)) (bUtf 87 0)) (bUtf 23362 0)) (bPair 12 5 6)) (bPair 9 2 7)) (bUtf 75 0)) (bClassed 9)) (bUtf 1667329132 0)) (bUtf 675883350 0)) (bPair 12 11 12)) (bPair 10 10 13)) (bUtf 1835102827 0)) (bPair 12 15 12)) (bPair 10 10 16)) (bUtf 1937010544 0)) (bPair 12 18 12)) (bPair 10 10 19)) (bUtf 1936292453 0)) (bPair 12 21 12)) 10 10 22 (hr.le (by decide))) ⟨rfl, rfl⟩ (rm_le hRm rfl rfl) rfl (ci := 10) (q0 := 0) rfl rfl rfl rfl (Nat.le_of_ble_eq_true rfl) ⟨Nat.zero_le _, Nat.zero_le _⟩ (fun v0 w0 hq0 => ?_)
  obtain ⟨rfl, rfl⟩ := hq0
  show G Γ (mW K am A (ap (ap (ap (ap (ap (ap (ap (ap (ap (ap (ap (ap (ap (ap (ap (ap (ap (ap (ap (ap (ap (ap (ap (ap σ (b2 (nI (28 + mem)))) (bNm 80 p)) (bClassed 1)) (bUtf 7665538200540832110 7435248793922397044)) (bClassed 3)) (bUtf 87 0)) (bUtf 23362 0)) (bPair 12 5 6)) (bPair 9 2 7)) (bUtf 75 0)) (bClassed 9)) (bUtf 1667329132 0)) (bUtf 675883350 0)) (bPair 12 11 12)) (bPair 10 10 13)) (bUtf 1835102827 0)) (bPair 12 15 12)) (bPair 10 10 16)) (bUtf 1937010544 0)) (bPair 12 18 12)) (bPair 10 10 19)) (bUtf 1936292453 0)) (bPair 12 21 12)) (bPair 10 10 22))) 0 0 207 [(0, .ref am), (1, .int (nI p)), (2, .int (nI mem))] []
  have hr : Lo (ap (ap (ap (ap (ap (ap (ap (ap (ap (ap (ap (ap (ap (ap (ap (ap (ap (ap (ap (ap (ap (ap (ap (ap σ (b2 (nI (28 + mem)))) (bNm 80 p)) (bClassed 1)) (bUtf 7665538200540832110 7435248793922397044)) (bClassed 3)) (bUtf 87 0)) (bUtf 23362 0)) (bPair 12 5 6)) (bPair 9 2 7)) (bUtf 75 0)) (bClassed 9)) (bUtf 1667329132 0)) (bUtf 675883350 0)) (bPair 12 11 12)) (bPair 10 10 13)) (bUtf 1835102827 0)) (bPair 12 15 12)) (bPair 10 10 16)) (bUtf 1937010544 0)) (bPair 12 18 12)) (bPair 10 10 19)) (bUtf 1936292453 0)) (bPair 12 21 12)) (bPair 10 10 22)) 209 := hr.app (Nat.le_of_ble_eq_true rfl)
  refine g_aload_n (n := 208) hX dX8_constants_207 rfl rfl rfl ?_
  refine g_ldc2 (n := 211) (v := 1131373669) hX dX8_constants_208 rfl (hU _ uk_X8_186) ?_
  refine g_lconst (n := 212) (v := 0) hX dX8_constants_211 rfl rfl ?_
  refine g_callV0 (n := 215) (As := [.long 1131373669, .long 0]) (rest := []) hX hE hU hY dX8_constants_212 rfl yv_X8_utf um_X8_155 (m_utf _ _ K am A (ap (ap (ap (ap (ap (ap (ap (ap (ap (ap (ap (ap (ap (ap (ap (ap (ap (ap (ap (ap (ap (ap (ap (ap σ (b2 (nI (28 + mem)))) (bNm 80 p)) (bClassed 1)) (bUtf 7665538200540832110 7435248793922397044)) (bClassed 3)) (bUtf 87 0)) (bUtf 23362 0)) (bPair 12 5 6)) (bPair 9 2 7)) (bUtf 75 0)) (bClassed 9)) (bUtf 1667329132 0)) (bUtf 675883350 0)) (bPair 12 11 12)) (bPair 10 10 13)) (bUtf 1835102827 0)) (bPair 12 15 12)) (bPair 10 10 16)) (bUtf 1937010544 0)) (bPair 12 18 12)) (bPair 10 10 19)) (bUtf 1936292453 0)) (bPair 12 21 12)) (bPair 10 10 22)) 1131373669 0 (hr.le (by decide))) ⟨rfl, rfl⟩ (rm_le hRm rfl rfl) rfl (ci := 10) (q0 := 0) rfl rfl rfl rfl (Nat.le_of_ble_eq_true rfl) ⟨Nat.zero_le _, Nat.zero_le _⟩ (fun v0 w0 hq0 => ?_)
  obtain ⟨rfl, rfl⟩ := hq0
  show G Γ (mW K am A (ap (ap (ap (ap (ap (ap (ap (ap (ap (ap (ap (ap (ap (ap (ap (ap (ap (ap (ap (ap (ap (ap (ap (ap (ap σ (b2 (nI (28 + mem)))) (bNm 80 p)) (bClassed 1)) (bUtf 7665538200540832110 7435248793922397044)) (bClassed 3)) (bUtf 87 0)) (bUtf 23362 0)) (bPair 12 5 6)) (bPair 9 2 7)) (bUtf 75 0)) (bClassed 9)) (bUtf 1667329132 0)) (bUtf 675883350 0)) (bPair 12 11 12)) (bPair 10 10 13)) (bUtf 1835102827 0)) (bPair 12 15 12)) (bPair 10 10 16)) (bUtf 1937010544 0)) (bPair 12 18 12)) (bPair 10 10 19)) (bUtf 1936292453 0)) (bPair 12 21 12)) (bPair 10 10 22)) (bUtf 1131373669 0))) 0 0 215 [(0, .ref am), (1, .int (nI p)), (2, .int (nI mem))] []
  have hr : Lo (ap (ap (ap (ap (ap (ap (ap (ap (ap (ap (ap (ap (ap (ap (ap (ap (ap (ap (ap (ap (ap (ap (ap (ap (ap σ (b2 (nI (28 + mem)))) (bNm 80 p)) (bClassed 1)) (bUtf 7665538200540832110 7435248793922397044)) (bClassed 3)) (bUtf 87 0)) (bUtf 23362 0)) (bPair 12 5 6)) (bPair 9 2 7)) (bUtf 75 0)) (bClassed 9)) (bUtf 1667329132 0)) (bUtf 675883350 0)) (bPair 12 11 12)) (bPair 10 10 13)) (bUtf 1835102827 0)) (bPair 12 15 12)) (bPair 10 10 16)) (bUtf 1937010544 0)) (bPair 12 18 12)) (bPair 10 10 19)) (bUtf 1936292453 0)) (bPair 12 21 12)) (bPair 10 10 22)) (bUtf 1131373669 0)) 190 := hr.app (by have := bUtf_len 1131373669 0; omega)
  refine g_aload_n (n := 216) hX dX8_constants_215 rfl rfl rfl ?_
  refine g_ldc2 (n := 219) (v := 675883337) hX dX8_constants_216 rfl (hU _ uk_X8_188) ?_
  refine g_lconst (n := 220) (v := 0) hX dX8_constants_219 rfl rfl ?_
  refine g_callV0 (n := 223) (As := [.long 675883337, .long 0]) (rest := []) hX hE hU hY dX8_constants_220 rfl yv_X8_utf um_X8_155 (m_utf _ _ K am A (ap (ap (ap (ap (ap (ap (ap (ap (ap (ap (ap (ap (ap (ap (ap (ap (ap (ap (ap (ap (ap (ap (ap (ap (ap σ (b2 (nI (28 + mem)))) (bNm 80 p)) (bClassed 1)) (bUtf 7665538200540832110 7435248793922397044)) (bClassed 3)) (bUtf 87 0)) (bUtf 23362 0)) (bPair 12 5 6)) (bPair 9 2 7)) (bUtf 75 0)) (bClassed 9)) (bUtf 1667329132 0)) (bUtf 675883350 0)) (bPair 12 11 12)) (bPair 10 10 13)) (bUtf 1835102827 0)) (bPair 12 15 12)) (bPair 10 10 16)) (bUtf 1937010544 0)) (bPair 12 18 12)) (bPair 10 10 19)) (bUtf 1936292453 0)) (bPair 12 21 12)) (bPair 10 10 22)) (bUtf 1131373669 0)) 675883337 0 (hr.le (by decide))) ⟨rfl, rfl⟩ (rm_le hRm rfl rfl) rfl (ci := 10) (q0 := 0) rfl rfl rfl rfl (Nat.le_of_ble_eq_true rfl) ⟨Nat.zero_le _, Nat.zero_le _⟩ (fun v0 w0 hq0 => ?_)
  obtain ⟨rfl, rfl⟩ := hq0
  show G Γ (mW K am A (ap (ap (ap (ap (ap (ap (ap (ap (ap (ap (ap (ap (ap (ap (ap (ap (ap (ap (ap (ap (ap (ap (ap (ap (ap (ap σ (b2 (nI (28 + mem)))) (bNm 80 p)) (bClassed 1)) (bUtf 7665538200540832110 7435248793922397044)) (bClassed 3)) (bUtf 87 0)) (bUtf 23362 0)) (bPair 12 5 6)) (bPair 9 2 7)) (bUtf 75 0)) (bClassed 9)) (bUtf 1667329132 0)) (bUtf 675883350 0)) (bPair 12 11 12)) (bPair 10 10 13)) (bUtf 1835102827 0)) (bPair 12 15 12)) (bPair 10 10 16)) (bUtf 1937010544 0)) (bPair 12 18 12)) (bPair 10 10 19)) (bUtf 1936292453 0)) (bPair 12 21 12)) (bPair 10 10 22)) (bUtf 1131373669 0)) (bUtf 675883337 0))) 0 0 223 [(0, .ref am), (1, .int (nI p)), (2, .int (nI mem))] []
  have hr : Lo (ap (ap (ap (ap (ap (ap (ap (ap (ap (ap (ap (ap (ap (ap (ap (ap (ap (ap (ap (ap (ap (ap (ap (ap (ap (ap σ (b2 (nI (28 + mem)))) (bNm 80 p)) (bClassed 1)) (bUtf 7665538200540832110 7435248793922397044)) (bClassed 3)) (bUtf 87 0)) (bUtf 23362 0)) (bPair 12 5 6)) (bPair 9 2 7)) (bUtf 75 0)) (bClassed 9)) (bUtf 1667329132 0)) (bUtf 675883350 0)) (bPair 12 11 12)) (bPair 10 10 13)) (bUtf 1835102827 0)) (bPair 12 15 12)) (bPair 10 10 16)) (bUtf 1937010544 0)) (bPair 12 18 12)) (bPair 10 10 19)) (bUtf 1936292453 0)) (bPair 12 21 12)) (bPair 10 10 22)) (bUtf 1131373669 0)) (bUtf 675883337 0)) 171 := hr.app (by have := bUtf_len 675883337 0; omega)
  refine g_aload_n (n := 224) hX dX8_constants_223 rfl rfl rfl ?_
  refine g_ldc2 (n := 227) (v := 4351440865049801790) hX dX8_constants_224 rfl (hU _ uk_X8_190) ?_
  refine g_lconst (n := 228) (v := 0) hX dX8_constants_227 rfl rfl ?_
  refine g_callV0 (n := 231) (As := [.long 4351440865049801790, .long 0]) (rest := []) hX hE hU hY dX8_constants_228 rfl yv_X8_utf um_X8_155 (m_utf _ _ K am A (ap (ap (ap (ap (ap (ap (ap (ap (ap (ap (ap (ap (ap (ap (ap (ap (ap (ap (ap (ap (ap (ap (ap (ap (ap (ap σ (b2 (nI (28 + mem)))) (bNm 80 p)) (bClassed 1)) (bUtf 7665538200540832110 7435248793922397044)) (bClassed 3)) (bUtf 87 0)) (bUtf 23362 0)) (bPair 12 5 6)) (bPair 9 2 7)) (bUtf 75 0)) (bClassed 9)) (bUtf 1667329132 0)) (bUtf 675883350 0)) (bPair 12 11 12)) (bPair 10 10 13)) (bUtf 1835102827 0)) (bPair 12 15 12)) (bPair 10 10 16)) (bUtf 1937010544 0)) (bPair 12 18 12)) (bPair 10 10 19)) (bUtf 1936292453 0)) (bPair 12 21 12)) (bPair 10 10 22)) (bUtf 1131373669 0)) (bUtf 675883337 0)) 4351440865049801790 0 (hr.le (by decide))) ⟨rfl, rfl⟩ (rm_le hRm rfl rfl) rfl (ci := 10) (q0 := 0) rfl rfl rfl rfl (Nat.le_of_ble_eq_true rfl) ⟨Nat.zero_le _, Nat.zero_le _⟩ (fun v0 w0 hq0 => ?_)
  obtain ⟨rfl, rfl⟩ := hq0
  show G Γ (mW K am A (ap (ap (ap (ap (ap (ap (ap (ap (ap (ap (ap (ap (ap (ap (ap (ap (ap (ap (ap (ap (ap (ap (ap (ap (ap (ap (ap σ (b2 (nI (28 + mem)))) (bNm 80 p)) (bClassed 1)) (bUtf 7665538200540832110 7435248793922397044)) (bClassed 3)) (bUtf 87 0)) (bUtf 23362 0)) (bPair 12 5 6)) (bPair 9 2 7)) (bUtf 75 0)) (bClassed 9)) (bUtf 1667329132 0)) (bUtf 675883350 0)) (bPair 12 11 12)) (bPair 10 10 13)) (bUtf 1835102827 0)) (bPair 12 15 12)) (bPair 10 10 16)) (bUtf 1937010544 0)) (bPair 12 18 12)) (bPair 10 10 19)) (bUtf 1936292453 0)) (bPair 12 21 12)) (bPair 10 10 22)) (bUtf 1131373669 0)) (bUtf 675883337 0)) (bUtf 4351440865049801790 0))) 0 0 231 [(0, .ref am), (1, .int (nI p)), (2, .int (nI mem))] []
  have hr : Lo (ap (ap (ap (ap (ap (ap (ap (ap (ap (ap (ap (ap (ap (ap (ap (ap (ap (ap (ap (ap (ap (ap (ap (ap (ap (ap (ap σ (b2 (nI (28 + mem)))) (bNm 80 p)) (bClassed 1)) (bUtf 7665538200540832110 7435248793922397044)) (bClassed 3)) (bUtf 87 0)) (bUtf 23362 0)) (bPair 12 5 6)) (bPair 9 2 7)) (bUtf 75 0)) (bClassed 9)) (bUtf 1667329132 0)) (bUtf 675883350 0)) (bPair 12 11 12)) (bPair 10 10 13)) (bUtf 1835102827 0)) (bPair 12 15 12)) (bPair 10 10 16)) (bUtf 1937010544 0)) (bPair 12 18 12)) (bPair 10 10 19)) (bUtf 1936292453 0)) (bPair 12 21 12)) (bPair 10 10 22)) (bUtf 1131373669 0)) (bUtf 675883337 0)) (bUtf 4351440865049801790 0)) 152 := hr.app (by have := bUtf_len 4351440865049801790 0; omega)
  refine g_aload_n (n := 232) hX dX8_constants_231 rfl rfl rfl ?_
  refine g_ldc2 (n := 235) (v := 2632022) hX dX8_constants_232 rfl (hU _ uk_X8_192) ?_
  refine g_lconst (n := 236) (v := 0) hX dX8_constants_235 rfl rfl ?_
  refine g_callV0 (n := 239) (As := [.long 2632022, .long 0]) (rest := []) hX hE hU hY dX8_constants_236 rfl yv_X8_utf um_X8_155 (m_utf _ _ K am A (ap (ap (ap (ap (ap (ap (ap (ap (ap (ap (ap (ap (ap (ap (ap (ap (ap (ap (ap (ap (ap (ap (ap (ap (ap (ap (ap σ (b2 (nI (28 + mem)))) (bNm 80 p)) (bClassed 1)) (bUtf 7665538200540832110 7435248793922397044)) (bClassed 3)) (bUtf 87 0)) (bUtf 23362 0)) (bPair 12 5 6)) (bPair 9 2 7)) (bUtf 75 0)) (bClassed 9)) (bUtf 1667329132 0)) (bUtf 675883350 0)) (bPair 12 11 12)) (bPair 10 10 13)) (bUtf 1835102827 0)) (bPair 12 15 12)) (bPair 10 10 16)) (bUtf 1937010544 0)) (bPair 12 18 12)) (bPair 10 10 19)) (bUtf 1936292453 0)) (bPair 12 21 12)) (bPair 10 10 22)) (bUtf 1131373669 0)) (bUtf 675883337 0)) (bUtf 4351440865049801790 0)) 2632022 0 (hr.le (by decide))) ⟨rfl, rfl⟩ (rm_le hRm rfl rfl) rfl (ci := 10) (q0 := 0) rfl rfl rfl rfl (Nat.le_of_ble_eq_true rfl) ⟨Nat.zero_le _, Nat.zero_le _⟩ (fun v0 w0 hq0 => ?_)
  obtain ⟨rfl, rfl⟩ := hq0
  show G Γ (mW K am A (ap (ap (ap (ap (ap (ap (ap (ap (ap (ap (ap (ap (ap (ap (ap (ap (ap (ap (ap (ap (ap (ap (ap (ap (ap (ap (ap (ap σ (b2 (nI (28 + mem)))) (bNm 80 p)) (bClassed 1)) (bUtf 7665538200540832110 7435248793922397044)) (bClassed 3)) (bUtf 87 0)) (bUtf 23362 0)) (bPair 12 5 6)) (bPair 9 2 7)) (bUtf 75 0)) (bClassed 9)) (bUtf 1667329132 0)) (bUtf 675883350 0)) (bPair 12 11 12)) (bPair 10 10 13)) (bUtf 1835102827 0)) (bPair 12 15 12)) (bPair 10 10 16)) (bUtf 1937010544 0)) (bPair 12 18 12)) (bPair 10 10 19)) (bUtf 1936292453 0)) (bPair 12 21 12)) (bPair 10 10 22)) (bUtf 1131373669 0)) (bUtf 675883337 0)) (bUtf 4351440865049801790 0)) (bUtf 2632022 0))) 0 0 239 [(0, .ref am), (1, .int (nI p)), (2, .int (nI mem))] []
  have hr : Lo (ap (ap (ap (ap (ap (ap (ap (ap (ap (ap (ap (ap (ap (ap (ap (ap (ap (ap (ap (ap (ap (ap (ap (ap (ap (ap (ap (ap σ (b2 (nI (28 + mem)))) (bNm 80 p)) (bClassed 1)) (bUtf 7665538200540832110 7435248793922397044)) (bClassed 3)) (bUtf 87 0)) (bUtf 23362 0)) (bPair 12 5 6)) (bPair 9 2 7)) (bUtf 75 0)) (bClassed 9)) (bUtf 1667329132 0)) (bUtf 675883350 0)) (bPair 12 11 12)) (bPair 10 10 13)) (bUtf 1835102827 0)) (bPair 12 15 12)) (bPair 10 10 16)) (bUtf 1937010544 0)) (bPair 12 18 12)) (bPair 10 10 19)) (bUtf 1936292453 0)) (bPair 12 21 12)) (bPair 10 10 22)) (bUtf 1131373669 0)) (bUtf 675883337 0)) (bUtf 4351440865049801790 0)) (bUtf 2632022 0)) 133 := hr.app (by have := bUtf_len 2632022 0; omega)
  refine g_iconst (n := 240) (v := 0) hX dX8_constants_239 rfl rfl ?_
  refine g_istore_n (lv' := [(3, .int 0), (0, .ref am), (1, .int (nI p)), (2, .int (nI mem))]) (n := 241) hX dX8_constants_240 rfl rfl (by rw [hnL]; rfl) rfl ?_
  refine g_pick (lv' := [(3, .int 0), (0, .ref am), (1, .int (nI p)), (2, .int (nI mem))]) [0, 1, 2, 3] rfl ?_
  refine lp_constants hX hE hRm hnL hY p mem hm 0 mem 0 _ (by omega) (hr.le (by omega)) ?_
  intro hr
  exact g_vret hX hR dX8_constants_263 ⟨rfl, by unfold bConst; simp only [ap_ap]⟩

theorem bNm_cat (mem : Nat) : (catR (bNm 109) 0 mem).length ≤ 19 * mem := catR_len (g := bNm 109) (m := 19) (fun r => bUtf_len (nmL 109 (nI r)) 0) 0 mem
theorem eU1 : (bUtf 7665538200540832110 7435248793922397044).length = 19 := by decide +kernel
theorem eU2 : (bUtf 87 0).length = 4 := by decide +kernel
theorem eU3 : (bUtf 23362 0).length = 5 := by decide +kernel
theorem eU4 : (bUtf 75 0).length = 4 := by decide +kernel
theorem eU5 : (bUtf 1667329132 0).length = 7 := by decide +kernel
theorem eU6 : (bUtf 675883350 0).length = 7 := by decide +kernel
theorem eU7 : (bUtf 1835102827 0).length = 7 := by decide +kernel
theorem eU8 : (bUtf 1937010544 0).length = 7 := by decide +kernel
theorem eU9 : (bUtf 1936292453 0).length = 7 := by decide +kernel
theorem eU10 : (bUtf 1131373669 0).length = 7 := by decide +kernel
theorem eU11 : (bUtf 675883337 0).length = 7 := by decide +kernel
theorem eU12 : (bUtf 4351440865049801790 0).length = 11 := by decide +kernel
theorem eU13 : (bUtf 2632022 0).length = 6 := by decide +kernel
theorem bConst_len (p mem : Nat) (hm : mem ≤ 6) : (bConst p mem).length ≤ 460 := by
  have h1 : (bNm 80 p).length ≤ 19 := bUtf_len (nmL 80 (nI p)) 0
  have h2 := bNm_cat mem
  unfold bConst
  simp only [List.length_append, eU1, eU2, eU3, eU4, eU5, eU6, eU7, eU8, eU9, eU10, eU11, eU12, eU13, show ∀ a b c, (bPair a b c).length = 5 from fun _ _ _ => rfl, show ∀ a, (bClassed a).length = 3 from fun _ => rfl, b2_len]
  omega
theorem bMember_len (pr : PR) (k l2 : Nat) (h : l2 - 10 * k ≤ 10) : (bMember pr k l2).length ≤ 286 := by
  have h1 := catR_len (g := fun r => b4 (nI (bg pr (10 * k + 1) l2 r - 1))) (m := 4) (fun r => Nat.le_refl 4) (10 * k + 1) (l2 - 10 * k)
  have h2 := catR_len (g := bRow pr (10 * k + 1) l2) (m := 20) (fun r => by rw [bRow_len]; exact (lnO_le _ _ _ _).2) (10 * k + 1) (l2 - 10 * k)
  simp only [bMember, List.length_append, b2_len, show ∀ a, (b4 a).length = 4 from fun _ => rfl, show ∀ a b c d e, (bMethod a b c d e).length = 22 from fun _ _ _ _ _ => rfl, List.length_cons, List.length_nil]
  omega
def lastOf (n k : Nat) : Nat := if n < 10 * k + 10 then n else 10 * k + 10
theorem lastOf_in {n k : Nat} (hk : k < (n + 9) / 10) : 10 * k + 1 ≤ lastOf n k ∧ lastOf n k ≤ 10 * k + 10 ∧ lastOf n k ≤ n := by
  unfold lastOf; split <;> omega
set_option maxHeartbeats 4000000 in
set_option maxRecDepth 100000 in
theorem lp_build {Γ : gT} {K : Nat → ClassId} {am : Nat} {A : Nat → Nat} (hX : gOk Γ cX8_build (wM yX8_build cX8_build 6 none) RX8) (hE : gEv Γ) (hRm : gRm Γ = rmL 7 0 0) (hnL : gnL Γ = 6) (hY : gY Γ = yY K) (pr : PR) (p n0 mem c0 : Nat) (hp : p ≤ 12) (hn : n0 ≤ 60) (hmem : mem = (n0 + 9) / 10) (ho : ∀ r, 1 ≤ r → r ≤ n0 → opOk (pr r).1) (q : Nat) : ∀ (j k : Nat) (σ : MS), k + j = mem → prO σ p = pr → Lo σ (286 * j + q) → (Lo (ap σ (catR (fun k => bMember pr k (lastOf n0 k)) k j)) q → G Γ (mW K am A (ap σ (catR (fun k => bMember pr k (lastOf n0 k)) k j))) 0 0 244 [(5, .int (nI mem)), (4, .int (nI mem)), (3, .int (nI n0)), (2, .int (nI p)), (0, .ref am), (1, .int (nI c0))] []) → G Γ (mW K am A σ) 0 0 200 [(5, .int (nI k)), (4, .int (nI mem)), (3, .int (nI n0)), (2, .int (nI p)), (0, .ref am), (1, .int (nI c0))] [] := by
  have hU : ∀ w ∈ wU, w ∈ wM yX8_build cX8_build 6 none := fun w h => wM_in h
  intro j
  induction j with
  | zero =>
    intro k σ hi hpr hr hk0
    have hii : k = mem := by omega
    rw [hii]
    rw [hii] at hk0
    refine g_iload (n := 202) hX dX8_build_200 rfl rfl ?_
    refine g_iload (n := 204) hX dX8_build_202 rfl rfl ?_
    refine g_icmp_ge (n := 207) (tgt := 244) hX dX8_build_204 rfl (by decide) (fun c204 => ?_) (fun c204 => absurd (nI_le (a := mem) (b := mem) (by omega) (by omega)) c204)
    exact hk0 (hr.le (by omega))
  | succ j ih =>
    intro k σ hi hpr hr hk0
    have hin := lastOf_in (n := n0) (k := k) (by omega)
    by_cases hc : n0 < 10 * k + 10
    · have hlast : lastOf n0 k = n0 := if_pos hc
      refine g_iload (n := 202) hX dX8_build_200 rfl rfl ?_
      refine g_iload (n := 204) hX dX8_build_202 rfl rfl ?_
      refine g_icmp_ge (n := 207) (tgt := 244) hX dX8_build_204 rfl (by decide) (fun c204 => absurd c204 (nI_ge (a := k) (b := mem) (by omega) (by omega))) (fun c204 => ?_)
      refine g_aload_n (n := 208) hX dX8_build_207 rfl rfl rfl ?_
      refine g_iload_n (n := 209) hX dX8_build_208 rfl rfl rfl ?_
      refine g_iload (n := 211) hX dX8_build_209 rfl rfl ?_
      refine g_iload_n (n := 212) hX dX8_build_211 rfl rfl rfl ?_
      refine g_bipush (n := 214) (v := 10) hX dX8_build_212 rfl rfl ?_
      refine g_iload (n := 216) hX dX8_build_214 rfl rfl ?_
      refine g_imul (n := 217) (v := nI (10 * k)) hX dX8_build_216 rfl (pk_mul 10 k) ?_
      refine g_bipush (n := 219) (v := 10) hX dX8_build_217 rfl rfl ?_
      refine g_iadd (n := 220) (v := nI (10 * k + 10)) hX dX8_build_219 rfl (nI_add _ 10) ?_
      refine g_icmp_ge (n := 223) (tgt := 227) hX dX8_build_220 rfl (by decide) (fun c220 => absurd c220 (nI_ge (a := n0) (b := 10 * k + 10) (by omega) (by omega))) (fun c220 => ?_)
      refine g_iload_n (n := 224) hX dX8_build_223 rfl rfl rfl ?_
      refine g_goto (n := 235) hX dX8_build_224 (by decide) ?_
      refine g_callV0 (n := 238) (As := [.int (nI p), .int (nI k), .int (nI n0)]) (rest := []) hX hE hU hY dX8_build_235 rfl yv_X8_member um_X8_237 (m_member _ _ K am A σ pr p k (n0) hpr hp (by omega) (by omega) (by omega) (fun r a b => ho r (by omega) (by omega)) (hr.le (by omega))) ⟨rfl, rfl⟩ (rm_le hRm rfl rfl) rfl (ci := 10) (q0 := 0) rfl rfl rfl rfl (Nat.le_of_ble_eq_true rfl) ⟨Nat.zero_le _, Nat.zero_le _⟩ (fun v0 w0 hq0 => ?_)
      rw [← hlast] at hq0; obtain ⟨rfl, rfl⟩ := hq0
      show G Γ (mW K am A (ap σ (bMember pr k (lastOf n0 k)))) 0 0 238 [(5, .int (nI k)), (4, .int (nI mem)), (3, .int (nI n0)), (2, .int (nI p)), (0, .ref am), (1, .int (nI c0))] []
      have hr : Lo (ap σ (bMember pr k (lastOf n0 k))) (286 * j + q) := hr.app (by have := bMember_len pr k (lastOf n0 k) (by omega); omega)
      refine g_iinc (n := 241) (v := nI (k + 1)) (lv' := [(5, .int (nI (k + 1))), (4, .int (nI mem)), (3, .int (nI n0)), (2, .int (nI p)), (0, .ref am), (1, .int (nI c0))]) hX dX8_build_238 rfl rfl (nI_add k 1) (by rw [hnL]; rfl) rfl ?_
      refine g_goto (n := 200) hX dX8_build_241 (by decide) ?_
      refine g_pick (lv' := [(5, .int (nI (k + 1))), (4, .int (nI mem)), (3, .int (nI n0)), (2, .int (nI p)), (0, .ref am), (1, .int (nI c0))]) [0, 1, 2, 3, 4, 5] rfl ?_
      refine ih (k + 1) _ (by omega) (hpr_ap hpr _) hr ?_
      intro hr9
      rw [catR_front, ← ap_ap] at hk0
      exact hk0 hr9
    · have hlast : lastOf n0 k = 10 * k + 10 := if_neg hc
      refine g_iload (n := 202) hX dX8_build_200 rfl rfl ?_
      refine g_iload (n := 204) hX dX8_build_202 rfl rfl ?_
      refine g_icmp_ge (n := 207) (tgt := 244) hX dX8_build_204 rfl (by decide) (fun c204 => absurd c204 (nI_ge (a := k) (b := mem) (by omega) (by omega))) (fun c204 => ?_)
      refine g_aload_n (n := 208) hX dX8_build_207 rfl rfl rfl ?_
      refine g_iload_n (n := 209) hX dX8_build_208 rfl rfl rfl ?_
      refine g_iload (n := 211) hX dX8_build_209 rfl rfl ?_
      refine g_iload_n (n := 212) hX dX8_build_211 rfl rfl rfl ?_
      refine g_bipush (n := 214) (v := 10) hX dX8_build_212 rfl rfl ?_
      refine g_iload (n := 216) hX dX8_build_214 rfl rfl ?_
      refine g_imul (n := 217) (v := nI (10 * k)) hX dX8_build_216 rfl (pk_mul 10 k) ?_
      refine g_bipush (n := 219) (v := 10) hX dX8_build_217 rfl rfl ?_
      refine g_iadd (n := 220) (v := nI (10 * k + 10)) hX dX8_build_219 rfl (nI_add _ 10) ?_
      refine g_icmp_ge (n := 223) (tgt := 227) hX dX8_build_220 rfl (by decide) (fun c220 => ?_) (fun c220 => absurd (nI_le (a := 10 * k + 10) (b := n0) (by omega) (by omega)) c220)
      refine g_bipush (n := 229) (v := 10) hX dX8_build_227 rfl rfl ?_
      refine g_iload (n := 231) hX dX8_build_229 rfl rfl ?_
      refine g_imul (n := 232) (v := nI (10 * k)) hX dX8_build_231 rfl (pk_mul 10 k) ?_
      refine g_bipush (n := 234) (v := 10) hX dX8_build_232 rfl rfl ?_
      refine g_iadd (n := 235) (v := nI (10 * k + 10)) hX dX8_build_234 rfl (nI_add _ 10) ?_
      refine g_callV0 (n := 238) (As := [.int (nI p), .int (nI k), .int (nI (10 * k + 10))]) (rest := []) hX hE hU hY dX8_build_235 rfl yv_X8_member um_X8_237 (m_member _ _ K am A σ pr p k (10 * k + 10) hpr hp (by omega) (by omega) (by omega) (fun r a b => ho r (by omega) (by omega)) (hr.le (by omega))) ⟨rfl, rfl⟩ (rm_le hRm rfl rfl) rfl (ci := 10) (q0 := 0) rfl rfl rfl rfl (Nat.le_of_ble_eq_true rfl) ⟨Nat.zero_le _, Nat.zero_le _⟩ (fun v0 w0 hq0 => ?_)
      rw [← hlast] at hq0; obtain ⟨rfl, rfl⟩ := hq0
      show G Γ (mW K am A (ap σ (bMember pr k (lastOf n0 k)))) 0 0 238 [(5, .int (nI k)), (4, .int (nI mem)), (3, .int (nI n0)), (2, .int (nI p)), (0, .ref am), (1, .int (nI c0))] []
      have hr : Lo (ap σ (bMember pr k (lastOf n0 k))) (286 * j + q) := hr.app (by have := bMember_len pr k (lastOf n0 k) (by omega); omega)
      refine g_iinc (n := 241) (v := nI (k + 1)) (lv' := [(5, .int (nI (k + 1))), (4, .int (nI mem)), (3, .int (nI n0)), (2, .int (nI p)), (0, .ref am), (1, .int (nI c0))]) hX dX8_build_238 rfl rfl (nI_add k 1) (by rw [hnL]; rfl) rfl ?_
      refine g_goto (n := 200) hX dX8_build_241 (by decide) ?_
      refine g_pick (lv' := [(5, .int (nI (k + 1))), (4, .int (nI mem)), (3, .int (nI n0)), (2, .int (nI p)), (0, .ref am), (1, .int (nI c0))]) [0, 1, 2, 3, 4, 5] rfl ?_
      refine ih (k + 1) _ (by omega) (hpr_ap hpr _) hr ?_
      intro hr9
      rw [catR_front, ← ap_ap] at hk0
      exact hk0 hr9
set_option maxHeartbeats 4000000 in
set_option maxRecDepth 100000 in
theorem m_build (l : Launch) (D : va_G) (K : Nat → ClassId) (am : Nat) (A : Nat → Nat) (σ : MS) (pr : PR) (c0 p n0 : Nat) (hc : c0 ≤ 40) (hcp : σ.1 7 c0 = nI p) (hcn : σ.1 8 c0 = nI n0) (hpr : prO σ p = pr) (hp : p ≤ 12) (hn : n0 ≤ 60) (ho : ∀ r, 1 ≤ r → r ≤ n0 → opOk (pr r).1) : Mc l yX8_build (wM yX8_build cX8_build 6 none) (rmL 7 0 0) D (yY K) [.ref am, .int (nI c0)] (mW K am A σ) (fun v w => v = none ∧ w = mW K am A (ap (sF σ 29 0) (bFile p (σ.1 5 p) (σ.1 0 p) pr n0))) 0 0 := by
  refine m_start (lv := [(0, .ref am), (1, .int (nI c0))]) rfl (Nat.le_of_ble_eq_true rfl) rfl (fun Γ hX hRm hnL hY hDD hLa hR hI hE => ?_)
  have hU : ∀ w ∈ wU, w ∈ wM yX8_build cX8_build 6 none := fun w h => wM_in h
  subst hLa
  subst hDD
  obtain ⟨mem, hmem⟩ : ∃ z, z = (n0 + 9) / 10 := ⟨_, rfl⟩
  have hmem6 : mem ≤ 6 := by omega
  have hr : Lo (sF σ 29 0) 3000 := ⟨0, rfl, Nat.le_refl _⟩
  by_cases hf : σ.1 5 p = 0
  · refine g_aload_n (n := 1) hX dX8_build_0 rfl rfl rfl ?_
    refine g_iconst (n := 2) (v := 0) hX dX8_build_1 rfl rfl ?_
    refine g_mput (n := 5) 29 hX hU dX8_build_2 rfl uf_X8_135 rfl rfl rfl rfl rfl ?_
    refine g_aload_n (n := 6) hX dX8_build_5 rfl rfl rfl ?_
    refine g_mget (n := 9) 11 (v := .ref (A 7)) hX hU dX8_build_6 rfl uf_X8_32 rfl rfl rfl ?_
    refine g_iload_n (n := 10) hX dX8_build_9 rfl rfl rfl ?_
    refine g_mild (n := 11) 7 (v := nI p) hX hY dX8_build_10 rfl rfl rfl (vp_in_nI (show c0 < mN 7 by show c0 < 41; omega) (by decide)) (by rw [nI_clamp (by omega)]; exact hcp) ?_
    refine g_istore_n (lv' := [(2, .int (nI p)), (0, .ref am), (1, .int (nI c0))]) (n := 12) hX dX8_build_11 rfl rfl (by rw [hnL]; rfl) rfl ?_
    refine g_aload_n (n := 13) hX dX8_build_12 rfl rfl rfl ?_
    refine g_mget (n := 16) 12 (v := .ref (A 8)) hX hU dX8_build_13 rfl uf_X8_35 rfl rfl rfl ?_
    refine g_iload_n (n := 17) hX dX8_build_16 rfl rfl rfl ?_
    refine g_mild (n := 18) 8 (v := nI n0) hX hY dX8_build_17 rfl rfl rfl (vp_in_nI (show c0 < mN 8 by show c0 < 41; omega) (by decide)) (by rw [nI_clamp (by omega)]; exact hcn) ?_
    refine g_istore_n (lv' := [(3, .int (nI n0)), (2, .int (nI p)), (0, .ref am), (1, .int (nI c0))]) (n := 19) hX dX8_build_18 rfl rfl (by rw [hnL]; rfl) rfl ?_
    refine g_iload_n (n := 20) hX dX8_build_19 rfl rfl rfl ?_
    refine g_bipush (n := 22) (v := 9) hX dX8_build_20 rfl rfl ?_
    refine g_iadd (n := 23) (v := nI (n0 + 9)) hX dX8_build_22 rfl (nI_add n0 9) ?_
    refine g_bipush (n := 25) (v := 10) hX dX8_build_23 rfl rfl ?_
    refine g_idiv (n := 26) (v := nI mem) hX dX8_build_25 rfl (by decide) (by rw [hmem]; exact pk_div (by omega) (by decide) (by decide)) ?_
    refine g_istore (lv' := [(4, .int (nI mem)), (3, .int (nI n0)), (2, .int (nI p)), (0, .ref am), (1, .int (nI c0))]) (n := 28) hX dX8_build_26 rfl (by rw [hnL]; rfl) rfl ?_
    refine g_aload_n (n := 29) hX dX8_build_28 rfl rfl rfl ?_
    refine g_ldc (n := 31) (v := (-889275714)) hX dX8_build_29 rfl (hU _ uk_X8_231) ?_
    refine g_callV0 (n := 34) (As := [.int (-889275714)]) (rest := []) hX hE hU hY dX8_build_31 rfl yv_X8_u4 um_X8_194 (m_u4 _ _ K am A (sF σ 29 0) (-889275714) (hr.le (by decide))) ⟨rfl, rfl⟩ (rm_le hRm rfl rfl) rfl (ci := 10) (q0 := 0) rfl rfl rfl rfl (Nat.le_of_ble_eq_true rfl) ⟨Nat.zero_le _, Nat.zero_le _⟩ (fun v0 w0 hq0 => ?_)
    obtain ⟨rfl, rfl⟩ := hq0
    show G Γ (mW K am A (ap (sF σ 29 0) (b4 (-889275714)))) 0 0 34 [(4, .int (nI mem)), (3, .int (nI n0)), (2, .int (nI p)), (0, .ref am), (1, .int (nI c0))] []
    have hr : Lo (ap (sF σ 29 0) (b4 (-889275714))) 2996 := hr.app (Nat.le_of_ble_eq_true rfl)
    refine g_aload_n (n := 35) hX dX8_build_34 rfl rfl rfl ?_
    refine g_iconst (n := 36) (v := 0) hX dX8_build_35 rfl rfl ?_
    refine g_callV0 (n := 39) (As := [.int 0]) (rest := []) hX hE hU hY dX8_build_36 rfl yv_X8_u2 um_X8_142 (m_u2 _ _ K am A (ap (sF σ 29 0) (b4 (-889275714))) 0 (hr.le (by decide))) ⟨rfl, rfl⟩ (rm_le hRm rfl rfl) rfl (ci := 10) (q0 := 0) rfl rfl rfl rfl (Nat.le_of_ble_eq_true rfl) ⟨Nat.zero_le _, Nat.zero_le _⟩ (fun v0 w0 hq0 => ?_)
    obtain ⟨rfl, rfl⟩ := hq0
    show G Γ (mW K am A (ap (ap (sF σ 29 0) (b4 (-889275714))) (b2 0))) 0 0 39 [(4, .int (nI mem)), (3, .int (nI n0)), (2, .int (nI p)), (0, .ref am), (1, .int (nI c0))] []
    have hr : Lo (ap (ap (sF σ 29 0) (b4 (-889275714))) (b2 0)) 2994 := hr.app (Nat.le_of_ble_eq_true rfl)
    refine g_aload_n (n := 40) hX dX8_build_39 rfl rfl rfl ?_
    refine g_bipush (n := 42) (v := 46) hX dX8_build_40 rfl rfl ?_
    refine g_callV0 (n := 45) (As := [.int 46]) (rest := []) hX hE hU hY dX8_build_42 rfl yv_X8_u2 um_X8_142 (m_u2 _ _ K am A (ap (ap (sF σ 29 0) (b4 (-889275714))) (b2 0)) 46 (hr.le (by decide))) ⟨rfl, rfl⟩ (rm_le hRm rfl rfl) rfl (ci := 10) (q0 := 0) rfl rfl rfl rfl (Nat.le_of_ble_eq_true rfl) ⟨Nat.zero_le _, Nat.zero_le _⟩ (fun v0 w0 hq0 => ?_)
    obtain ⟨rfl, rfl⟩ := hq0
    show G Γ (mW K am A (ap (ap (ap (sF σ 29 0) (b4 (-889275714))) (b2 0)) (b2 46))) 0 0 45 [(4, .int (nI mem)), (3, .int (nI n0)), (2, .int (nI p)), (0, .ref am), (1, .int (nI c0))] []
    have hr : Lo (ap (ap (ap (sF σ 29 0) (b4 (-889275714))) (b2 0)) (b2 46)) 2992 := hr.app (Nat.le_of_ble_eq_true rfl)
    refine g_aload_n (n := 46) hX dX8_build_45 rfl rfl rfl ?_
    refine g_iload_n (n := 47) hX dX8_build_46 rfl rfl rfl ?_
    refine g_iload (n := 49) hX dX8_build_47 rfl rfl ?_
    refine g_callV0 (n := 52) (As := [.int (nI p), .int (nI mem)]) (rest := []) hX hE hU hY dX8_build_49 rfl yv_X8_constants um_X8_232 (m_constants _ _ K am A (ap (ap (ap (sF σ 29 0) (b4 (-889275714))) (b2 0)) (b2 46)) p mem hp (by omega) (hr.le (by decide))) ⟨rfl, rfl⟩ (rm_le hRm rfl rfl) rfl (ci := 10) (q0 := 0) rfl rfl rfl rfl (Nat.le_of_ble_eq_true rfl) ⟨Nat.zero_le _, Nat.zero_le _⟩ (fun v0 w0 hq0 => ?_)
    obtain ⟨rfl, rfl⟩ := hq0
    show G Γ (mW K am A (ap (ap (ap (ap (sF σ 29 0) (b4 (-889275714))) (b2 0)) (b2 46)) (bConst p mem))) 0 0 52 [(4, .int (nI mem)), (3, .int (nI n0)), (2, .int (nI p)), (0, .ref am), (1, .int (nI c0))] []
    have hr : Lo (ap (ap (ap (ap (sF σ 29 0) (b4 (-889275714))) (b2 0)) (b2 46)) (bConst p mem)) 2532 := hr.app (by have := bConst_len p mem (by omega); omega)
    refine g_aload_n (n := 53) hX dX8_build_52 rfl rfl rfl ?_
    refine g_bipush (n := 55) (v := 33) hX dX8_build_53 rfl rfl ?_
    refine g_callV0 (n := 58) (As := [.int 33]) (rest := []) hX hE hU hY dX8_build_55 rfl yv_X8_u2 um_X8_142 (m_u2 _ _ K am A (ap (ap (ap (ap (sF σ 29 0) (b4 (-889275714))) (b2 0)) (b2 46)) (bConst p mem)) 33 (hr.le (by decide))) ⟨rfl, rfl⟩ (rm_le hRm rfl rfl) rfl (ci := 10) (q0 := 0) rfl rfl rfl rfl (Nat.le_of_ble_eq_true rfl) ⟨Nat.zero_le _, Nat.zero_le _⟩ (fun v0 w0 hq0 => ?_)
    obtain ⟨rfl, rfl⟩ := hq0
    show G Γ (mW K am A (ap (ap (ap (ap (ap (sF σ 29 0) (b4 (-889275714))) (b2 0)) (b2 46)) (bConst p mem)) (b2 33))) 0 0 58 [(4, .int (nI mem)), (3, .int (nI n0)), (2, .int (nI p)), (0, .ref am), (1, .int (nI c0))] []
    have hr : Lo (ap (ap (ap (ap (ap (sF σ 29 0) (b4 (-889275714))) (b2 0)) (b2 46)) (bConst p mem)) (b2 33)) 2530 := hr.app (Nat.le_of_ble_eq_true rfl)
    refine g_aload_n (n := 59) hX dX8_build_58 rfl rfl rfl ?_
    refine g_iconst (n := 60) (v := 2) hX dX8_build_59 rfl rfl ?_
    refine g_callV0 (n := 63) (As := [.int 2]) (rest := []) hX hE hU hY dX8_build_60 rfl yv_X8_u2 um_X8_142 (m_u2 _ _ K am A (ap (ap (ap (ap (ap (sF σ 29 0) (b4 (-889275714))) (b2 0)) (b2 46)) (bConst p mem)) (b2 33)) 2 (hr.le (by decide))) ⟨rfl, rfl⟩ (rm_le hRm rfl rfl) rfl (ci := 10) (q0 := 0) rfl rfl rfl rfl (Nat.le_of_ble_eq_true rfl) ⟨Nat.zero_le _, Nat.zero_le _⟩ (fun v0 w0 hq0 => ?_)
    obtain ⟨rfl, rfl⟩ := hq0
    show G Γ (mW K am A (ap (ap (ap (ap (ap (ap (sF σ 29 0) (b4 (-889275714))) (b2 0)) (b2 46)) (bConst p mem)) (b2 33)) (b2 2))) 0 0 63 [(4, .int (nI mem)), (3, .int (nI n0)), (2, .int (nI p)), (0, .ref am), (1, .int (nI c0))] []
    have hr : Lo (ap (ap (ap (ap (ap (ap (sF σ 29 0) (b4 (-889275714))) (b2 0)) (b2 46)) (bConst p mem)) (b2 33)) (b2 2)) 2528 := hr.app (Nat.le_of_ble_eq_true rfl)
    refine g_aload_n (n := 64) hX dX8_build_63 rfl rfl rfl ?_
    refine g_iconst (n := 65) (v := 4) hX dX8_build_64 rfl rfl ?_
    refine g_callV0 (n := 68) (As := [.int 4]) (rest := []) hX hE hU hY dX8_build_65 rfl yv_X8_u2 um_X8_142 (m_u2 _ _ K am A (ap (ap (ap (ap (ap (ap (sF σ 29 0) (b4 (-889275714))) (b2 0)) (b2 46)) (bConst p mem)) (b2 33)) (b2 2)) 4 (hr.le (by decide))) ⟨rfl, rfl⟩ (rm_le hRm rfl rfl) rfl (ci := 10) (q0 := 0) rfl rfl rfl rfl (Nat.le_of_ble_eq_true rfl) ⟨Nat.zero_le _, Nat.zero_le _⟩ (fun v0 w0 hq0 => ?_)
    obtain ⟨rfl, rfl⟩ := hq0
    show G Γ (mW K am A (ap (ap (ap (ap (ap (ap (ap (sF σ 29 0) (b4 (-889275714))) (b2 0)) (b2 46)) (bConst p mem)) (b2 33)) (b2 2)) (b2 4))) 0 0 68 [(4, .int (nI mem)), (3, .int (nI n0)), (2, .int (nI p)), (0, .ref am), (1, .int (nI c0))] []
    have hr : Lo (ap (ap (ap (ap (ap (ap (ap (sF σ 29 0) (b4 (-889275714))) (b2 0)) (b2 46)) (bConst p mem)) (b2 33)) (b2 2)) (b2 4)) 2526 := hr.app (Nat.le_of_ble_eq_true rfl)
    refine g_aload_n (n := 69) hX dX8_build_68 rfl rfl rfl ?_
    refine g_iconst (n := 70) (v := 0) hX dX8_build_69 rfl rfl ?_
    refine g_callV0 (n := 73) (As := [.int 0]) (rest := []) hX hE hU hY dX8_build_70 rfl yv_X8_u2 um_X8_142 (m_u2 _ _ K am A (ap (ap (ap (ap (ap (ap (ap (sF σ 29 0) (b4 (-889275714))) (b2 0)) (b2 46)) (bConst p mem)) (b2 33)) (b2 2)) (b2 4)) 0 (hr.le (by decide))) ⟨rfl, rfl⟩ (rm_le hRm rfl rfl) rfl (ci := 10) (q0 := 0) rfl rfl rfl rfl (Nat.le_of_ble_eq_true rfl) ⟨Nat.zero_le _, Nat.zero_le _⟩ (fun v0 w0 hq0 => ?_)
    obtain ⟨rfl, rfl⟩ := hq0
    show G Γ (mW K am A (ap (ap (ap (ap (ap (ap (ap (ap (sF σ 29 0) (b4 (-889275714))) (b2 0)) (b2 46)) (bConst p mem)) (b2 33)) (b2 2)) (b2 4)) (b2 0))) 0 0 73 [(4, .int (nI mem)), (3, .int (nI n0)), (2, .int (nI p)), (0, .ref am), (1, .int (nI c0))] []
    have hr : Lo (ap (ap (ap (ap (ap (ap (ap (ap (sF σ 29 0) (b4 (-889275714))) (b2 0)) (b2 46)) (bConst p mem)) (b2 33)) (b2 2)) (b2 4)) (b2 0)) 2524 := hr.app (Nat.le_of_ble_eq_true rfl)
    refine g_aload_n (n := 74) hX dX8_build_73 rfl rfl rfl ?_
    refine g_iconst (n := 75) (v := 1) hX dX8_build_74 rfl rfl ?_
    refine g_callV0 (n := 78) (As := [.int 1]) (rest := []) hX hE hU hY dX8_build_75 rfl yv_X8_u2 um_X8_142 (m_u2 _ _ K am A (ap (ap (ap (ap (ap (ap (ap (ap (sF σ 29 0) (b4 (-889275714))) (b2 0)) (b2 46)) (bConst p mem)) (b2 33)) (b2 2)) (b2 4)) (b2 0)) 1 (hr.le (by decide))) ⟨rfl, rfl⟩ (rm_le hRm rfl rfl) rfl (ci := 10) (q0 := 0) rfl rfl rfl rfl (Nat.le_of_ble_eq_true rfl) ⟨Nat.zero_le _, Nat.zero_le _⟩ (fun v0 w0 hq0 => ?_)
    obtain ⟨rfl, rfl⟩ := hq0
    show G Γ (mW K am A (ap (ap (ap (ap (ap (ap (ap (ap (ap (sF σ 29 0) (b4 (-889275714))) (b2 0)) (b2 46)) (bConst p mem)) (b2 33)) (b2 2)) (b2 4)) (b2 0)) (b2 1))) 0 0 78 [(4, .int (nI mem)), (3, .int (nI n0)), (2, .int (nI p)), (0, .ref am), (1, .int (nI c0))] []
    have hr : Lo (ap (ap (ap (ap (ap (ap (ap (ap (ap (sF σ 29 0) (b4 (-889275714))) (b2 0)) (b2 46)) (bConst p mem)) (b2 33)) (b2 2)) (b2 4)) (b2 0)) (b2 1)) 2522 := hr.app (Nat.le_of_ble_eq_true rfl)
    refine g_aload_n (n := 79) hX dX8_build_78 rfl rfl rfl ?_
    refine g_bipush (n := 81) (v := 8) hX dX8_build_79 rfl rfl ?_
    refine g_callV0 (n := 84) (As := [.int 8]) (rest := []) hX hE hU hY dX8_build_81 rfl yv_X8_u2 um_X8_142 (m_u2 _ _ K am A (ap (ap (ap (ap (ap (ap (ap (ap (ap (sF σ 29 0) (b4 (-889275714))) (b2 0)) (b2 46)) (bConst p mem)) (b2 33)) (b2 2)) (b2 4)) (b2 0)) (b2 1)) 8 (hr.le (by decide))) ⟨rfl, rfl⟩ (rm_le hRm rfl rfl) rfl (ci := 10) (q0 := 0) rfl rfl rfl rfl (Nat.le_of_ble_eq_true rfl) ⟨Nat.zero_le _, Nat.zero_le _⟩ (fun v0 w0 hq0 => ?_)
    obtain ⟨rfl, rfl⟩ := hq0
    show G Γ (mW K am A (ap (ap (ap (ap (ap (ap (ap (ap (ap (ap (sF σ 29 0) (b4 (-889275714))) (b2 0)) (b2 46)) (bConst p mem)) (b2 33)) (b2 2)) (b2 4)) (b2 0)) (b2 1)) (b2 8))) 0 0 84 [(4, .int (nI mem)), (3, .int (nI n0)), (2, .int (nI p)), (0, .ref am), (1, .int (nI c0))] []
    have hr : Lo (ap (ap (ap (ap (ap (ap (ap (ap (ap (ap (sF σ 29 0) (b4 (-889275714))) (b2 0)) (b2 46)) (bConst p mem)) (b2 33)) (b2 2)) (b2 4)) (b2 0)) (b2 1)) (b2 8)) 2520 := hr.app (Nat.le_of_ble_eq_true rfl)
    refine g_aload_n (n := 85) hX dX8_build_84 rfl rfl rfl ?_
    refine g_iconst (n := 86) (v := 5) hX dX8_build_85 rfl rfl ?_
    refine g_callV0 (n := 89) (As := [.int 5]) (rest := []) hX hE hU hY dX8_build_86 rfl yv_X8_u2 um_X8_142 (m_u2 _ _ K am A (ap (ap (ap (ap (ap (ap (ap (ap (ap (ap (sF σ 29 0) (b4 (-889275714))) (b2 0)) (b2 46)) (bConst p mem)) (b2 33)) (b2 2)) (b2 4)) (b2 0)) (b2 1)) (b2 8)) 5 (hr.le (by decide))) ⟨rfl, rfl⟩ (rm_le hRm rfl rfl) rfl (ci := 10) (q0 := 0) rfl rfl rfl rfl (Nat.le_of_ble_eq_true rfl) ⟨Nat.zero_le _, Nat.zero_le _⟩ (fun v0 w0 hq0 => ?_)
    obtain ⟨rfl, rfl⟩ := hq0
    show G Γ (mW K am A (ap (ap (ap (ap (ap (ap (ap (ap (ap (ap (ap (sF σ 29 0) (b4 (-889275714))) (b2 0)) (b2 46)) (bConst p mem)) (b2 33)) (b2 2)) (b2 4)) (b2 0)) (b2 1)) (b2 8)) (b2 5))) 0 0 89 [(4, .int (nI mem)), (3, .int (nI n0)), (2, .int (nI p)), (0, .ref am), (1, .int (nI c0))] []
    have hr : Lo (ap (ap (ap (ap (ap (ap (ap (ap (ap (ap (ap (sF σ 29 0) (b4 (-889275714))) (b2 0)) (b2 46)) (bConst p mem)) (b2 33)) (b2 2)) (b2 4)) (b2 0)) (b2 1)) (b2 8)) (b2 5)) 2518 := hr.app (Nat.le_of_ble_eq_true rfl)
    refine g_aload_n (n := 90) hX dX8_build_89 rfl rfl rfl ?_
    refine g_bipush (n := 92) (v := 6) hX dX8_build_90 rfl rfl ?_
    refine g_callV0 (n := 95) (As := [.int 6]) (rest := []) hX hE hU hY dX8_build_92 rfl yv_X8_u2 um_X8_142 (m_u2 _ _ K am A (ap (ap (ap (ap (ap (ap (ap (ap (ap (ap (ap (sF σ 29 0) (b4 (-889275714))) (b2 0)) (b2 46)) (bConst p mem)) (b2 33)) (b2 2)) (b2 4)) (b2 0)) (b2 1)) (b2 8)) (b2 5)) 6 (hr.le (by decide))) ⟨rfl, rfl⟩ (rm_le hRm rfl rfl) rfl (ci := 10) (q0 := 0) rfl rfl rfl rfl (Nat.le_of_ble_eq_true rfl) ⟨Nat.zero_le _, Nat.zero_le _⟩ (fun v0 w0 hq0 => ?_)
    obtain ⟨rfl, rfl⟩ := hq0
    show G Γ (mW K am A (ap (ap (ap (ap (ap (ap (ap (ap (ap (ap (ap (ap (sF σ 29 0) (b4 (-889275714))) (b2 0)) (b2 46)) (bConst p mem)) (b2 33)) (b2 2)) (b2 4)) (b2 0)) (b2 1)) (b2 8)) (b2 5)) (b2 6))) 0 0 95 [(4, .int (nI mem)), (3, .int (nI n0)), (2, .int (nI p)), (0, .ref am), (1, .int (nI c0))] []
    have hr : Lo (ap (ap (ap (ap (ap (ap (ap (ap (ap (ap (ap (ap (sF σ 29 0) (b4 (-889275714))) (b2 0)) (b2 46)) (bConst p mem)) (b2 33)) (b2 2)) (b2 4)) (b2 0)) (b2 1)) (b2 8)) (b2 5)) (b2 6)) 2516 := hr.app (Nat.le_of_ble_eq_true rfl)
    refine g_aload_n (n := 96) hX dX8_build_95 rfl rfl rfl ?_
    refine g_iconst (n := 97) (v := 0) hX dX8_build_96 rfl rfl ?_
    refine g_callV0 (n := 100) (As := [.int 0]) (rest := []) hX hE hU hY dX8_build_97 rfl yv_X8_u2 um_X8_142 (m_u2 _ _ K am A (ap (ap (ap (ap (ap (ap (ap (ap (ap (ap (ap (ap (sF σ 29 0) (b4 (-889275714))) (b2 0)) (b2 46)) (bConst p mem)) (b2 33)) (b2 2)) (b2 4)) (b2 0)) (b2 1)) (b2 8)) (b2 5)) (b2 6)) 0 (hr.le (by decide))) ⟨rfl, rfl⟩ (rm_le hRm rfl rfl) rfl (ci := 10) (q0 := 0) rfl rfl rfl rfl (Nat.le_of_ble_eq_true rfl) ⟨Nat.zero_le _, Nat.zero_le _⟩ (fun v0 w0 hq0 => ?_)
    obtain ⟨rfl, rfl⟩ := hq0
    show G Γ (mW K am A (ap (ap (ap (ap (ap (ap (ap (ap (ap (ap (ap (ap (ap (sF σ 29 0) (b4 (-889275714))) (b2 0)) (b2 46)) (bConst p mem)) (b2 33)) (b2 2)) (b2 4)) (b2 0)) (b2 1)) (b2 8)) (b2 5)) (b2 6)) (b2 0))) 0 0 100 [(4, .int (nI mem)), (3, .int (nI n0)), (2, .int (nI p)), (0, .ref am), (1, .int (nI c0))] []
    have hr : Lo (ap (ap (ap (ap (ap (ap (ap (ap (ap (ap (ap (ap (ap (sF σ 29 0) (b4 (-889275714))) (b2 0)) (b2 46)) (bConst p mem)) (b2 33)) (b2 2)) (b2 4)) (b2 0)) (b2 1)) (b2 8)) (b2 5)) (b2 6)) (b2 0)) 2514 := hr.app (Nat.le_of_ble_eq_true rfl)
    refine g_aload_n (n := 101) hX dX8_build_100 rfl rfl rfl ?_
    refine g_iconst (n := 102) (v := 1) hX dX8_build_101 rfl rfl ?_
    refine g_iload (n := 104) hX dX8_build_102 rfl rfl ?_
    refine g_iadd (n := 105) (v := nI (1 + mem)) hX dX8_build_104 rfl (nI_add 1 mem) ?_
    refine g_callV0 (n := 108) (As := [.int (nI (1 + mem))]) (rest := []) hX hE hU hY dX8_build_105 rfl yv_X8_u2 um_X8_142 (m_u2 _ _ K am A (ap (ap (ap (ap (ap (ap (ap (ap (ap (ap (ap (ap (ap (sF σ 29 0) (b4 (-889275714))) (b2 0)) (b2 46)) (bConst p mem)) (b2 33)) (b2 2)) (b2 4)) (b2 0)) (b2 1)) (b2 8)) (b2 5)) (b2 6)) (b2 0)) (nI (1 + mem)) (hr.le (by decide))) ⟨rfl, rfl⟩ (rm_le hRm rfl rfl) rfl (ci := 10) (q0 := 0) rfl rfl rfl rfl (Nat.le_of_ble_eq_true rfl) ⟨Nat.zero_le _, Nat.zero_le _⟩ (fun v0 w0 hq0 => ?_)
    obtain ⟨rfl, rfl⟩ := hq0
    show G Γ (mW K am A (ap (ap (ap (ap (ap (ap (ap (ap (ap (ap (ap (ap (ap (ap (sF σ 29 0) (b4 (-889275714))) (b2 0)) (b2 46)) (bConst p mem)) (b2 33)) (b2 2)) (b2 4)) (b2 0)) (b2 1)) (b2 8)) (b2 5)) (b2 6)) (b2 0)) (b2 (nI (1 + mem))))) 0 0 108 [(4, .int (nI mem)), (3, .int (nI n0)), (2, .int (nI p)), (0, .ref am), (1, .int (nI c0))] []
    have hr : Lo (ap (ap (ap (ap (ap (ap (ap (ap (ap (ap (ap (ap (ap (ap (sF σ 29 0) (b4 (-889275714))) (b2 0)) (b2 46)) (bConst p mem)) (b2 33)) (b2 2)) (b2 4)) (b2 0)) (b2 1)) (b2 8)) (b2 5)) (b2 6)) (b2 0)) (b2 (nI (1 + mem)))) 2512 := hr.app (Nat.le_of_ble_eq_true rfl)
    refine g_aload_n (n := 109) hX dX8_build_108 rfl rfl rfl ?_
    refine g_bipush (n := 111) (v := 26) hX dX8_build_109 rfl rfl ?_
    refine g_bipush (n := 113) (v := 27) hX dX8_build_111 rfl rfl ?_
    refine g_iconst (n := 114) (v := 2) hX dX8_build_113 rfl rfl ?_
    refine g_iconst (n := 115) (v := 0) hX dX8_build_114 rfl rfl ?_
    refine g_aload_n (n := 116) hX dX8_build_115 rfl rfl rfl ?_
    refine g_mget (n := 119) 9 (v := .ref (A 5)) hX hU dX8_build_116 rfl uf_X8_25 rfl rfl rfl ?_
    refine g_iload_n (n := 120) hX dX8_build_119 rfl rfl rfl ?_
    refine g_mzld (n := 121) 5 (v := σ.1 5 p) hX hY dX8_build_120 rfl rfl rfl (vp_in_nI (show p < mN 5 by show p < 13; omega) (by decide)) (by rw [nI_clamp (by omega)]; simp only [ap_arr _ _ (show (5 : Nat) ≠ 24 by decide)]; rfl) ?_
    refine g_if_eq (n := 124) (tgt := 129) hX dX8_build_121 rfl (by decide) (fun c121 => ?_) (fun c121 => absurd hf c121)
    refine g_bipush (n := 131) (v := 8) hX dX8_build_129 rfl rfl ?_
    refine g_callV0 (n := 134) (As := [.int 26, .int 27, .int 2, .int 0, .int 8]) (rest := []) hX hE hU hY dX8_build_131 rfl yv_X8_method um_X8_224 (m_method _ _ K am A (ap (ap (ap (ap (ap (ap (ap (ap (ap (ap (ap (ap (ap (ap (sF σ 29 0) (b4 (-889275714))) (b2 0)) (b2 46)) (bConst p mem)) (b2 33)) (b2 2)) (b2 4)) (b2 0)) (b2 1)) (b2 8)) (b2 5)) (b2 6)) (b2 0)) (b2 (nI (1 + mem)))) 26 27 2 0 8 (hr.le (by decide))) ⟨rfl, rfl⟩ (rm_le hRm rfl rfl) rfl (ci := 10) (q0 := 0) rfl rfl rfl rfl (Nat.le_of_ble_eq_true rfl) ⟨Nat.zero_le _, Nat.zero_le _⟩ (fun v0 w0 hq0 => ?_)
    obtain ⟨rfl, rfl⟩ := hq0
    show G Γ (mW K am A (ap (ap (ap (ap (ap (ap (ap (ap (ap (ap (ap (ap (ap (ap (ap (sF σ 29 0) (b4 (-889275714))) (b2 0)) (b2 46)) (bConst p mem)) (b2 33)) (b2 2)) (b2 4)) (b2 0)) (b2 1)) (b2 8)) (b2 5)) (b2 6)) (b2 0)) (b2 (nI (1 + mem)))) (bMethod 26 27 2 0 8))) 0 0 134 [(4, .int (nI mem)), (3, .int (nI n0)), (2, .int (nI p)), (0, .ref am), (1, .int (nI c0))] []
    have hr : Lo (ap (ap (ap (ap (ap (ap (ap (ap (ap (ap (ap (ap (ap (ap (ap (sF σ 29 0) (b4 (-889275714))) (b2 0)) (b2 46)) (bConst p mem)) (b2 33)) (b2 2)) (b2 4)) (b2 0)) (b2 1)) (b2 8)) (b2 5)) (b2 6)) (b2 0)) (b2 (nI (1 + mem)))) (bMethod 26 27 2 0 8)) 2490 := hr.app (Nat.le_of_ble_eq_true rfl)
    refine g_aload_n (n := 135) hX dX8_build_134 rfl rfl rfl ?_
    refine g_mget (n := 138) 9 (v := .ref (A 5)) hX hU dX8_build_135 rfl uf_X8_25 rfl rfl rfl ?_
    refine g_iload_n (n := 139) hX dX8_build_138 rfl rfl rfl ?_
    refine g_mzld (n := 140) 5 (v := σ.1 5 p) hX hY dX8_build_139 rfl rfl rfl (vp_in_nI (show p < mN 5 by show p < 13; omega) (by decide)) (by rw [nI_clamp (by omega)]; simp only [ap_arr _ _ (show (5 : Nat) ≠ 24 by decide)]; rfl) ?_
    refine g_if_eq (n := 143) (tgt := 149) hX dX8_build_140 rfl (by decide) (fun c140 => ?_) (fun c140 => absurd hf c140)
    refine g_aload_n (n := 150) hX dX8_build_149 rfl rfl rfl ?_
    refine g_aload_n (n := 151) hX dX8_build_150 rfl rfl rfl ?_
    refine g_mget (n := 154) 4 (v := .ref (A 0)) hX hU dX8_build_151 rfl uf_X8_7 rfl rfl rfl ?_
    refine g_iload_n (n := 155) hX dX8_build_154 rfl rfl rfl ?_
    refine g_mild (n := 156) 0 (v := σ.1 0 p) hX hY dX8_build_155 rfl rfl rfl (vp_in_nI (show p < mN 0 by show p < 13; omega) (by decide)) (by rw [nI_clamp (by omega)]; simp only [ap_arr _ _ (show (0 : Nat) ≠ 24 by decide)]; rfl) ?_
    refine g_callV0 (n := 159) (As := [.int (σ.1 0 p)]) (rest := []) hX hE hU hY dX8_build_156 rfl yv_X8_push um_X8_210 (m_push _ _ K am A (ap (ap (ap (ap (ap (ap (ap (ap (ap (ap (ap (ap (ap (ap (ap (sF σ 29 0) (b4 (-889275714))) (b2 0)) (b2 46)) (bConst p mem)) (b2 33)) (b2 2)) (b2 4)) (b2 0)) (b2 1)) (b2 8)) (b2 5)) (b2 6)) (b2 0)) (b2 (nI (1 + mem)))) (bMethod 26 27 2 0 8)) (σ.1 0 p) (hr.le (by decide))) ⟨rfl, rfl⟩ (rm_le hRm rfl rfl) rfl (ci := 10) (q0 := 0) rfl rfl rfl rfl (Nat.le_of_ble_eq_true rfl) ⟨Nat.zero_le _, Nat.zero_le _⟩ (fun v0 w0 hq0 => ?_)
    obtain ⟨rfl, rfl⟩ := hq0
    show G Γ (mW K am A (ap (ap (ap (ap (ap (ap (ap (ap (ap (ap (ap (ap (ap (ap (ap (ap (sF σ 29 0) (b4 (-889275714))) (b2 0)) (b2 46)) (bConst p mem)) (b2 33)) (b2 2)) (b2 4)) (b2 0)) (b2 1)) (b2 8)) (b2 5)) (b2 6)) (b2 0)) (b2 (nI (1 + mem)))) (bMethod 26 27 2 0 8)) (bPush (σ.1 0 p)))) 0 0 159 [(4, .int (nI mem)), (3, .int (nI n0)), (2, .int (nI p)), (0, .ref am), (1, .int (nI c0))] []
    have hr : Lo (ap (ap (ap (ap (ap (ap (ap (ap (ap (ap (ap (ap (ap (ap (ap (ap (sF σ 29 0) (b4 (-889275714))) (b2 0)) (b2 46)) (bConst p mem)) (b2 33)) (b2 2)) (b2 4)) (b2 0)) (b2 1)) (b2 8)) (b2 5)) (b2 6)) (b2 0)) (b2 (nI (1 + mem)))) (bMethod 26 27 2 0 8)) (bPush (σ.1 0 p))) 2488 := hr.app (Nat.le_of_ble_eq_true rfl)
    refine g_aload_n (n := 160) hX dX8_build_159 rfl rfl rfl ?_
    refine g_sipush (n := 163) (v := 188) hX dX8_build_160 rfl rfl ?_
    refine g_callV0 (n := 166) (As := [.int 188]) (rest := []) hX hE hU hY dX8_build_163 rfl yv_X8_u1 um_X8_138 (m_u1 _ _ K am A (ap (ap (ap (ap (ap (ap (ap (ap (ap (ap (ap (ap (ap (ap (ap (ap (sF σ 29 0) (b4 (-889275714))) (b2 0)) (b2 46)) (bConst p mem)) (b2 33)) (b2 2)) (b2 4)) (b2 0)) (b2 1)) (b2 8)) (b2 5)) (b2 6)) (b2 0)) (b2 (nI (1 + mem)))) (bMethod 26 27 2 0 8)) (bPush (σ.1 0 p))) 188 (hr.le (by decide))) ⟨rfl, rfl⟩ (rm_le hRm rfl rfl) rfl (ci := 10) (q0 := 0) rfl rfl rfl rfl (Nat.le_of_ble_eq_true rfl) ⟨Nat.zero_le _, Nat.zero_le _⟩ (fun v0 w0 hq0 => ?_)
    obtain ⟨rfl, rfl⟩ := hq0
    show G Γ (mW K am A (ap (ap (ap (ap (ap (ap (ap (ap (ap (ap (ap (ap (ap (ap (ap (ap (ap (sF σ 29 0) (b4 (-889275714))) (b2 0)) (b2 46)) (bConst p mem)) (b2 33)) (b2 2)) (b2 4)) (b2 0)) (b2 1)) (b2 8)) (b2 5)) (b2 6)) (b2 0)) (b2 (nI (1 + mem)))) (bMethod 26 27 2 0 8)) (bPush (σ.1 0 p))) ([188]))) 0 0 166 [(4, .int (nI mem)), (3, .int (nI n0)), (2, .int (nI p)), (0, .ref am), (1, .int (nI c0))] []
    have hr : Lo (ap (ap (ap (ap (ap (ap (ap (ap (ap (ap (ap (ap (ap (ap (ap (ap (ap (sF σ 29 0) (b4 (-889275714))) (b2 0)) (b2 46)) (bConst p mem)) (b2 33)) (b2 2)) (b2 4)) (b2 0)) (b2 1)) (b2 8)) (b2 5)) (b2 6)) (b2 0)) (b2 (nI (1 + mem)))) (bMethod 26 27 2 0 8)) (bPush (σ.1 0 p))) ([188])) 2487 := hr.app (Nat.le_of_ble_eq_true rfl)
    refine g_aload_n (n := 167) hX dX8_build_166 rfl rfl rfl ?_
    refine g_bipush (n := 169) (v := 8) hX dX8_build_167 rfl rfl ?_
    refine g_callV0 (n := 172) (As := [.int 8]) (rest := []) hX hE hU hY dX8_build_169 rfl yv_X8_u1 um_X8_138 (m_u1 _ _ K am A (ap (ap (ap (ap (ap (ap (ap (ap (ap (ap (ap (ap (ap (ap (ap (ap (ap (sF σ 29 0) (b4 (-889275714))) (b2 0)) (b2 46)) (bConst p mem)) (b2 33)) (b2 2)) (b2 4)) (b2 0)) (b2 1)) (b2 8)) (b2 5)) (b2 6)) (b2 0)) (b2 (nI (1 + mem)))) (bMethod 26 27 2 0 8)) (bPush (σ.1 0 p))) ([188])) 8 (hr.le (by decide))) ⟨rfl, rfl⟩ (rm_le hRm rfl rfl) rfl (ci := 10) (q0 := 0) rfl rfl rfl rfl (Nat.le_of_ble_eq_true rfl) ⟨Nat.zero_le _, Nat.zero_le _⟩ (fun v0 w0 hq0 => ?_)
    obtain ⟨rfl, rfl⟩ := hq0
    show G Γ (mW K am A (ap (ap (ap (ap (ap (ap (ap (ap (ap (ap (ap (ap (ap (ap (ap (ap (ap (ap (sF σ 29 0) (b4 (-889275714))) (b2 0)) (b2 46)) (bConst p mem)) (b2 33)) (b2 2)) (b2 4)) (b2 0)) (b2 1)) (b2 8)) (b2 5)) (b2 6)) (b2 0)) (b2 (nI (1 + mem)))) (bMethod 26 27 2 0 8)) (bPush (σ.1 0 p))) ([188])) ([8]))) 0 0 172 [(4, .int (nI mem)), (3, .int (nI n0)), (2, .int (nI p)), (0, .ref am), (1, .int (nI c0))] []
    have hr : Lo (ap (ap (ap (ap (ap (ap (ap (ap (ap (ap (ap (ap (ap (ap (ap (ap (ap (ap (sF σ 29 0) (b4 (-889275714))) (b2 0)) (b2 46)) (bConst p mem)) (b2 33)) (b2 2)) (b2 4)) (b2 0)) (b2 1)) (b2 8)) (b2 5)) (b2 6)) (b2 0)) (b2 (nI (1 + mem)))) (bMethod 26 27 2 0 8)) (bPush (σ.1 0 p))) ([188])) ([8])) 2486 := hr.app (Nat.le_of_ble_eq_true rfl)
    refine g_aload_n (n := 173) hX dX8_build_172 rfl rfl rfl ?_
    refine g_sipush (n := 176) (v := 179) hX dX8_build_173 rfl rfl ?_
    refine g_callV0 (n := 179) (As := [.int 179]) (rest := []) hX hE hU hY dX8_build_176 rfl yv_X8_u1 um_X8_138 (m_u1 _ _ K am A (ap (ap (ap (ap (ap (ap (ap (ap (ap (ap (ap (ap (ap (ap (ap (ap (ap (ap (sF σ 29 0) (b4 (-889275714))) (b2 0)) (b2 46)) (bConst p mem)) (b2 33)) (b2 2)) (b2 4)) (b2 0)) (b2 1)) (b2 8)) (b2 5)) (b2 6)) (b2 0)) (b2 (nI (1 + mem)))) (bMethod 26 27 2 0 8)) (bPush (σ.1 0 p))) ([188])) ([8])) 179 (hr.le (by decide))) ⟨rfl, rfl⟩ (rm_le hRm rfl rfl) rfl (ci := 10) (q0 := 0) rfl rfl rfl rfl (Nat.le_of_ble_eq_true rfl) ⟨Nat.zero_le _, Nat.zero_le _⟩ (fun v0 w0 hq0 => ?_)
    obtain ⟨rfl, rfl⟩ := hq0
    show G Γ (mW K am A (ap (ap (ap (ap (ap (ap (ap (ap (ap (ap (ap (ap (ap (ap (ap (ap (ap (ap (ap (sF σ 29 0) (b4 (-889275714))) (b2 0)) (b2 46)) (bConst p mem)) (b2 33)) (b2 2)) (b2 4)) (b2 0)) (b2 1)) (b2 8)) (b2 5)) (b2 6)) (b2 0)) (b2 (nI (1 + mem)))) (bMethod 26 27 2 0 8)) (bPush (σ.1 0 p))) ([188])) ([8])) ([179]))) 0 0 179 [(4, .int (nI mem)), (3, .int (nI n0)), (2, .int (nI p)), (0, .ref am), (1, .int (nI c0))] []
    have hr : Lo (ap (ap (ap (ap (ap (ap (ap (ap (ap (ap (ap (ap (ap (ap (ap (ap (ap (ap (ap (sF σ 29 0) (b4 (-889275714))) (b2 0)) (b2 46)) (bConst p mem)) (b2 33)) (b2 2)) (b2 4)) (b2 0)) (b2 1)) (b2 8)) (b2 5)) (b2 6)) (b2 0)) (b2 (nI (1 + mem)))) (bMethod 26 27 2 0 8)) (bPush (σ.1 0 p))) ([188])) ([8])) ([179])) 2485 := hr.app (Nat.le_of_ble_eq_true rfl)
    refine g_aload_n (n := 180) hX dX8_build_179 rfl rfl rfl ?_
    refine g_bipush (n := 182) (v := 8) hX dX8_build_180 rfl rfl ?_
    refine g_callV0 (n := 185) (As := [.int 8]) (rest := []) hX hE hU hY dX8_build_182 rfl yv_X8_u2 um_X8_142 (m_u2 _ _ K am A (ap (ap (ap (ap (ap (ap (ap (ap (ap (ap (ap (ap (ap (ap (ap (ap (ap (ap (ap (sF σ 29 0) (b4 (-889275714))) (b2 0)) (b2 46)) (bConst p mem)) (b2 33)) (b2 2)) (b2 4)) (b2 0)) (b2 1)) (b2 8)) (b2 5)) (b2 6)) (b2 0)) (b2 (nI (1 + mem)))) (bMethod 26 27 2 0 8)) (bPush (σ.1 0 p))) ([188])) ([8])) ([179])) 8 (hr.le (by decide))) ⟨rfl, rfl⟩ (rm_le hRm rfl rfl) rfl (ci := 10) (q0 := 0) rfl rfl rfl rfl (Nat.le_of_ble_eq_true rfl) ⟨Nat.zero_le _, Nat.zero_le _⟩ (fun v0 w0 hq0 => ?_)
    obtain ⟨rfl, rfl⟩ := hq0
    show G Γ (mW K am A (ap (ap (ap (ap (ap (ap (ap (ap (ap (ap (ap (ap (ap (ap (ap (ap (ap (ap (ap (ap (sF σ 29 0) (b4 (-889275714))) (b2 0)) (b2 46)) (bConst p mem)) (b2 33)) (b2 2)) (b2 4)) (b2 0)) (b2 1)) (b2 8)) (b2 5)) (b2 6)) (b2 0)) (b2 (nI (1 + mem)))) (bMethod 26 27 2 0 8)) (bPush (σ.1 0 p))) ([188])) ([8])) ([179])) (b2 8))) 0 0 185 [(4, .int (nI mem)), (3, .int (nI n0)), (2, .int (nI p)), (0, .ref am), (1, .int (nI c0))] []
    have hr : Lo (ap (ap (ap (ap (ap (ap (ap (ap (ap (ap (ap (ap (ap (ap (ap (ap (ap (ap (ap (ap (sF σ 29 0) (b4 (-889275714))) (b2 0)) (b2 46)) (bConst p mem)) (b2 33)) (b2 2)) (b2 4)) (b2 0)) (b2 1)) (b2 8)) (b2 5)) (b2 6)) (b2 0)) (b2 (nI (1 + mem)))) (bMethod 26 27 2 0 8)) (bPush (σ.1 0 p))) ([188])) ([8])) ([179])) (b2 8)) 2483 := hr.app (Nat.le_of_ble_eq_true rfl)
    refine g_aload_n (n := 186) hX dX8_build_185 rfl rfl rfl ?_
    refine g_sipush (n := 189) (v := 177) hX dX8_build_186 rfl rfl ?_
    refine g_callV0 (n := 192) (As := [.int 177]) (rest := []) hX hE hU hY dX8_build_189 rfl yv_X8_u1 um_X8_138 (m_u1 _ _ K am A (ap (ap (ap (ap (ap (ap (ap (ap (ap (ap (ap (ap (ap (ap (ap (ap (ap (ap (ap (ap (sF σ 29 0) (b4 (-889275714))) (b2 0)) (b2 46)) (bConst p mem)) (b2 33)) (b2 2)) (b2 4)) (b2 0)) (b2 1)) (b2 8)) (b2 5)) (b2 6)) (b2 0)) (b2 (nI (1 + mem)))) (bMethod 26 27 2 0 8)) (bPush (σ.1 0 p))) ([188])) ([8])) ([179])) (b2 8)) 177 (hr.le (by decide))) ⟨rfl, rfl⟩ (rm_le hRm rfl rfl) rfl (ci := 10) (q0 := 0) rfl rfl rfl rfl (Nat.le_of_ble_eq_true rfl) ⟨Nat.zero_le _, Nat.zero_le _⟩ (fun v0 w0 hq0 => ?_)
    obtain ⟨rfl, rfl⟩ := hq0
    show G Γ (mW K am A (ap (ap (ap (ap (ap (ap (ap (ap (ap (ap (ap (ap (ap (ap (ap (ap (ap (ap (ap (ap (ap (sF σ 29 0) (b4 (-889275714))) (b2 0)) (b2 46)) (bConst p mem)) (b2 33)) (b2 2)) (b2 4)) (b2 0)) (b2 1)) (b2 8)) (b2 5)) (b2 6)) (b2 0)) (b2 (nI (1 + mem)))) (bMethod 26 27 2 0 8)) (bPush (σ.1 0 p))) ([188])) ([8])) ([179])) (b2 8)) ([177]))) 0 0 192 [(4, .int (nI mem)), (3, .int (nI n0)), (2, .int (nI p)), (0, .ref am), (1, .int (nI c0))] []
    have hr : Lo (ap (ap (ap (ap (ap (ap (ap (ap (ap (ap (ap (ap (ap (ap (ap (ap (ap (ap (ap (ap (ap (sF σ 29 0) (b4 (-889275714))) (b2 0)) (b2 46)) (bConst p mem)) (b2 33)) (b2 2)) (b2 4)) (b2 0)) (b2 1)) (b2 8)) (b2 5)) (b2 6)) (b2 0)) (b2 (nI (1 + mem)))) (bMethod 26 27 2 0 8)) (bPush (σ.1 0 p))) ([188])) ([8])) ([179])) (b2 8)) ([177])) 2482 := hr.app (Nat.le_of_ble_eq_true rfl)
    refine g_aload_n (n := 193) hX dX8_build_192 rfl rfl rfl ?_
    refine g_iconst (n := 194) (v := 0) hX dX8_build_193 rfl rfl ?_
    refine g_callV0 (n := 197) (As := [.int 0]) (rest := []) hX hE hU hY dX8_build_194 rfl yv_X8_u4 um_X8_194 (m_u4 _ _ K am A (ap (ap (ap (ap (ap (ap (ap (ap (ap (ap (ap (ap (ap (ap (ap (ap (ap (ap (ap (ap (ap (sF σ 29 0) (b4 (-889275714))) (b2 0)) (b2 46)) (bConst p mem)) (b2 33)) (b2 2)) (b2 4)) (b2 0)) (b2 1)) (b2 8)) (b2 5)) (b2 6)) (b2 0)) (b2 (nI (1 + mem)))) (bMethod 26 27 2 0 8)) (bPush (σ.1 0 p))) ([188])) ([8])) ([179])) (b2 8)) ([177])) 0 (hr.le (by decide))) ⟨rfl, rfl⟩ (rm_le hRm rfl rfl) rfl (ci := 10) (q0 := 0) rfl rfl rfl rfl (Nat.le_of_ble_eq_true rfl) ⟨Nat.zero_le _, Nat.zero_le _⟩ (fun v0 w0 hq0 => ?_)
    obtain ⟨rfl, rfl⟩ := hq0
    show G Γ (mW K am A (ap (ap (ap (ap (ap (ap (ap (ap (ap (ap (ap (ap (ap (ap (ap (ap (ap (ap (ap (ap (ap (ap (sF σ 29 0) (b4 (-889275714))) (b2 0)) (b2 46)) (bConst p mem)) (b2 33)) (b2 2)) (b2 4)) (b2 0)) (b2 1)) (b2 8)) (b2 5)) (b2 6)) (b2 0)) (b2 (nI (1 + mem)))) (bMethod 26 27 2 0 8)) (bPush (σ.1 0 p))) ([188])) ([8])) ([179])) (b2 8)) ([177])) (b4 0))) 0 0 197 [(4, .int (nI mem)), (3, .int (nI n0)), (2, .int (nI p)), (0, .ref am), (1, .int (nI c0))] []
    have hr : Lo (ap (ap (ap (ap (ap (ap (ap (ap (ap (ap (ap (ap (ap (ap (ap (ap (ap (ap (ap (ap (ap (ap (sF σ 29 0) (b4 (-889275714))) (b2 0)) (b2 46)) (bConst p mem)) (b2 33)) (b2 2)) (b2 4)) (b2 0)) (b2 1)) (b2 8)) (b2 5)) (b2 6)) (b2 0)) (b2 (nI (1 + mem)))) (bMethod 26 27 2 0 8)) (bPush (σ.1 0 p))) ([188])) ([8])) ([179])) (b2 8)) ([177])) (b4 0)) 2478 := hr.app (Nat.le_of_ble_eq_true rfl)
    refine g_iconst (n := 198) (v := 0) hX dX8_build_197 rfl rfl ?_
    refine g_istore (lv' := [(5, .int 0), (4, .int (nI mem)), (3, .int (nI n0)), (2, .int (nI p)), (0, .ref am), (1, .int (nI c0))]) (n := 200) hX dX8_build_198 rfl (by rw [hnL]; rfl) rfl ?_
    refine g_pick (lv' := [(5, .int 0), (4, .int (nI mem)), (3, .int (nI n0)), (2, .int (nI p)), (0, .ref am), (1, .int (nI c0))]) [0, 1, 2, 3, 4, 5] rfl ?_
    refine lp_build hX hE hRm hnL hY pr p n0 mem c0 hp hn hmem ho 2 mem 0 _ (by omega) (by simp only [prO_ap]; exact hpr) (hr.le (by omega)) ?_
    intro hr
    refine g_aload_n (n := 245) hX dX8_build_244 rfl rfl rfl ?_
    refine g_iconst (n := 246) (v := 0) hX dX8_build_245 rfl rfl ?_
    refine g_callV0 (n := 249) (As := [.int 0]) (rest := []) hX hE hU hY dX8_build_246 rfl yv_X8_u2 um_X8_142 (m_u2 _ _ K am A (ap (ap (ap (ap (ap (ap (ap (ap (ap (ap (ap (ap (ap (ap (ap (ap (ap (ap (ap (ap (ap (ap (ap (sF σ 29 0) (b4 (-889275714))) (b2 0)) (b2 46)) (bConst p mem)) (b2 33)) (b2 2)) (b2 4)) (b2 0)) (b2 1)) (b2 8)) (b2 5)) (b2 6)) (b2 0)) (b2 (nI (1 + mem)))) (bMethod 26 27 2 0 8)) (bPush (σ.1 0 p))) ([188])) ([8])) ([179])) (b2 8)) ([177])) (b4 0)) (catR (fun k => bMember pr k (lastOf n0 k)) 0 mem)) 0 (hr.le (by decide))) ⟨rfl, rfl⟩ (rm_le hRm rfl rfl) rfl (ci := 10) (q0 := 0) rfl rfl rfl rfl (Nat.le_of_ble_eq_true rfl) ⟨Nat.zero_le _, Nat.zero_le _⟩ (fun v0 w0 hq0 => ?_)
    obtain ⟨rfl, rfl⟩ := hq0
    show G Γ (mW K am A (ap (ap (ap (ap (ap (ap (ap (ap (ap (ap (ap (ap (ap (ap (ap (ap (ap (ap (ap (ap (ap (ap (ap (ap (sF σ 29 0) (b4 (-889275714))) (b2 0)) (b2 46)) (bConst p mem)) (b2 33)) (b2 2)) (b2 4)) (b2 0)) (b2 1)) (b2 8)) (b2 5)) (b2 6)) (b2 0)) (b2 (nI (1 + mem)))) (bMethod 26 27 2 0 8)) (bPush (σ.1 0 p))) ([188])) ([8])) ([179])) (b2 8)) ([177])) (b4 0)) (catR (fun k => bMember pr k (lastOf n0 k)) 0 mem)) (b2 0))) 0 0 249 [(5, .int (nI mem)), (4, .int (nI mem)), (3, .int (nI n0)), (2, .int (nI p)), (0, .ref am), (1, .int (nI c0))] []
    have hr : Lo (ap (ap (ap (ap (ap (ap (ap (ap (ap (ap (ap (ap (ap (ap (ap (ap (ap (ap (ap (ap (ap (ap (ap (ap (sF σ 29 0) (b4 (-889275714))) (b2 0)) (b2 46)) (bConst p mem)) (b2 33)) (b2 2)) (b2 4)) (b2 0)) (b2 1)) (b2 8)) (b2 5)) (b2 6)) (b2 0)) (b2 (nI (1 + mem)))) (bMethod 26 27 2 0 8)) (bPush (σ.1 0 p))) ([188])) ([8])) ([179])) (b2 8)) ([177])) (b4 0)) (catR (fun k => bMember pr k (lastOf n0 k)) 0 mem)) (b2 0)) 0 := hr.app (Nat.le_of_ble_eq_true rfl)
    exact g_vret hX hR dX8_build_249 ⟨rfl, by rw [bFile, bFace, bStart, bMems, if_pos hf, if_pos hf, ← hmem]; simp only [ap_ap, List.append_assoc, List.nil_append, lastOf]⟩
  · refine g_aload_n (n := 1) hX dX8_build_0 rfl rfl rfl ?_
    refine g_iconst (n := 2) (v := 0) hX dX8_build_1 rfl rfl ?_
    refine g_mput (n := 5) 29 hX hU dX8_build_2 rfl uf_X8_135 rfl rfl rfl rfl rfl ?_
    refine g_aload_n (n := 6) hX dX8_build_5 rfl rfl rfl ?_
    refine g_mget (n := 9) 11 (v := .ref (A 7)) hX hU dX8_build_6 rfl uf_X8_32 rfl rfl rfl ?_
    refine g_iload_n (n := 10) hX dX8_build_9 rfl rfl rfl ?_
    refine g_mild (n := 11) 7 (v := nI p) hX hY dX8_build_10 rfl rfl rfl (vp_in_nI (show c0 < mN 7 by show c0 < 41; omega) (by decide)) (by rw [nI_clamp (by omega)]; exact hcp) ?_
    refine g_istore_n (lv' := [(2, .int (nI p)), (0, .ref am), (1, .int (nI c0))]) (n := 12) hX dX8_build_11 rfl rfl (by rw [hnL]; rfl) rfl ?_
    refine g_aload_n (n := 13) hX dX8_build_12 rfl rfl rfl ?_
    refine g_mget (n := 16) 12 (v := .ref (A 8)) hX hU dX8_build_13 rfl uf_X8_35 rfl rfl rfl ?_
    refine g_iload_n (n := 17) hX dX8_build_16 rfl rfl rfl ?_
    refine g_mild (n := 18) 8 (v := nI n0) hX hY dX8_build_17 rfl rfl rfl (vp_in_nI (show c0 < mN 8 by show c0 < 41; omega) (by decide)) (by rw [nI_clamp (by omega)]; exact hcn) ?_
    refine g_istore_n (lv' := [(3, .int (nI n0)), (2, .int (nI p)), (0, .ref am), (1, .int (nI c0))]) (n := 19) hX dX8_build_18 rfl rfl (by rw [hnL]; rfl) rfl ?_
    refine g_iload_n (n := 20) hX dX8_build_19 rfl rfl rfl ?_
    refine g_bipush (n := 22) (v := 9) hX dX8_build_20 rfl rfl ?_
    refine g_iadd (n := 23) (v := nI (n0 + 9)) hX dX8_build_22 rfl (nI_add n0 9) ?_
    refine g_bipush (n := 25) (v := 10) hX dX8_build_23 rfl rfl ?_
    refine g_idiv (n := 26) (v := nI mem) hX dX8_build_25 rfl (by decide) (by rw [hmem]; exact pk_div (by omega) (by decide) (by decide)) ?_
    refine g_istore (lv' := [(4, .int (nI mem)), (3, .int (nI n0)), (2, .int (nI p)), (0, .ref am), (1, .int (nI c0))]) (n := 28) hX dX8_build_26 rfl (by rw [hnL]; rfl) rfl ?_
    refine g_aload_n (n := 29) hX dX8_build_28 rfl rfl rfl ?_
    refine g_ldc (n := 31) (v := (-889275714)) hX dX8_build_29 rfl (hU _ uk_X8_231) ?_
    refine g_callV0 (n := 34) (As := [.int (-889275714)]) (rest := []) hX hE hU hY dX8_build_31 rfl yv_X8_u4 um_X8_194 (m_u4 _ _ K am A (sF σ 29 0) (-889275714) (hr.le (by decide))) ⟨rfl, rfl⟩ (rm_le hRm rfl rfl) rfl (ci := 10) (q0 := 0) rfl rfl rfl rfl (Nat.le_of_ble_eq_true rfl) ⟨Nat.zero_le _, Nat.zero_le _⟩ (fun v0 w0 hq0 => ?_)
    obtain ⟨rfl, rfl⟩ := hq0
    show G Γ (mW K am A (ap (sF σ 29 0) (b4 (-889275714)))) 0 0 34 [(4, .int (nI mem)), (3, .int (nI n0)), (2, .int (nI p)), (0, .ref am), (1, .int (nI c0))] []
    have hr : Lo (ap (sF σ 29 0) (b4 (-889275714))) 2996 := hr.app (Nat.le_of_ble_eq_true rfl)
    refine g_aload_n (n := 35) hX dX8_build_34 rfl rfl rfl ?_
    refine g_iconst (n := 36) (v := 0) hX dX8_build_35 rfl rfl ?_
    refine g_callV0 (n := 39) (As := [.int 0]) (rest := []) hX hE hU hY dX8_build_36 rfl yv_X8_u2 um_X8_142 (m_u2 _ _ K am A (ap (sF σ 29 0) (b4 (-889275714))) 0 (hr.le (by decide))) ⟨rfl, rfl⟩ (rm_le hRm rfl rfl) rfl (ci := 10) (q0 := 0) rfl rfl rfl rfl (Nat.le_of_ble_eq_true rfl) ⟨Nat.zero_le _, Nat.zero_le _⟩ (fun v0 w0 hq0 => ?_)
    obtain ⟨rfl, rfl⟩ := hq0
    show G Γ (mW K am A (ap (ap (sF σ 29 0) (b4 (-889275714))) (b2 0))) 0 0 39 [(4, .int (nI mem)), (3, .int (nI n0)), (2, .int (nI p)), (0, .ref am), (1, .int (nI c0))] []
    have hr : Lo (ap (ap (sF σ 29 0) (b4 (-889275714))) (b2 0)) 2994 := hr.app (Nat.le_of_ble_eq_true rfl)
    refine g_aload_n (n := 40) hX dX8_build_39 rfl rfl rfl ?_
    refine g_bipush (n := 42) (v := 46) hX dX8_build_40 rfl rfl ?_
    refine g_callV0 (n := 45) (As := [.int 46]) (rest := []) hX hE hU hY dX8_build_42 rfl yv_X8_u2 um_X8_142 (m_u2 _ _ K am A (ap (ap (sF σ 29 0) (b4 (-889275714))) (b2 0)) 46 (hr.le (by decide))) ⟨rfl, rfl⟩ (rm_le hRm rfl rfl) rfl (ci := 10) (q0 := 0) rfl rfl rfl rfl (Nat.le_of_ble_eq_true rfl) ⟨Nat.zero_le _, Nat.zero_le _⟩ (fun v0 w0 hq0 => ?_)
    obtain ⟨rfl, rfl⟩ := hq0
    show G Γ (mW K am A (ap (ap (ap (sF σ 29 0) (b4 (-889275714))) (b2 0)) (b2 46))) 0 0 45 [(4, .int (nI mem)), (3, .int (nI n0)), (2, .int (nI p)), (0, .ref am), (1, .int (nI c0))] []
    have hr : Lo (ap (ap (ap (sF σ 29 0) (b4 (-889275714))) (b2 0)) (b2 46)) 2992 := hr.app (Nat.le_of_ble_eq_true rfl)
    refine g_aload_n (n := 46) hX dX8_build_45 rfl rfl rfl ?_
    refine g_iload_n (n := 47) hX dX8_build_46 rfl rfl rfl ?_
    refine g_iload (n := 49) hX dX8_build_47 rfl rfl ?_
    refine g_callV0 (n := 52) (As := [.int (nI p), .int (nI mem)]) (rest := []) hX hE hU hY dX8_build_49 rfl yv_X8_constants um_X8_232 (m_constants _ _ K am A (ap (ap (ap (sF σ 29 0) (b4 (-889275714))) (b2 0)) (b2 46)) p mem hp (by omega) (hr.le (by decide))) ⟨rfl, rfl⟩ (rm_le hRm rfl rfl) rfl (ci := 10) (q0 := 0) rfl rfl rfl rfl (Nat.le_of_ble_eq_true rfl) ⟨Nat.zero_le _, Nat.zero_le _⟩ (fun v0 w0 hq0 => ?_)
    obtain ⟨rfl, rfl⟩ := hq0
    show G Γ (mW K am A (ap (ap (ap (ap (sF σ 29 0) (b4 (-889275714))) (b2 0)) (b2 46)) (bConst p mem))) 0 0 52 [(4, .int (nI mem)), (3, .int (nI n0)), (2, .int (nI p)), (0, .ref am), (1, .int (nI c0))] []
    have hr : Lo (ap (ap (ap (ap (sF σ 29 0) (b4 (-889275714))) (b2 0)) (b2 46)) (bConst p mem)) 2532 := hr.app (by have := bConst_len p mem (by omega); omega)
    refine g_aload_n (n := 53) hX dX8_build_52 rfl rfl rfl ?_
    refine g_bipush (n := 55) (v := 33) hX dX8_build_53 rfl rfl ?_
    refine g_callV0 (n := 58) (As := [.int 33]) (rest := []) hX hE hU hY dX8_build_55 rfl yv_X8_u2 um_X8_142 (m_u2 _ _ K am A (ap (ap (ap (ap (sF σ 29 0) (b4 (-889275714))) (b2 0)) (b2 46)) (bConst p mem)) 33 (hr.le (by decide))) ⟨rfl, rfl⟩ (rm_le hRm rfl rfl) rfl (ci := 10) (q0 := 0) rfl rfl rfl rfl (Nat.le_of_ble_eq_true rfl) ⟨Nat.zero_le _, Nat.zero_le _⟩ (fun v0 w0 hq0 => ?_)
    obtain ⟨rfl, rfl⟩ := hq0
    show G Γ (mW K am A (ap (ap (ap (ap (ap (sF σ 29 0) (b4 (-889275714))) (b2 0)) (b2 46)) (bConst p mem)) (b2 33))) 0 0 58 [(4, .int (nI mem)), (3, .int (nI n0)), (2, .int (nI p)), (0, .ref am), (1, .int (nI c0))] []
    have hr : Lo (ap (ap (ap (ap (ap (sF σ 29 0) (b4 (-889275714))) (b2 0)) (b2 46)) (bConst p mem)) (b2 33)) 2530 := hr.app (Nat.le_of_ble_eq_true rfl)
    refine g_aload_n (n := 59) hX dX8_build_58 rfl rfl rfl ?_
    refine g_iconst (n := 60) (v := 2) hX dX8_build_59 rfl rfl ?_
    refine g_callV0 (n := 63) (As := [.int 2]) (rest := []) hX hE hU hY dX8_build_60 rfl yv_X8_u2 um_X8_142 (m_u2 _ _ K am A (ap (ap (ap (ap (ap (sF σ 29 0) (b4 (-889275714))) (b2 0)) (b2 46)) (bConst p mem)) (b2 33)) 2 (hr.le (by decide))) ⟨rfl, rfl⟩ (rm_le hRm rfl rfl) rfl (ci := 10) (q0 := 0) rfl rfl rfl rfl (Nat.le_of_ble_eq_true rfl) ⟨Nat.zero_le _, Nat.zero_le _⟩ (fun v0 w0 hq0 => ?_)
    obtain ⟨rfl, rfl⟩ := hq0
    show G Γ (mW K am A (ap (ap (ap (ap (ap (ap (sF σ 29 0) (b4 (-889275714))) (b2 0)) (b2 46)) (bConst p mem)) (b2 33)) (b2 2))) 0 0 63 [(4, .int (nI mem)), (3, .int (nI n0)), (2, .int (nI p)), (0, .ref am), (1, .int (nI c0))] []
    have hr : Lo (ap (ap (ap (ap (ap (ap (sF σ 29 0) (b4 (-889275714))) (b2 0)) (b2 46)) (bConst p mem)) (b2 33)) (b2 2)) 2528 := hr.app (Nat.le_of_ble_eq_true rfl)
    refine g_aload_n (n := 64) hX dX8_build_63 rfl rfl rfl ?_
    refine g_iconst (n := 65) (v := 4) hX dX8_build_64 rfl rfl ?_
    refine g_callV0 (n := 68) (As := [.int 4]) (rest := []) hX hE hU hY dX8_build_65 rfl yv_X8_u2 um_X8_142 (m_u2 _ _ K am A (ap (ap (ap (ap (ap (ap (sF σ 29 0) (b4 (-889275714))) (b2 0)) (b2 46)) (bConst p mem)) (b2 33)) (b2 2)) 4 (hr.le (by decide))) ⟨rfl, rfl⟩ (rm_le hRm rfl rfl) rfl (ci := 10) (q0 := 0) rfl rfl rfl rfl (Nat.le_of_ble_eq_true rfl) ⟨Nat.zero_le _, Nat.zero_le _⟩ (fun v0 w0 hq0 => ?_)
    obtain ⟨rfl, rfl⟩ := hq0
    show G Γ (mW K am A (ap (ap (ap (ap (ap (ap (ap (sF σ 29 0) (b4 (-889275714))) (b2 0)) (b2 46)) (bConst p mem)) (b2 33)) (b2 2)) (b2 4))) 0 0 68 [(4, .int (nI mem)), (3, .int (nI n0)), (2, .int (nI p)), (0, .ref am), (1, .int (nI c0))] []
    have hr : Lo (ap (ap (ap (ap (ap (ap (ap (sF σ 29 0) (b4 (-889275714))) (b2 0)) (b2 46)) (bConst p mem)) (b2 33)) (b2 2)) (b2 4)) 2526 := hr.app (Nat.le_of_ble_eq_true rfl)
    refine g_aload_n (n := 69) hX dX8_build_68 rfl rfl rfl ?_
    refine g_iconst (n := 70) (v := 0) hX dX8_build_69 rfl rfl ?_
    refine g_callV0 (n := 73) (As := [.int 0]) (rest := []) hX hE hU hY dX8_build_70 rfl yv_X8_u2 um_X8_142 (m_u2 _ _ K am A (ap (ap (ap (ap (ap (ap (ap (sF σ 29 0) (b4 (-889275714))) (b2 0)) (b2 46)) (bConst p mem)) (b2 33)) (b2 2)) (b2 4)) 0 (hr.le (by decide))) ⟨rfl, rfl⟩ (rm_le hRm rfl rfl) rfl (ci := 10) (q0 := 0) rfl rfl rfl rfl (Nat.le_of_ble_eq_true rfl) ⟨Nat.zero_le _, Nat.zero_le _⟩ (fun v0 w0 hq0 => ?_)
    obtain ⟨rfl, rfl⟩ := hq0
    show G Γ (mW K am A (ap (ap (ap (ap (ap (ap (ap (ap (sF σ 29 0) (b4 (-889275714))) (b2 0)) (b2 46)) (bConst p mem)) (b2 33)) (b2 2)) (b2 4)) (b2 0))) 0 0 73 [(4, .int (nI mem)), (3, .int (nI n0)), (2, .int (nI p)), (0, .ref am), (1, .int (nI c0))] []
    have hr : Lo (ap (ap (ap (ap (ap (ap (ap (ap (sF σ 29 0) (b4 (-889275714))) (b2 0)) (b2 46)) (bConst p mem)) (b2 33)) (b2 2)) (b2 4)) (b2 0)) 2524 := hr.app (Nat.le_of_ble_eq_true rfl)
    refine g_aload_n (n := 74) hX dX8_build_73 rfl rfl rfl ?_
    refine g_iconst (n := 75) (v := 1) hX dX8_build_74 rfl rfl ?_
    refine g_callV0 (n := 78) (As := [.int 1]) (rest := []) hX hE hU hY dX8_build_75 rfl yv_X8_u2 um_X8_142 (m_u2 _ _ K am A (ap (ap (ap (ap (ap (ap (ap (ap (sF σ 29 0) (b4 (-889275714))) (b2 0)) (b2 46)) (bConst p mem)) (b2 33)) (b2 2)) (b2 4)) (b2 0)) 1 (hr.le (by decide))) ⟨rfl, rfl⟩ (rm_le hRm rfl rfl) rfl (ci := 10) (q0 := 0) rfl rfl rfl rfl (Nat.le_of_ble_eq_true rfl) ⟨Nat.zero_le _, Nat.zero_le _⟩ (fun v0 w0 hq0 => ?_)
    obtain ⟨rfl, rfl⟩ := hq0
    show G Γ (mW K am A (ap (ap (ap (ap (ap (ap (ap (ap (ap (sF σ 29 0) (b4 (-889275714))) (b2 0)) (b2 46)) (bConst p mem)) (b2 33)) (b2 2)) (b2 4)) (b2 0)) (b2 1))) 0 0 78 [(4, .int (nI mem)), (3, .int (nI n0)), (2, .int (nI p)), (0, .ref am), (1, .int (nI c0))] []
    have hr : Lo (ap (ap (ap (ap (ap (ap (ap (ap (ap (sF σ 29 0) (b4 (-889275714))) (b2 0)) (b2 46)) (bConst p mem)) (b2 33)) (b2 2)) (b2 4)) (b2 0)) (b2 1)) 2522 := hr.app (Nat.le_of_ble_eq_true rfl)
    refine g_aload_n (n := 79) hX dX8_build_78 rfl rfl rfl ?_
    refine g_bipush (n := 81) (v := 8) hX dX8_build_79 rfl rfl ?_
    refine g_callV0 (n := 84) (As := [.int 8]) (rest := []) hX hE hU hY dX8_build_81 rfl yv_X8_u2 um_X8_142 (m_u2 _ _ K am A (ap (ap (ap (ap (ap (ap (ap (ap (ap (sF σ 29 0) (b4 (-889275714))) (b2 0)) (b2 46)) (bConst p mem)) (b2 33)) (b2 2)) (b2 4)) (b2 0)) (b2 1)) 8 (hr.le (by decide))) ⟨rfl, rfl⟩ (rm_le hRm rfl rfl) rfl (ci := 10) (q0 := 0) rfl rfl rfl rfl (Nat.le_of_ble_eq_true rfl) ⟨Nat.zero_le _, Nat.zero_le _⟩ (fun v0 w0 hq0 => ?_)
    obtain ⟨rfl, rfl⟩ := hq0
    show G Γ (mW K am A (ap (ap (ap (ap (ap (ap (ap (ap (ap (ap (sF σ 29 0) (b4 (-889275714))) (b2 0)) (b2 46)) (bConst p mem)) (b2 33)) (b2 2)) (b2 4)) (b2 0)) (b2 1)) (b2 8))) 0 0 84 [(4, .int (nI mem)), (3, .int (nI n0)), (2, .int (nI p)), (0, .ref am), (1, .int (nI c0))] []
    have hr : Lo (ap (ap (ap (ap (ap (ap (ap (ap (ap (ap (sF σ 29 0) (b4 (-889275714))) (b2 0)) (b2 46)) (bConst p mem)) (b2 33)) (b2 2)) (b2 4)) (b2 0)) (b2 1)) (b2 8)) 2520 := hr.app (Nat.le_of_ble_eq_true rfl)
    refine g_aload_n (n := 85) hX dX8_build_84 rfl rfl rfl ?_
    refine g_iconst (n := 86) (v := 5) hX dX8_build_85 rfl rfl ?_
    refine g_callV0 (n := 89) (As := [.int 5]) (rest := []) hX hE hU hY dX8_build_86 rfl yv_X8_u2 um_X8_142 (m_u2 _ _ K am A (ap (ap (ap (ap (ap (ap (ap (ap (ap (ap (sF σ 29 0) (b4 (-889275714))) (b2 0)) (b2 46)) (bConst p mem)) (b2 33)) (b2 2)) (b2 4)) (b2 0)) (b2 1)) (b2 8)) 5 (hr.le (by decide))) ⟨rfl, rfl⟩ (rm_le hRm rfl rfl) rfl (ci := 10) (q0 := 0) rfl rfl rfl rfl (Nat.le_of_ble_eq_true rfl) ⟨Nat.zero_le _, Nat.zero_le _⟩ (fun v0 w0 hq0 => ?_)
    obtain ⟨rfl, rfl⟩ := hq0
    show G Γ (mW K am A (ap (ap (ap (ap (ap (ap (ap (ap (ap (ap (ap (sF σ 29 0) (b4 (-889275714))) (b2 0)) (b2 46)) (bConst p mem)) (b2 33)) (b2 2)) (b2 4)) (b2 0)) (b2 1)) (b2 8)) (b2 5))) 0 0 89 [(4, .int (nI mem)), (3, .int (nI n0)), (2, .int (nI p)), (0, .ref am), (1, .int (nI c0))] []
    have hr : Lo (ap (ap (ap (ap (ap (ap (ap (ap (ap (ap (ap (sF σ 29 0) (b4 (-889275714))) (b2 0)) (b2 46)) (bConst p mem)) (b2 33)) (b2 2)) (b2 4)) (b2 0)) (b2 1)) (b2 8)) (b2 5)) 2518 := hr.app (Nat.le_of_ble_eq_true rfl)
    refine g_aload_n (n := 90) hX dX8_build_89 rfl rfl rfl ?_
    refine g_bipush (n := 92) (v := 6) hX dX8_build_90 rfl rfl ?_
    refine g_callV0 (n := 95) (As := [.int 6]) (rest := []) hX hE hU hY dX8_build_92 rfl yv_X8_u2 um_X8_142 (m_u2 _ _ K am A (ap (ap (ap (ap (ap (ap (ap (ap (ap (ap (ap (sF σ 29 0) (b4 (-889275714))) (b2 0)) (b2 46)) (bConst p mem)) (b2 33)) (b2 2)) (b2 4)) (b2 0)) (b2 1)) (b2 8)) (b2 5)) 6 (hr.le (by decide))) ⟨rfl, rfl⟩ (rm_le hRm rfl rfl) rfl (ci := 10) (q0 := 0) rfl rfl rfl rfl (Nat.le_of_ble_eq_true rfl) ⟨Nat.zero_le _, Nat.zero_le _⟩ (fun v0 w0 hq0 => ?_)
    obtain ⟨rfl, rfl⟩ := hq0
    show G Γ (mW K am A (ap (ap (ap (ap (ap (ap (ap (ap (ap (ap (ap (ap (sF σ 29 0) (b4 (-889275714))) (b2 0)) (b2 46)) (bConst p mem)) (b2 33)) (b2 2)) (b2 4)) (b2 0)) (b2 1)) (b2 8)) (b2 5)) (b2 6))) 0 0 95 [(4, .int (nI mem)), (3, .int (nI n0)), (2, .int (nI p)), (0, .ref am), (1, .int (nI c0))] []
    have hr : Lo (ap (ap (ap (ap (ap (ap (ap (ap (ap (ap (ap (ap (sF σ 29 0) (b4 (-889275714))) (b2 0)) (b2 46)) (bConst p mem)) (b2 33)) (b2 2)) (b2 4)) (b2 0)) (b2 1)) (b2 8)) (b2 5)) (b2 6)) 2516 := hr.app (Nat.le_of_ble_eq_true rfl)
    refine g_aload_n (n := 96) hX dX8_build_95 rfl rfl rfl ?_
    refine g_iconst (n := 97) (v := 0) hX dX8_build_96 rfl rfl ?_
    refine g_callV0 (n := 100) (As := [.int 0]) (rest := []) hX hE hU hY dX8_build_97 rfl yv_X8_u2 um_X8_142 (m_u2 _ _ K am A (ap (ap (ap (ap (ap (ap (ap (ap (ap (ap (ap (ap (sF σ 29 0) (b4 (-889275714))) (b2 0)) (b2 46)) (bConst p mem)) (b2 33)) (b2 2)) (b2 4)) (b2 0)) (b2 1)) (b2 8)) (b2 5)) (b2 6)) 0 (hr.le (by decide))) ⟨rfl, rfl⟩ (rm_le hRm rfl rfl) rfl (ci := 10) (q0 := 0) rfl rfl rfl rfl (Nat.le_of_ble_eq_true rfl) ⟨Nat.zero_le _, Nat.zero_le _⟩ (fun v0 w0 hq0 => ?_)
    obtain ⟨rfl, rfl⟩ := hq0
    show G Γ (mW K am A (ap (ap (ap (ap (ap (ap (ap (ap (ap (ap (ap (ap (ap (sF σ 29 0) (b4 (-889275714))) (b2 0)) (b2 46)) (bConst p mem)) (b2 33)) (b2 2)) (b2 4)) (b2 0)) (b2 1)) (b2 8)) (b2 5)) (b2 6)) (b2 0))) 0 0 100 [(4, .int (nI mem)), (3, .int (nI n0)), (2, .int (nI p)), (0, .ref am), (1, .int (nI c0))] []
    have hr : Lo (ap (ap (ap (ap (ap (ap (ap (ap (ap (ap (ap (ap (ap (sF σ 29 0) (b4 (-889275714))) (b2 0)) (b2 46)) (bConst p mem)) (b2 33)) (b2 2)) (b2 4)) (b2 0)) (b2 1)) (b2 8)) (b2 5)) (b2 6)) (b2 0)) 2514 := hr.app (Nat.le_of_ble_eq_true rfl)
    refine g_aload_n (n := 101) hX dX8_build_100 rfl rfl rfl ?_
    refine g_iconst (n := 102) (v := 1) hX dX8_build_101 rfl rfl ?_
    refine g_iload (n := 104) hX dX8_build_102 rfl rfl ?_
    refine g_iadd (n := 105) (v := nI (1 + mem)) hX dX8_build_104 rfl (nI_add 1 mem) ?_
    refine g_callV0 (n := 108) (As := [.int (nI (1 + mem))]) (rest := []) hX hE hU hY dX8_build_105 rfl yv_X8_u2 um_X8_142 (m_u2 _ _ K am A (ap (ap (ap (ap (ap (ap (ap (ap (ap (ap (ap (ap (ap (sF σ 29 0) (b4 (-889275714))) (b2 0)) (b2 46)) (bConst p mem)) (b2 33)) (b2 2)) (b2 4)) (b2 0)) (b2 1)) (b2 8)) (b2 5)) (b2 6)) (b2 0)) (nI (1 + mem)) (hr.le (by decide))) ⟨rfl, rfl⟩ (rm_le hRm rfl rfl) rfl (ci := 10) (q0 := 0) rfl rfl rfl rfl (Nat.le_of_ble_eq_true rfl) ⟨Nat.zero_le _, Nat.zero_le _⟩ (fun v0 w0 hq0 => ?_)
    obtain ⟨rfl, rfl⟩ := hq0
    show G Γ (mW K am A (ap (ap (ap (ap (ap (ap (ap (ap (ap (ap (ap (ap (ap (ap (sF σ 29 0) (b4 (-889275714))) (b2 0)) (b2 46)) (bConst p mem)) (b2 33)) (b2 2)) (b2 4)) (b2 0)) (b2 1)) (b2 8)) (b2 5)) (b2 6)) (b2 0)) (b2 (nI (1 + mem))))) 0 0 108 [(4, .int (nI mem)), (3, .int (nI n0)), (2, .int (nI p)), (0, .ref am), (1, .int (nI c0))] []
    have hr : Lo (ap (ap (ap (ap (ap (ap (ap (ap (ap (ap (ap (ap (ap (ap (sF σ 29 0) (b4 (-889275714))) (b2 0)) (b2 46)) (bConst p mem)) (b2 33)) (b2 2)) (b2 4)) (b2 0)) (b2 1)) (b2 8)) (b2 5)) (b2 6)) (b2 0)) (b2 (nI (1 + mem)))) 2512 := hr.app (Nat.le_of_ble_eq_true rfl)
    refine g_aload_n (n := 109) hX dX8_build_108 rfl rfl rfl ?_
    refine g_bipush (n := 111) (v := 26) hX dX8_build_109 rfl rfl ?_
    refine g_bipush (n := 113) (v := 27) hX dX8_build_111 rfl rfl ?_
    refine g_iconst (n := 114) (v := 2) hX dX8_build_113 rfl rfl ?_
    refine g_iconst (n := 115) (v := 0) hX dX8_build_114 rfl rfl ?_
    refine g_aload_n (n := 116) hX dX8_build_115 rfl rfl rfl ?_
    refine g_mget (n := 119) 9 (v := .ref (A 5)) hX hU dX8_build_116 rfl uf_X8_25 rfl rfl rfl ?_
    refine g_iload_n (n := 120) hX dX8_build_119 rfl rfl rfl ?_
    refine g_mzld (n := 121) 5 (v := σ.1 5 p) hX hY dX8_build_120 rfl rfl rfl (vp_in_nI (show p < mN 5 by show p < 13; omega) (by decide)) (by rw [nI_clamp (by omega)]; simp only [ap_arr _ _ (show (5 : Nat) ≠ 24 by decide)]; rfl) ?_
    refine g_if_eq (n := 124) (tgt := 129) hX dX8_build_121 rfl (by decide) (fun c121 => absurd c121 hf) (fun c121 => ?_)
    refine g_bipush (n := 126) (v := 12) hX dX8_build_124 rfl rfl ?_
    refine g_goto (n := 131) hX dX8_build_126 (by decide) ?_
    refine g_callV0 (n := 134) (As := [.int 26, .int 27, .int 2, .int 0, .int 12]) (rest := []) hX hE hU hY dX8_build_131 rfl yv_X8_method um_X8_224 (m_method _ _ K am A (ap (ap (ap (ap (ap (ap (ap (ap (ap (ap (ap (ap (ap (ap (sF σ 29 0) (b4 (-889275714))) (b2 0)) (b2 46)) (bConst p mem)) (b2 33)) (b2 2)) (b2 4)) (b2 0)) (b2 1)) (b2 8)) (b2 5)) (b2 6)) (b2 0)) (b2 (nI (1 + mem)))) 26 27 2 0 12 (hr.le (by decide))) ⟨rfl, rfl⟩ (rm_le hRm rfl rfl) rfl (ci := 10) (q0 := 0) rfl rfl rfl rfl (Nat.le_of_ble_eq_true rfl) ⟨Nat.zero_le _, Nat.zero_le _⟩ (fun v0 w0 hq0 => ?_)
    obtain ⟨rfl, rfl⟩ := hq0
    show G Γ (mW K am A (ap (ap (ap (ap (ap (ap (ap (ap (ap (ap (ap (ap (ap (ap (ap (sF σ 29 0) (b4 (-889275714))) (b2 0)) (b2 46)) (bConst p mem)) (b2 33)) (b2 2)) (b2 4)) (b2 0)) (b2 1)) (b2 8)) (b2 5)) (b2 6)) (b2 0)) (b2 (nI (1 + mem)))) (bMethod 26 27 2 0 12))) 0 0 134 [(4, .int (nI mem)), (3, .int (nI n0)), (2, .int (nI p)), (0, .ref am), (1, .int (nI c0))] []
    have hr : Lo (ap (ap (ap (ap (ap (ap (ap (ap (ap (ap (ap (ap (ap (ap (ap (sF σ 29 0) (b4 (-889275714))) (b2 0)) (b2 46)) (bConst p mem)) (b2 33)) (b2 2)) (b2 4)) (b2 0)) (b2 1)) (b2 8)) (b2 5)) (b2 6)) (b2 0)) (b2 (nI (1 + mem)))) (bMethod 26 27 2 0 12)) 2490 := hr.app (Nat.le_of_ble_eq_true rfl)
    refine g_aload_n (n := 135) hX dX8_build_134 rfl rfl rfl ?_
    refine g_mget (n := 138) 9 (v := .ref (A 5)) hX hU dX8_build_135 rfl uf_X8_25 rfl rfl rfl ?_
    refine g_iload_n (n := 139) hX dX8_build_138 rfl rfl rfl ?_
    refine g_mzld (n := 140) 5 (v := σ.1 5 p) hX hY dX8_build_139 rfl rfl rfl (vp_in_nI (show p < mN 5 by show p < 13; omega) (by decide)) (by rw [nI_clamp (by omega)]; simp only [ap_arr _ _ (show (5 : Nat) ≠ 24 by decide)]; rfl) ?_
    refine g_if_eq (n := 143) (tgt := 149) hX dX8_build_140 rfl (by decide) (fun c140 => absurd c140 hf) (fun c140 => ?_)
    refine g_aload_n (n := 144) hX dX8_build_143 rfl rfl rfl ?_
    refine g_ldc (n := 146) (v := 50555991) hX dX8_build_144 rfl (hU _ uk_X8_236) ?_
    refine g_callV0 (n := 149) (As := [.int 50555991]) (rest := []) hX hE hU hY dX8_build_146 rfl yv_X8_u4 um_X8_194 (m_u4 _ _ K am A (ap (ap (ap (ap (ap (ap (ap (ap (ap (ap (ap (ap (ap (ap (ap (sF σ 29 0) (b4 (-889275714))) (b2 0)) (b2 46)) (bConst p mem)) (b2 33)) (b2 2)) (b2 4)) (b2 0)) (b2 1)) (b2 8)) (b2 5)) (b2 6)) (b2 0)) (b2 (nI (1 + mem)))) (bMethod 26 27 2 0 12)) 50555991 (hr.le (by decide))) ⟨rfl, rfl⟩ (rm_le hRm rfl rfl) rfl (ci := 10) (q0 := 0) rfl rfl rfl rfl (Nat.le_of_ble_eq_true rfl) ⟨Nat.zero_le _, Nat.zero_le _⟩ (fun v0 w0 hq0 => ?_)
    obtain ⟨rfl, rfl⟩ := hq0
    show G Γ (mW K am A (ap (ap (ap (ap (ap (ap (ap (ap (ap (ap (ap (ap (ap (ap (ap (ap (sF σ 29 0) (b4 (-889275714))) (b2 0)) (b2 46)) (bConst p mem)) (b2 33)) (b2 2)) (b2 4)) (b2 0)) (b2 1)) (b2 8)) (b2 5)) (b2 6)) (b2 0)) (b2 (nI (1 + mem)))) (bMethod 26 27 2 0 12)) (b4 50555991))) 0 0 149 [(4, .int (nI mem)), (3, .int (nI n0)), (2, .int (nI p)), (0, .ref am), (1, .int (nI c0))] []
    have hr : Lo (ap (ap (ap (ap (ap (ap (ap (ap (ap (ap (ap (ap (ap (ap (ap (ap (sF σ 29 0) (b4 (-889275714))) (b2 0)) (b2 46)) (bConst p mem)) (b2 33)) (b2 2)) (b2 4)) (b2 0)) (b2 1)) (b2 8)) (b2 5)) (b2 6)) (b2 0)) (b2 (nI (1 + mem)))) (bMethod 26 27 2 0 12)) (b4 50555991)) 2486 := hr.app (Nat.le_of_ble_eq_true rfl)
    refine g_aload_n (n := 150) hX dX8_build_149 rfl rfl rfl ?_
    refine g_aload_n (n := 151) hX dX8_build_150 rfl rfl rfl ?_
    refine g_mget (n := 154) 4 (v := .ref (A 0)) hX hU dX8_build_151 rfl uf_X8_7 rfl rfl rfl ?_
    refine g_iload_n (n := 155) hX dX8_build_154 rfl rfl rfl ?_
    refine g_mild (n := 156) 0 (v := σ.1 0 p) hX hY dX8_build_155 rfl rfl rfl (vp_in_nI (show p < mN 0 by show p < 13; omega) (by decide)) (by rw [nI_clamp (by omega)]; simp only [ap_arr _ _ (show (0 : Nat) ≠ 24 by decide)]; rfl) ?_
    refine g_callV0 (n := 159) (As := [.int (σ.1 0 p)]) (rest := []) hX hE hU hY dX8_build_156 rfl yv_X8_push um_X8_210 (m_push _ _ K am A (ap (ap (ap (ap (ap (ap (ap (ap (ap (ap (ap (ap (ap (ap (ap (ap (sF σ 29 0) (b4 (-889275714))) (b2 0)) (b2 46)) (bConst p mem)) (b2 33)) (b2 2)) (b2 4)) (b2 0)) (b2 1)) (b2 8)) (b2 5)) (b2 6)) (b2 0)) (b2 (nI (1 + mem)))) (bMethod 26 27 2 0 12)) (b4 50555991)) (σ.1 0 p) (hr.le (by decide))) ⟨rfl, rfl⟩ (rm_le hRm rfl rfl) rfl (ci := 10) (q0 := 0) rfl rfl rfl rfl (Nat.le_of_ble_eq_true rfl) ⟨Nat.zero_le _, Nat.zero_le _⟩ (fun v0 w0 hq0 => ?_)
    obtain ⟨rfl, rfl⟩ := hq0
    show G Γ (mW K am A (ap (ap (ap (ap (ap (ap (ap (ap (ap (ap (ap (ap (ap (ap (ap (ap (ap (sF σ 29 0) (b4 (-889275714))) (b2 0)) (b2 46)) (bConst p mem)) (b2 33)) (b2 2)) (b2 4)) (b2 0)) (b2 1)) (b2 8)) (b2 5)) (b2 6)) (b2 0)) (b2 (nI (1 + mem)))) (bMethod 26 27 2 0 12)) (b4 50555991)) (bPush (σ.1 0 p)))) 0 0 159 [(4, .int (nI mem)), (3, .int (nI n0)), (2, .int (nI p)), (0, .ref am), (1, .int (nI c0))] []
    have hr : Lo (ap (ap (ap (ap (ap (ap (ap (ap (ap (ap (ap (ap (ap (ap (ap (ap (ap (sF σ 29 0) (b4 (-889275714))) (b2 0)) (b2 46)) (bConst p mem)) (b2 33)) (b2 2)) (b2 4)) (b2 0)) (b2 1)) (b2 8)) (b2 5)) (b2 6)) (b2 0)) (b2 (nI (1 + mem)))) (bMethod 26 27 2 0 12)) (b4 50555991)) (bPush (σ.1 0 p))) 2484 := hr.app (Nat.le_of_ble_eq_true rfl)
    refine g_aload_n (n := 160) hX dX8_build_159 rfl rfl rfl ?_
    refine g_sipush (n := 163) (v := 188) hX dX8_build_160 rfl rfl ?_
    refine g_callV0 (n := 166) (As := [.int 188]) (rest := []) hX hE hU hY dX8_build_163 rfl yv_X8_u1 um_X8_138 (m_u1 _ _ K am A (ap (ap (ap (ap (ap (ap (ap (ap (ap (ap (ap (ap (ap (ap (ap (ap (ap (sF σ 29 0) (b4 (-889275714))) (b2 0)) (b2 46)) (bConst p mem)) (b2 33)) (b2 2)) (b2 4)) (b2 0)) (b2 1)) (b2 8)) (b2 5)) (b2 6)) (b2 0)) (b2 (nI (1 + mem)))) (bMethod 26 27 2 0 12)) (b4 50555991)) (bPush (σ.1 0 p))) 188 (hr.le (by decide))) ⟨rfl, rfl⟩ (rm_le hRm rfl rfl) rfl (ci := 10) (q0 := 0) rfl rfl rfl rfl (Nat.le_of_ble_eq_true rfl) ⟨Nat.zero_le _, Nat.zero_le _⟩ (fun v0 w0 hq0 => ?_)
    obtain ⟨rfl, rfl⟩ := hq0
    show G Γ (mW K am A (ap (ap (ap (ap (ap (ap (ap (ap (ap (ap (ap (ap (ap (ap (ap (ap (ap (ap (sF σ 29 0) (b4 (-889275714))) (b2 0)) (b2 46)) (bConst p mem)) (b2 33)) (b2 2)) (b2 4)) (b2 0)) (b2 1)) (b2 8)) (b2 5)) (b2 6)) (b2 0)) (b2 (nI (1 + mem)))) (bMethod 26 27 2 0 12)) (b4 50555991)) (bPush (σ.1 0 p))) ([188]))) 0 0 166 [(4, .int (nI mem)), (3, .int (nI n0)), (2, .int (nI p)), (0, .ref am), (1, .int (nI c0))] []
    have hr : Lo (ap (ap (ap (ap (ap (ap (ap (ap (ap (ap (ap (ap (ap (ap (ap (ap (ap (ap (sF σ 29 0) (b4 (-889275714))) (b2 0)) (b2 46)) (bConst p mem)) (b2 33)) (b2 2)) (b2 4)) (b2 0)) (b2 1)) (b2 8)) (b2 5)) (b2 6)) (b2 0)) (b2 (nI (1 + mem)))) (bMethod 26 27 2 0 12)) (b4 50555991)) (bPush (σ.1 0 p))) ([188])) 2483 := hr.app (Nat.le_of_ble_eq_true rfl)
    refine g_aload_n (n := 167) hX dX8_build_166 rfl rfl rfl ?_
    refine g_bipush (n := 169) (v := 8) hX dX8_build_167 rfl rfl ?_
    refine g_callV0 (n := 172) (As := [.int 8]) (rest := []) hX hE hU hY dX8_build_169 rfl yv_X8_u1 um_X8_138 (m_u1 _ _ K am A (ap (ap (ap (ap (ap (ap (ap (ap (ap (ap (ap (ap (ap (ap (ap (ap (ap (ap (sF σ 29 0) (b4 (-889275714))) (b2 0)) (b2 46)) (bConst p mem)) (b2 33)) (b2 2)) (b2 4)) (b2 0)) (b2 1)) (b2 8)) (b2 5)) (b2 6)) (b2 0)) (b2 (nI (1 + mem)))) (bMethod 26 27 2 0 12)) (b4 50555991)) (bPush (σ.1 0 p))) ([188])) 8 (hr.le (by decide))) ⟨rfl, rfl⟩ (rm_le hRm rfl rfl) rfl (ci := 10) (q0 := 0) rfl rfl rfl rfl (Nat.le_of_ble_eq_true rfl) ⟨Nat.zero_le _, Nat.zero_le _⟩ (fun v0 w0 hq0 => ?_)
    obtain ⟨rfl, rfl⟩ := hq0
    show G Γ (mW K am A (ap (ap (ap (ap (ap (ap (ap (ap (ap (ap (ap (ap (ap (ap (ap (ap (ap (ap (ap (sF σ 29 0) (b4 (-889275714))) (b2 0)) (b2 46)) (bConst p mem)) (b2 33)) (b2 2)) (b2 4)) (b2 0)) (b2 1)) (b2 8)) (b2 5)) (b2 6)) (b2 0)) (b2 (nI (1 + mem)))) (bMethod 26 27 2 0 12)) (b4 50555991)) (bPush (σ.1 0 p))) ([188])) ([8]))) 0 0 172 [(4, .int (nI mem)), (3, .int (nI n0)), (2, .int (nI p)), (0, .ref am), (1, .int (nI c0))] []
    have hr : Lo (ap (ap (ap (ap (ap (ap (ap (ap (ap (ap (ap (ap (ap (ap (ap (ap (ap (ap (ap (sF σ 29 0) (b4 (-889275714))) (b2 0)) (b2 46)) (bConst p mem)) (b2 33)) (b2 2)) (b2 4)) (b2 0)) (b2 1)) (b2 8)) (b2 5)) (b2 6)) (b2 0)) (b2 (nI (1 + mem)))) (bMethod 26 27 2 0 12)) (b4 50555991)) (bPush (σ.1 0 p))) ([188])) ([8])) 2482 := hr.app (Nat.le_of_ble_eq_true rfl)
    refine g_aload_n (n := 173) hX dX8_build_172 rfl rfl rfl ?_
    refine g_sipush (n := 176) (v := 179) hX dX8_build_173 rfl rfl ?_
    refine g_callV0 (n := 179) (As := [.int 179]) (rest := []) hX hE hU hY dX8_build_176 rfl yv_X8_u1 um_X8_138 (m_u1 _ _ K am A (ap (ap (ap (ap (ap (ap (ap (ap (ap (ap (ap (ap (ap (ap (ap (ap (ap (ap (ap (sF σ 29 0) (b4 (-889275714))) (b2 0)) (b2 46)) (bConst p mem)) (b2 33)) (b2 2)) (b2 4)) (b2 0)) (b2 1)) (b2 8)) (b2 5)) (b2 6)) (b2 0)) (b2 (nI (1 + mem)))) (bMethod 26 27 2 0 12)) (b4 50555991)) (bPush (σ.1 0 p))) ([188])) ([8])) 179 (hr.le (by decide))) ⟨rfl, rfl⟩ (rm_le hRm rfl rfl) rfl (ci := 10) (q0 := 0) rfl rfl rfl rfl (Nat.le_of_ble_eq_true rfl) ⟨Nat.zero_le _, Nat.zero_le _⟩ (fun v0 w0 hq0 => ?_)
    obtain ⟨rfl, rfl⟩ := hq0
    show G Γ (mW K am A (ap (ap (ap (ap (ap (ap (ap (ap (ap (ap (ap (ap (ap (ap (ap (ap (ap (ap (ap (ap (sF σ 29 0) (b4 (-889275714))) (b2 0)) (b2 46)) (bConst p mem)) (b2 33)) (b2 2)) (b2 4)) (b2 0)) (b2 1)) (b2 8)) (b2 5)) (b2 6)) (b2 0)) (b2 (nI (1 + mem)))) (bMethod 26 27 2 0 12)) (b4 50555991)) (bPush (σ.1 0 p))) ([188])) ([8])) ([179]))) 0 0 179 [(4, .int (nI mem)), (3, .int (nI n0)), (2, .int (nI p)), (0, .ref am), (1, .int (nI c0))] []
    have hr : Lo (ap (ap (ap (ap (ap (ap (ap (ap (ap (ap (ap (ap (ap (ap (ap (ap (ap (ap (ap (ap (sF σ 29 0) (b4 (-889275714))) (b2 0)) (b2 46)) (bConst p mem)) (b2 33)) (b2 2)) (b2 4)) (b2 0)) (b2 1)) (b2 8)) (b2 5)) (b2 6)) (b2 0)) (b2 (nI (1 + mem)))) (bMethod 26 27 2 0 12)) (b4 50555991)) (bPush (σ.1 0 p))) ([188])) ([8])) ([179])) 2481 := hr.app (Nat.le_of_ble_eq_true rfl)
    refine g_aload_n (n := 180) hX dX8_build_179 rfl rfl rfl ?_
    refine g_bipush (n := 182) (v := 8) hX dX8_build_180 rfl rfl ?_
    refine g_callV0 (n := 185) (As := [.int 8]) (rest := []) hX hE hU hY dX8_build_182 rfl yv_X8_u2 um_X8_142 (m_u2 _ _ K am A (ap (ap (ap (ap (ap (ap (ap (ap (ap (ap (ap (ap (ap (ap (ap (ap (ap (ap (ap (ap (sF σ 29 0) (b4 (-889275714))) (b2 0)) (b2 46)) (bConst p mem)) (b2 33)) (b2 2)) (b2 4)) (b2 0)) (b2 1)) (b2 8)) (b2 5)) (b2 6)) (b2 0)) (b2 (nI (1 + mem)))) (bMethod 26 27 2 0 12)) (b4 50555991)) (bPush (σ.1 0 p))) ([188])) ([8])) ([179])) 8 (hr.le (by decide))) ⟨rfl, rfl⟩ (rm_le hRm rfl rfl) rfl (ci := 10) (q0 := 0) rfl rfl rfl rfl (Nat.le_of_ble_eq_true rfl) ⟨Nat.zero_le _, Nat.zero_le _⟩ (fun v0 w0 hq0 => ?_)
    obtain ⟨rfl, rfl⟩ := hq0
    show G Γ (mW K am A (ap (ap (ap (ap (ap (ap (ap (ap (ap (ap (ap (ap (ap (ap (ap (ap (ap (ap (ap (ap (ap (sF σ 29 0) (b4 (-889275714))) (b2 0)) (b2 46)) (bConst p mem)) (b2 33)) (b2 2)) (b2 4)) (b2 0)) (b2 1)) (b2 8)) (b2 5)) (b2 6)) (b2 0)) (b2 (nI (1 + mem)))) (bMethod 26 27 2 0 12)) (b4 50555991)) (bPush (σ.1 0 p))) ([188])) ([8])) ([179])) (b2 8))) 0 0 185 [(4, .int (nI mem)), (3, .int (nI n0)), (2, .int (nI p)), (0, .ref am), (1, .int (nI c0))] []
    have hr : Lo (ap (ap (ap (ap (ap (ap (ap (ap (ap (ap (ap (ap (ap (ap (ap (ap (ap (ap (ap (ap (ap (sF σ 29 0) (b4 (-889275714))) (b2 0)) (b2 46)) (bConst p mem)) (b2 33)) (b2 2)) (b2 4)) (b2 0)) (b2 1)) (b2 8)) (b2 5)) (b2 6)) (b2 0)) (b2 (nI (1 + mem)))) (bMethod 26 27 2 0 12)) (b4 50555991)) (bPush (σ.1 0 p))) ([188])) ([8])) ([179])) (b2 8)) 2479 := hr.app (Nat.le_of_ble_eq_true rfl)
    refine g_aload_n (n := 186) hX dX8_build_185 rfl rfl rfl ?_
    refine g_sipush (n := 189) (v := 177) hX dX8_build_186 rfl rfl ?_
    refine g_callV0 (n := 192) (As := [.int 177]) (rest := []) hX hE hU hY dX8_build_189 rfl yv_X8_u1 um_X8_138 (m_u1 _ _ K am A (ap (ap (ap (ap (ap (ap (ap (ap (ap (ap (ap (ap (ap (ap (ap (ap (ap (ap (ap (ap (ap (sF σ 29 0) (b4 (-889275714))) (b2 0)) (b2 46)) (bConst p mem)) (b2 33)) (b2 2)) (b2 4)) (b2 0)) (b2 1)) (b2 8)) (b2 5)) (b2 6)) (b2 0)) (b2 (nI (1 + mem)))) (bMethod 26 27 2 0 12)) (b4 50555991)) (bPush (σ.1 0 p))) ([188])) ([8])) ([179])) (b2 8)) 177 (hr.le (by decide))) ⟨rfl, rfl⟩ (rm_le hRm rfl rfl) rfl (ci := 10) (q0 := 0) rfl rfl rfl rfl (Nat.le_of_ble_eq_true rfl) ⟨Nat.zero_le _, Nat.zero_le _⟩ (fun v0 w0 hq0 => ?_)
    obtain ⟨rfl, rfl⟩ := hq0
    show G Γ (mW K am A (ap (ap (ap (ap (ap (ap (ap (ap (ap (ap (ap (ap (ap (ap (ap (ap (ap (ap (ap (ap (ap (ap (sF σ 29 0) (b4 (-889275714))) (b2 0)) (b2 46)) (bConst p mem)) (b2 33)) (b2 2)) (b2 4)) (b2 0)) (b2 1)) (b2 8)) (b2 5)) (b2 6)) (b2 0)) (b2 (nI (1 + mem)))) (bMethod 26 27 2 0 12)) (b4 50555991)) (bPush (σ.1 0 p))) ([188])) ([8])) ([179])) (b2 8)) ([177]))) 0 0 192 [(4, .int (nI mem)), (3, .int (nI n0)), (2, .int (nI p)), (0, .ref am), (1, .int (nI c0))] []
    have hr : Lo (ap (ap (ap (ap (ap (ap (ap (ap (ap (ap (ap (ap (ap (ap (ap (ap (ap (ap (ap (ap (ap (ap (sF σ 29 0) (b4 (-889275714))) (b2 0)) (b2 46)) (bConst p mem)) (b2 33)) (b2 2)) (b2 4)) (b2 0)) (b2 1)) (b2 8)) (b2 5)) (b2 6)) (b2 0)) (b2 (nI (1 + mem)))) (bMethod 26 27 2 0 12)) (b4 50555991)) (bPush (σ.1 0 p))) ([188])) ([8])) ([179])) (b2 8)) ([177])) 2478 := hr.app (Nat.le_of_ble_eq_true rfl)
    refine g_aload_n (n := 193) hX dX8_build_192 rfl rfl rfl ?_
    refine g_iconst (n := 194) (v := 0) hX dX8_build_193 rfl rfl ?_
    refine g_callV0 (n := 197) (As := [.int 0]) (rest := []) hX hE hU hY dX8_build_194 rfl yv_X8_u4 um_X8_194 (m_u4 _ _ K am A (ap (ap (ap (ap (ap (ap (ap (ap (ap (ap (ap (ap (ap (ap (ap (ap (ap (ap (ap (ap (ap (ap (sF σ 29 0) (b4 (-889275714))) (b2 0)) (b2 46)) (bConst p mem)) (b2 33)) (b2 2)) (b2 4)) (b2 0)) (b2 1)) (b2 8)) (b2 5)) (b2 6)) (b2 0)) (b2 (nI (1 + mem)))) (bMethod 26 27 2 0 12)) (b4 50555991)) (bPush (σ.1 0 p))) ([188])) ([8])) ([179])) (b2 8)) ([177])) 0 (hr.le (by decide))) ⟨rfl, rfl⟩ (rm_le hRm rfl rfl) rfl (ci := 10) (q0 := 0) rfl rfl rfl rfl (Nat.le_of_ble_eq_true rfl) ⟨Nat.zero_le _, Nat.zero_le _⟩ (fun v0 w0 hq0 => ?_)
    obtain ⟨rfl, rfl⟩ := hq0
    show G Γ (mW K am A (ap (ap (ap (ap (ap (ap (ap (ap (ap (ap (ap (ap (ap (ap (ap (ap (ap (ap (ap (ap (ap (ap (ap (sF σ 29 0) (b4 (-889275714))) (b2 0)) (b2 46)) (bConst p mem)) (b2 33)) (b2 2)) (b2 4)) (b2 0)) (b2 1)) (b2 8)) (b2 5)) (b2 6)) (b2 0)) (b2 (nI (1 + mem)))) (bMethod 26 27 2 0 12)) (b4 50555991)) (bPush (σ.1 0 p))) ([188])) ([8])) ([179])) (b2 8)) ([177])) (b4 0))) 0 0 197 [(4, .int (nI mem)), (3, .int (nI n0)), (2, .int (nI p)), (0, .ref am), (1, .int (nI c0))] []
    have hr : Lo (ap (ap (ap (ap (ap (ap (ap (ap (ap (ap (ap (ap (ap (ap (ap (ap (ap (ap (ap (ap (ap (ap (ap (sF σ 29 0) (b4 (-889275714))) (b2 0)) (b2 46)) (bConst p mem)) (b2 33)) (b2 2)) (b2 4)) (b2 0)) (b2 1)) (b2 8)) (b2 5)) (b2 6)) (b2 0)) (b2 (nI (1 + mem)))) (bMethod 26 27 2 0 12)) (b4 50555991)) (bPush (σ.1 0 p))) ([188])) ([8])) ([179])) (b2 8)) ([177])) (b4 0)) 2474 := hr.app (Nat.le_of_ble_eq_true rfl)
    refine g_iconst (n := 198) (v := 0) hX dX8_build_197 rfl rfl ?_
    refine g_istore (lv' := [(5, .int 0), (4, .int (nI mem)), (3, .int (nI n0)), (2, .int (nI p)), (0, .ref am), (1, .int (nI c0))]) (n := 200) hX dX8_build_198 rfl (by rw [hnL]; rfl) rfl ?_
    refine g_pick (lv' := [(5, .int 0), (4, .int (nI mem)), (3, .int (nI n0)), (2, .int (nI p)), (0, .ref am), (1, .int (nI c0))]) [0, 1, 2, 3, 4, 5] rfl ?_
    refine lp_build hX hE hRm hnL hY pr p n0 mem c0 hp hn hmem ho 2 mem 0 _ (by omega) (by simp only [prO_ap]; exact hpr) (hr.le (by omega)) ?_
    intro hr
    refine g_aload_n (n := 245) hX dX8_build_244 rfl rfl rfl ?_
    refine g_iconst (n := 246) (v := 0) hX dX8_build_245 rfl rfl ?_
    refine g_callV0 (n := 249) (As := [.int 0]) (rest := []) hX hE hU hY dX8_build_246 rfl yv_X8_u2 um_X8_142 (m_u2 _ _ K am A (ap (ap (ap (ap (ap (ap (ap (ap (ap (ap (ap (ap (ap (ap (ap (ap (ap (ap (ap (ap (ap (ap (ap (ap (sF σ 29 0) (b4 (-889275714))) (b2 0)) (b2 46)) (bConst p mem)) (b2 33)) (b2 2)) (b2 4)) (b2 0)) (b2 1)) (b2 8)) (b2 5)) (b2 6)) (b2 0)) (b2 (nI (1 + mem)))) (bMethod 26 27 2 0 12)) (b4 50555991)) (bPush (σ.1 0 p))) ([188])) ([8])) ([179])) (b2 8)) ([177])) (b4 0)) (catR (fun k => bMember pr k (lastOf n0 k)) 0 mem)) 0 (hr.le (by decide))) ⟨rfl, rfl⟩ (rm_le hRm rfl rfl) rfl (ci := 10) (q0 := 0) rfl rfl rfl rfl (Nat.le_of_ble_eq_true rfl) ⟨Nat.zero_le _, Nat.zero_le _⟩ (fun v0 w0 hq0 => ?_)
    obtain ⟨rfl, rfl⟩ := hq0
    show G Γ (mW K am A (ap (ap (ap (ap (ap (ap (ap (ap (ap (ap (ap (ap (ap (ap (ap (ap (ap (ap (ap (ap (ap (ap (ap (ap (ap (sF σ 29 0) (b4 (-889275714))) (b2 0)) (b2 46)) (bConst p mem)) (b2 33)) (b2 2)) (b2 4)) (b2 0)) (b2 1)) (b2 8)) (b2 5)) (b2 6)) (b2 0)) (b2 (nI (1 + mem)))) (bMethod 26 27 2 0 12)) (b4 50555991)) (bPush (σ.1 0 p))) ([188])) ([8])) ([179])) (b2 8)) ([177])) (b4 0)) (catR (fun k => bMember pr k (lastOf n0 k)) 0 mem)) (b2 0))) 0 0 249 [(5, .int (nI mem)), (4, .int (nI mem)), (3, .int (nI n0)), (2, .int (nI p)), (0, .ref am), (1, .int (nI c0))] []
    have hr : Lo (ap (ap (ap (ap (ap (ap (ap (ap (ap (ap (ap (ap (ap (ap (ap (ap (ap (ap (ap (ap (ap (ap (ap (ap (ap (sF σ 29 0) (b4 (-889275714))) (b2 0)) (b2 46)) (bConst p mem)) (b2 33)) (b2 2)) (b2 4)) (b2 0)) (b2 1)) (b2 8)) (b2 5)) (b2 6)) (b2 0)) (b2 (nI (1 + mem)))) (bMethod 26 27 2 0 12)) (b4 50555991)) (bPush (σ.1 0 p))) ([188])) ([8])) ([179])) (b2 8)) ([177])) (b4 0)) (catR (fun k => bMember pr k (lastOf n0 k)) 0 mem)) (b2 0)) 0 := hr.app (Nat.le_of_ble_eq_true rfl)
    exact g_vret hX hR dX8_build_249 ⟨rfl, by rw [bFile, bFace, bStart, bMems, if_neg hf, if_neg hf, ← hmem]; simp only [ap_ap, List.append_assoc, List.nil_append, lastOf]⟩

