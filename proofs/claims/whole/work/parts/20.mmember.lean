set_option maxHeartbeats 4000000 in
set_option maxRecDepth 100000 in
theorem lp_member1 {Γ : gT} {K : Nat → ClassId} {am : Nat} {A : Nat → Nat} (hX : gOk Γ cX8_member (wM yX8_member cX8_member 8 none) RX8) (hE : gEv Γ) (hRm : gRm Γ = rmL 6 0 0) (hnL : gnL Γ = 8) (hY : gY Γ = yY K) (pr : PR) (p k l2 : Nat) (hp : p ≤ 12) (hk : k ≤ 5) (hl1 : 10 * k + 1 ≤ l2) (hl2 : l2 ≤ 10 * k + 10) (ho : ∀ r, 10 * k + 1 ≤ r → r ≤ l2 → opOk (pr r).1) (q : Nat) : ∀ (j i : Nat) (σ : MS), i + j = l2 - 10 * k → prO σ p = pr → Lo σ (4 * j + q) → (Lo (ap σ (catR (fun r => b4 (nI (bg pr (10 * k + 1) l2 r - 1))) (10 * k + 1 + i) j)) q → G Γ (mW K am A (ap σ (catR (fun r => b4 (nI (bg pr (10 * k + 1) l2 r - 1))) (10 * k + 1 + i) j))) 0 0 117 [(7, .int (nI (l2 - 10 * k))), (6, .int (nI (bEnd pr (10 * k + 1) l2))), (5, .int (nI (l2 - 10 * k))), (4, .int (nI (10 * k + 1))), (0, .ref am), (1, .int (nI p)), (2, .int (nI k)), (3, .int (nI l2))] []) → G Γ (mW K am A σ) 0 0 85 [(7, .int (nI i)), (6, .int (nI (bEnd pr (10 * k + 1) l2))), (5, .int (nI (l2 - 10 * k))), (4, .int (nI (10 * k + 1))), (0, .ref am), (1, .int (nI p)), (2, .int (nI k)), (3, .int (nI l2))] [] := by
  have hU : ∀ w ∈ wU, w ∈ wM yX8_member cX8_member 8 none := fun w h => wM_in h
  intro j
  induction j with
  | zero =>
    intro i σ hi hpr hr hk0
    have hii : i = l2 - 10 * k := by omega
    subst hii
    refine g_iload (n := 87) hX dX8_member_85 rfl rfl ?_
    refine g_iload (n := 89) hX dX8_member_87 rfl rfl ?_
    refine g_icmp_ge (n := 92) (tgt := 117) hX dX8_member_89 rfl (by decide) (fun c89 => ?_) (fun c89 => absurd (nI_le (a := l2 - 10 * k) (b := l2 - 10 * k) (by omega) (by omega)) c89)
    exact hk0 (hr.le (by omega))
  | succ j ih =>
    intro i σ hi hpr hr hk0
    refine g_iload (n := 87) hX dX8_member_85 rfl rfl ?_
    refine g_iload (n := 89) hX dX8_member_87 rfl rfl ?_
    refine g_icmp_ge (n := 92) (tgt := 117) hX dX8_member_89 rfl (by decide) (fun c89 => absurd c89 (nI_ge (a := i) (b := l2 - 10 * k) (by omega) (by omega))) (fun c89 => ?_)
    refine g_aload_n (n := 93) hX dX8_member_92 rfl rfl rfl ?_
    refine g_aload_n (n := 94) hX dX8_member_93 rfl rfl rfl ?_
    refine g_iload_n (n := 95) hX dX8_member_94 rfl rfl rfl ?_
    refine g_iload (n := 97) hX dX8_member_95 rfl rfl ?_
    refine g_iload (n := 99) hX dX8_member_97 rfl rfl ?_
    refine g_iadd (n := 100) (v := nI (10 * k + 1 + i)) hX dX8_member_99 rfl (nI_add _ _) ?_
    refine g_iload (n := 102) hX dX8_member_100 rfl rfl ?_
    refine g_iload_n (n := 103) hX dX8_member_102 rfl rfl rfl ?_
    refine g_callV0 (n := 106) (As := [.int (nI p), .int (nI (10 * k + 1 + i)), .int (nI (10 * k + 1)), .int (nI l2)]) (rest := [.ref am]) hX hE hU hY dX8_member_103 rfl yv_X8_begins um_X8_213 (mr_begins _ _ K am A σ pr p (10 * k + 1 + i) (10 * k + 1) l2 hpr hp (by omega) (by omega) (by omega) (by omega) hl1 ho) ⟨rfl, rfl⟩ (rm_le hRm rfl rfl) rfl (ci := 10) (q0 := 0) rfl rfl rfl rfl (Nat.le_of_ble_eq_true rfl) ⟨Nat.zero_le _, Nat.zero_le _⟩ (fun v0 w0 hq0 => ?_)
    obtain ⟨rfl, rfl⟩ := hq0
    show G Γ (mW K am A σ) 0 0 106 [(7, .int (nI i)), (6, .int (nI (bEnd pr (10 * k + 1) l2))), (5, .int (nI (l2 - 10 * k))), (4, .int (nI (10 * k + 1))), (0, .ref am), (1, .int (nI p)), (2, .int (nI k)), (3, .int (nI l2))] [.int (nI (bg pr (10 * k + 1) l2 (10 * k + 1 + i))), .ref am]
    refine g_iconst (n := 107) (v := 1) hX dX8_member_106 rfl rfl ?_
    refine g_isub (n := 108) (v := nI (bg pr (10 * k + 1) l2 (10 * k + 1 + i) - 1)) hX dX8_member_107 rfl (nI_sub1 (by unfold bg; omega)) ?_
    refine g_callV0 (n := 111) (As := [.int (nI (bg pr (10 * k + 1) l2 (10 * k + 1 + i) - 1))]) (rest := []) hX hE hU hY dX8_member_108 rfl yv_X8_u4 um_X8_194 (m_u4 _ _ K am A σ (nI (bg pr (10 * k + 1) l2 (10 * k + 1 + i) - 1)) (hr.le (by omega))) ⟨rfl, rfl⟩ (rm_le hRm rfl rfl) rfl (ci := 10) (q0 := 0) rfl rfl rfl rfl (Nat.le_of_ble_eq_true rfl) ⟨Nat.zero_le _, Nat.zero_le _⟩ (fun v0 w0 hq0 => ?_)
    obtain ⟨rfl, rfl⟩ := hq0
    show G Γ (mW K am A (ap σ (b4 (nI (bg pr (10 * k + 1) l2 (10 * k + 1 + i) - 1))))) 0 0 111 [(7, .int (nI i)), (6, .int (nI (bEnd pr (10 * k + 1) l2))), (5, .int (nI (l2 - 10 * k))), (4, .int (nI (10 * k + 1))), (0, .ref am), (1, .int (nI p)), (2, .int (nI k)), (3, .int (nI l2))] []
    have hr : Lo (ap σ (b4 (nI (bg pr (10 * k + 1) l2 (10 * k + 1 + i) - 1)))) (4 * j + q) := hr.app (by show 4 + (4 * j + q) ≤ 4 * (j + 1) + q; omega)
    refine g_iinc (n := 114) (v := nI (i + 1)) (lv' := [(7, .int (nI (i + 1))), (6, .int (nI (bEnd pr (10 * k + 1) l2))), (5, .int (nI (l2 - 10 * k))), (4, .int (nI (10 * k + 1))), (0, .ref am), (1, .int (nI p)), (2, .int (nI k)), (3, .int (nI l2))]) hX dX8_member_111 rfl rfl (nI_add i 1) (by rw [hnL]; rfl) rfl ?_
    refine g_goto (n := 85) hX dX8_member_114 (by decide) ?_
    refine g_pick (lv' := [(7, .int (nI (i + 1))), (6, .int (nI (bEnd pr (10 * k + 1) l2))), (5, .int (nI (l2 - 10 * k))), (4, .int (nI (10 * k + 1))), (0, .ref am), (1, .int (nI p)), (2, .int (nI k)), (3, .int (nI l2))]) [0, 1, 2, 3, 4, 5, 6, 7] rfl ?_
    refine ih (i + 1) _ (by omega) (hpr_ap hpr _) hr ?_
    intro hr9
    rw [catR_front, ← ap_ap] at hk0
    exact hk0 hr9
set_option maxHeartbeats 4000000 in
set_option maxRecDepth 100000 in
theorem lp_member2 {Γ : gT} {K : Nat → ClassId} {am : Nat} {A : Nat → Nat} (hX : gOk Γ cX8_member (wM yX8_member cX8_member 8 none) RX8) (hE : gEv Γ) (hRm : gRm Γ = rmL 6 0 0) (hnL : gnL Γ = 8) (hY : gY Γ = yY K) (pr : PR) (p k l2 : Nat) (hp : p ≤ 12) (hk : k ≤ 5) (hl1 : 10 * k + 1 ≤ l2) (hl2 : l2 ≤ 10 * k + 10) (ho : ∀ r, 10 * k + 1 ≤ r → r ≤ l2 → opOk (pr r).1) (q : Nat) : ∀ (j r : Nat) (σ : MS), r + j = l2 + 1 → 10 * k + 1 ≤ r → prO σ p = pr → Lo σ (20 * j + q) → (Lo (ap σ (catR (bRow pr (10 * k + 1) l2) r j)) q → G Γ (mW K am A (ap σ (catR (bRow pr (10 * k + 1) l2) r j))) 0 0 143 [(7, .int (nI (l2 + 1))), (6, .int (nI (bEnd pr (10 * k + 1) l2))), (5, .int (nI (l2 - 10 * k))), (4, .int (nI (10 * k + 1))), (0, .ref am), (1, .int (nI p)), (2, .int (nI k)), (3, .int (nI l2))] []) → G Γ (mW K am A σ) 0 0 121 [(7, .int (nI r)), (6, .int (nI (bEnd pr (10 * k + 1) l2))), (5, .int (nI (l2 - 10 * k))), (4, .int (nI (10 * k + 1))), (0, .ref am), (1, .int (nI p)), (2, .int (nI k)), (3, .int (nI l2))] [] := by
  have hU : ∀ w ∈ wU, w ∈ wM yX8_member cX8_member 8 none := fun w h => wM_in h
  intro j
  induction j with
  | zero =>
    intro r σ hi h1r hpr hr hk0
    have hii : r = l2 + 1 := by omega
    subst hii
    refine g_iload (n := 123) hX dX8_member_121 rfl rfl ?_
    refine g_iload_n (n := 124) hX dX8_member_123 rfl rfl rfl ?_
    refine g_icmp_gt (n := 127) (tgt := 143) hX dX8_member_124 rfl (by decide) (fun c124 => ?_) (fun c124 => absurd (nI_lt (a := l2) (b := l2 + 1) (by omega) (by omega)) c124)
    exact hk0 (hr.le (by omega))
  | succ j ih =>
    intro r σ hi h1r hpr hr hk0
    refine g_iload (n := 123) hX dX8_member_121 rfl rfl ?_
    refine g_iload_n (n := 124) hX dX8_member_123 rfl rfl rfl ?_
    refine g_icmp_gt (n := 127) (tgt := 143) hX dX8_member_124 rfl (by decide) (fun c124 => absurd c124 (nI_nlt (a := l2) (b := r) (by omega) (by omega))) (fun c124 => ?_)
    refine g_aload_n (n := 128) hX dX8_member_127 rfl rfl rfl ?_
    refine g_iload_n (n := 129) hX dX8_member_128 rfl rfl rfl ?_
    refine g_iload (n := 131) hX dX8_member_129 rfl rfl ?_
    refine g_iload (n := 133) hX dX8_member_131 rfl rfl ?_
    refine g_iload_n (n := 134) hX dX8_member_133 rfl rfl rfl ?_
    refine g_callV0 (n := 137) (As := [.int (nI p), .int (nI r), .int (nI (10 * k + 1)), .int (nI l2)]) (rest := []) hX hE hU hY dX8_member_134 rfl yv_X8_row um_X8_227 (m_row _ _ K am A σ pr p r (10 * k + 1) l2 hpr hp (by omega) (by omega) hl1 ho (by omega) (by omega) (hr.le (by omega))) ⟨rfl, rfl⟩ (rm_le hRm rfl rfl) rfl (ci := 10) (q0 := 0) rfl rfl rfl rfl (Nat.le_of_ble_eq_true rfl) ⟨Nat.zero_le _, Nat.zero_le _⟩ (fun v0 w0 hq0 => ?_)
    obtain ⟨rfl, rfl⟩ := hq0
    show G Γ (mW K am A (ap σ (bRow pr (10 * k + 1) l2 r))) 0 0 137 [(7, .int (nI r)), (6, .int (nI (bEnd pr (10 * k + 1) l2))), (5, .int (nI (l2 - 10 * k))), (4, .int (nI (10 * k + 1))), (0, .ref am), (1, .int (nI p)), (2, .int (nI k)), (3, .int (nI l2))] []
    have hr : Lo (ap σ (bRow pr (10 * k + 1) l2 r)) (20 * j + q) := hr.app (by rw [bRow_len]; have := (lnO_le (pr r).1 (pr r).2.2 (nI (10 * k + 1)) (nI l2)).2; unfold lnR; omega)
    refine g_iinc (n := 140) (v := nI (r + 1)) (lv' := [(7, .int (nI (r + 1))), (6, .int (nI (bEnd pr (10 * k + 1) l2))), (5, .int (nI (l2 - 10 * k))), (4, .int (nI (10 * k + 1))), (0, .ref am), (1, .int (nI p)), (2, .int (nI k)), (3, .int (nI l2))]) hX dX8_member_137 rfl rfl (nI_add r 1) (by rw [hnL]; rfl) rfl ?_
    refine g_goto (n := 121) hX dX8_member_140 (by decide) ?_
    refine g_pick (lv' := [(7, .int (nI (r + 1))), (6, .int (nI (bEnd pr (10 * k + 1) l2))), (5, .int (nI (l2 - 10 * k))), (4, .int (nI (10 * k + 1))), (0, .ref am), (1, .int (nI p)), (2, .int (nI k)), (3, .int (nI l2))]) [0, 1, 2, 3, 4, 5, 6, 7] rfl ?_
    refine ih (r + 1) _ (by omega) (by omega) (hpr_ap hpr _) hr ?_
    intro hr9
    rw [catR_front, ← ap_ap] at hk0
    exact hk0 hr9
set_option maxHeartbeats 4000000 in
set_option maxRecDepth 100000 in
theorem m_member (l : Launch) (D : va_G) (K : Nat → ClassId) (am : Nat) (A : Nat → Nat) (σ : MS) (pr : PR) (p k l2 : Nat) (hpr : prO σ p = pr) (hp : p ≤ 12) (hk : k ≤ 5) (hl1 : 10 * k + 1 ≤ l2) (hl2 : l2 ≤ 10 * k + 10) (ho : ∀ r, 10 * k + 1 ≤ r → r ≤ l2 → opOk (pr r).1) (hr : Lo σ 286) : Mc l yX8_member (wM yX8_member cX8_member 8 none) (rmL 6 0 0) D (yY K) [.ref am, .int (nI p), .int (nI k), .int (nI l2)] (mW K am A σ) (fun v w => v = none ∧ w = mW K am A (ap σ (bMember pr k l2))) 0 0 := by
  refine m_start (lv := [(0, .ref am), (1, .int (nI p)), (2, .int (nI k)), (3, .int (nI l2))]) rfl (Nat.le_of_ble_eq_true rfl) rfl (fun Γ hX hRm hnL hY hDD hLa hR hI hE => ?_)
  have hU : ∀ w ∈ wU, w ∈ wM yX8_member cX8_member 8 none := fun w h => wM_in h
  subst hLa
  subst hDD
  refine g_bipush (n := 2) (v := 10) hX dX8_member_0 rfl rfl ?_
  refine g_iload_n (n := 3) hX dX8_member_2 rfl rfl rfl ?_
  refine g_imul (n := 4) (v := nI (10 * k)) hX dX8_member_3 rfl (pk_mul 10 k) ?_
  refine g_iconst (n := 5) (v := 1) hX dX8_member_4 rfl rfl ?_
  refine g_iadd (n := 6) (v := nI (10 * k + 1)) hX dX8_member_5 rfl (nI_add _ 1) ?_
  refine g_istore (lv' := [(4, .int (nI (10 * k + 1))), (0, .ref am), (1, .int (nI p)), (2, .int (nI k)), (3, .int (nI l2))]) (n := 8) hX dX8_member_6 rfl (by rw [hnL]; rfl) rfl ?_
  refine g_iload_n (n := 9) hX dX8_member_8 rfl rfl rfl ?_
  refine g_iload (n := 11) hX dX8_member_9 rfl rfl ?_
  refine g_isub (n := 12) (v := nI (l2 - (10 * k + 1))) hX dX8_member_11 rfl (pk_sub hl1) ?_
  refine g_iconst (n := 13) (v := 1) hX dX8_member_12 rfl rfl ?_
  refine g_iadd (n := 14) (v := nI (l2 - 10 * k)) hX dX8_member_13 rfl (by rw [show (1 : Int32) = nI 1 from rfl, nI_add]; congr 1; omega) ?_
  refine g_istore (lv' := [(5, .int (nI (l2 - 10 * k))), (4, .int (nI (10 * k + 1))), (0, .ref am), (1, .int (nI p)), (2, .int (nI k)), (3, .int (nI l2))]) (n := 16) hX dX8_member_14 rfl (by rw [hnL]; rfl) rfl ?_
  refine g_aload_n (n := 17) hX dX8_member_16 rfl rfl rfl ?_
  refine g_iload_n (n := 18) hX dX8_member_17 rfl rfl rfl ?_
  refine g_iload_n (n := 19) hX dX8_member_18 rfl rfl rfl ?_
  refine g_iconst (n := 20) (v := 1) hX dX8_member_19 rfl rfl ?_
  refine g_iadd (n := 21) (v := nI (l2 + 1)) hX dX8_member_20 rfl (nI_add l2 1) ?_
  refine g_iload (n := 23) hX dX8_member_21 rfl rfl ?_
  refine g_iload_n (n := 24) hX dX8_member_23 rfl rfl rfl ?_
  refine g_callV0 (n := 27) (As := [.int (nI p), .int (nI (l2 + 1)), .int (nI (10 * k + 1)), .int (nI l2)]) (rest := []) hX hE hU hY dX8_member_24 rfl yv_X8_begins um_X8_213 (mr_begins _ _ K am A σ pr p (l2 + 1) (10 * k + 1) l2 hpr hp (by omega) (by omega) (by omega) (by omega) hl1 ho) ⟨rfl, rfl⟩ (rm_le hRm rfl rfl) rfl (ci := 10) (q0 := 0) rfl rfl rfl rfl (Nat.le_of_ble_eq_true rfl) ⟨Nat.zero_le _, Nat.zero_le _⟩ (fun v0 w0 hq0 => ?_)
  obtain ⟨rfl, rfl⟩ := hq0
  show G Γ (mW K am A σ) 0 0 27 [(5, .int (nI (l2 - 10 * k))), (4, .int (nI (10 * k + 1))), (0, .ref am), (1, .int (nI p)), (2, .int (nI k)), (3, .int (nI l2))] [.int (nI (bEnd pr (10 * k + 1) l2))]
  refine g_istore (lv' := [(6, .int (nI (bEnd pr (10 * k + 1) l2))), (5, .int (nI (l2 - 10 * k))), (4, .int (nI (10 * k + 1))), (0, .ref am), (1, .int (nI p)), (2, .int (nI k)), (3, .int (nI l2))]) (n := 29) hX dX8_member_27 rfl (by rw [hnL]; rfl) rfl ?_
  refine g_aload_n (n := 30) hX dX8_member_29 rfl rfl rfl ?_
  refine g_bipush (n := 32) (v := 28) hX dX8_member_30 rfl rfl ?_
  refine g_iload_n (n := 33) hX dX8_member_32 rfl rfl rfl ?_
  refine g_iadd (n := 34) (v := nI (28 + k)) hX dX8_member_33 rfl (nI_add 28 k) ?_
  refine g_bipush (n := 36) (v := 25) hX dX8_member_34 rfl rfl ?_
  refine g_iconst (n := 37) (v := 5) hX dX8_member_36 rfl rfl ?_
  refine g_iconst (n := 38) (v := 1) hX dX8_member_37 rfl rfl ?_
  refine g_iload (n := 40) hX dX8_member_38 rfl rfl ?_
  refine g_iconst (n := 41) (v := 4) hX dX8_member_40 rfl rfl ?_
  refine g_iadd (n := 42) (v := nI (bEnd pr (10 * k + 1) l2 + 4)) hX dX8_member_41 rfl (nI_add _ 4) ?_
  refine g_callV0 (n := 45) (As := [.int (nI (28 + k)), .int 25, .int 5, .int 1, .int (nI (bEnd pr (10 * k + 1) l2 + 4))]) (rest := []) hX hE hU hY dX8_member_42 rfl yv_X8_method um_X8_224 (m_method _ _ K am A σ (nI (28 + k)) 25 5 1 (nI (bEnd pr (10 * k + 1) l2 + 4)) (hr.le (by decide))) ⟨rfl, rfl⟩ (rm_le hRm rfl rfl) rfl (ci := 10) (q0 := 0) rfl rfl rfl rfl (Nat.le_of_ble_eq_true rfl) ⟨Nat.zero_le _, Nat.zero_le _⟩ (fun v0 w0 hq0 => ?_)
  obtain ⟨rfl, rfl⟩ := hq0
  show G Γ (mW K am A (ap σ (bMethod (nI (28 + k)) 25 5 1 (nI (bEnd pr (10 * k + 1) l2 + 4))))) 0 0 45 [(6, .int (nI (bEnd pr (10 * k + 1) l2))), (5, .int (nI (l2 - 10 * k))), (4, .int (nI (10 * k + 1))), (0, .ref am), (1, .int (nI p)), (2, .int (nI k)), (3, .int (nI l2))] []
  have hr : Lo (ap σ (bMethod (nI (28 + k)) 25 5 1 (nI (bEnd pr (10 * k + 1) l2 + 4)))) 264 := hr.app (Nat.le_of_ble_eq_true rfl)
  refine g_aload_n (n := 46) hX dX8_member_45 rfl rfl rfl ?_
  refine g_bipush (n := 48) (v := 26) hX dX8_member_46 rfl rfl ?_
  refine g_callV0 (n := 51) (As := [.int 26]) (rest := []) hX hE hU hY dX8_member_48 rfl yv_X8_u1 um_X8_138 (m_u1 _ _ K am A (ap σ (bMethod (nI (28 + k)) 25 5 1 (nI (bEnd pr (10 * k + 1) l2 + 4)))) 26 (hr.le (by decide))) ⟨rfl, rfl⟩ (rm_le hRm rfl rfl) rfl (ci := 10) (q0 := 0) rfl rfl rfl rfl (Nat.le_of_ble_eq_true rfl) ⟨Nat.zero_le _, Nat.zero_le _⟩ (fun v0 w0 hq0 => ?_)
  obtain ⟨rfl, rfl⟩ := hq0
  show G Γ (mW K am A (ap (ap σ (bMethod (nI (28 + k)) 25 5 1 (nI (bEnd pr (10 * k + 1) l2 + 4)))) ([26]))) 0 0 51 [(6, .int (nI (bEnd pr (10 * k + 1) l2))), (5, .int (nI (l2 - 10 * k))), (4, .int (nI (10 * k + 1))), (0, .ref am), (1, .int (nI p)), (2, .int (nI k)), (3, .int (nI l2))] []
  have hr : Lo (ap (ap σ (bMethod (nI (28 + k)) 25 5 1 (nI (bEnd pr (10 * k + 1) l2 + 4)))) ([26])) 263 := hr.app (Nat.le_of_ble_eq_true rfl)
  refine g_aload_n (n := 52) hX dX8_member_51 rfl rfl rfl ?_
  refine g_sipush (n := 55) (v := 170) hX dX8_member_52 rfl rfl ?_
  refine g_callV0 (n := 58) (As := [.int 170]) (rest := []) hX hE hU hY dX8_member_55 rfl yv_X8_u1 um_X8_138 (m_u1 _ _ K am A (ap (ap σ (bMethod (nI (28 + k)) 25 5 1 (nI (bEnd pr (10 * k + 1) l2 + 4)))) ([26])) 170 (hr.le (by decide))) ⟨rfl, rfl⟩ (rm_le hRm rfl rfl) rfl (ci := 10) (q0 := 0) rfl rfl rfl rfl (Nat.le_of_ble_eq_true rfl) ⟨Nat.zero_le _, Nat.zero_le _⟩ (fun v0 w0 hq0 => ?_)
  obtain ⟨rfl, rfl⟩ := hq0
  show G Γ (mW K am A (ap (ap (ap σ (bMethod (nI (28 + k)) 25 5 1 (nI (bEnd pr (10 * k + 1) l2 + 4)))) ([26])) ([170]))) 0 0 58 [(6, .int (nI (bEnd pr (10 * k + 1) l2))), (5, .int (nI (l2 - 10 * k))), (4, .int (nI (10 * k + 1))), (0, .ref am), (1, .int (nI p)), (2, .int (nI k)), (3, .int (nI l2))] []
  have hr : Lo (ap (ap (ap σ (bMethod (nI (28 + k)) 25 5 1 (nI (bEnd pr (10 * k + 1) l2 + 4)))) ([26])) ([170])) 262 := hr.app (Nat.le_of_ble_eq_true rfl)
  refine g_aload_n (n := 59) hX dX8_member_58 rfl rfl rfl ?_
  refine g_iconst (n := 60) (v := 0) hX dX8_member_59 rfl rfl ?_
  refine g_callV0 (n := 63) (As := [.int 0]) (rest := []) hX hE hU hY dX8_member_60 rfl yv_X8_u2 um_X8_142 (m_u2 _ _ K am A (ap (ap (ap σ (bMethod (nI (28 + k)) 25 5 1 (nI (bEnd pr (10 * k + 1) l2 + 4)))) ([26])) ([170])) 0 (hr.le (by decide))) ⟨rfl, rfl⟩ (rm_le hRm rfl rfl) rfl (ci := 10) (q0 := 0) rfl rfl rfl rfl (Nat.le_of_ble_eq_true rfl) ⟨Nat.zero_le _, Nat.zero_le _⟩ (fun v0 w0 hq0 => ?_)
  obtain ⟨rfl, rfl⟩ := hq0
  show G Γ (mW K am A (ap (ap (ap (ap σ (bMethod (nI (28 + k)) 25 5 1 (nI (bEnd pr (10 * k + 1) l2 + 4)))) ([26])) ([170])) (b2 0))) 0 0 63 [(6, .int (nI (bEnd pr (10 * k + 1) l2))), (5, .int (nI (l2 - 10 * k))), (4, .int (nI (10 * k + 1))), (0, .ref am), (1, .int (nI p)), (2, .int (nI k)), (3, .int (nI l2))] []
  have hr : Lo (ap (ap (ap (ap σ (bMethod (nI (28 + k)) 25 5 1 (nI (bEnd pr (10 * k + 1) l2 + 4)))) ([26])) ([170])) (b2 0)) 260 := hr.app (Nat.le_of_ble_eq_true rfl)
  refine g_aload_n (n := 64) hX dX8_member_63 rfl rfl rfl ?_
  refine g_iload (n := 66) hX dX8_member_64 rfl rfl ?_
  refine g_iconst (n := 67) (v := 1) hX dX8_member_66 rfl rfl ?_
  refine g_isub (n := 68) (v := nI (bEnd pr (10 * k + 1) l2 - 1)) hX dX8_member_67 rfl (nI_sub1 (by unfold bEnd bg; omega)) ?_
  refine g_callV0 (n := 71) (As := [.int (nI (bEnd pr (10 * k + 1) l2 - 1))]) (rest := []) hX hE hU hY dX8_member_68 rfl yv_X8_u4 um_X8_194 (m_u4 _ _ K am A (ap (ap (ap (ap σ (bMethod (nI (28 + k)) 25 5 1 (nI (bEnd pr (10 * k + 1) l2 + 4)))) ([26])) ([170])) (b2 0)) (nI (bEnd pr (10 * k + 1) l2 - 1)) (hr.le (by decide))) ⟨rfl, rfl⟩ (rm_le hRm rfl rfl) rfl (ci := 10) (q0 := 0) rfl rfl rfl rfl (Nat.le_of_ble_eq_true rfl) ⟨Nat.zero_le _, Nat.zero_le _⟩ (fun v0 w0 hq0 => ?_)
  obtain ⟨rfl, rfl⟩ := hq0
  show G Γ (mW K am A (ap (ap (ap (ap (ap σ (bMethod (nI (28 + k)) 25 5 1 (nI (bEnd pr (10 * k + 1) l2 + 4)))) ([26])) ([170])) (b2 0)) (b4 (nI (bEnd pr (10 * k + 1) l2 - 1))))) 0 0 71 [(6, .int (nI (bEnd pr (10 * k + 1) l2))), (5, .int (nI (l2 - 10 * k))), (4, .int (nI (10 * k + 1))), (0, .ref am), (1, .int (nI p)), (2, .int (nI k)), (3, .int (nI l2))] []
  have hr : Lo (ap (ap (ap (ap (ap σ (bMethod (nI (28 + k)) 25 5 1 (nI (bEnd pr (10 * k + 1) l2 + 4)))) ([26])) ([170])) (b2 0)) (b4 (nI (bEnd pr (10 * k + 1) l2 - 1)))) 256 := hr.app (Nat.le_of_ble_eq_true rfl)
  refine g_aload_n (n := 72) hX dX8_member_71 rfl rfl rfl ?_
  refine g_iload (n := 74) hX dX8_member_72 rfl rfl ?_
  refine g_callV0 (n := 77) (As := [.int (nI (10 * k + 1))]) (rest := []) hX hE hU hY dX8_member_74 rfl yv_X8_u4 um_X8_194 (m_u4 _ _ K am A (ap (ap (ap (ap (ap σ (bMethod (nI (28 + k)) 25 5 1 (nI (bEnd pr (10 * k + 1) l2 + 4)))) ([26])) ([170])) (b2 0)) (b4 (nI (bEnd pr (10 * k + 1) l2 - 1)))) (nI (10 * k + 1)) (hr.le (by decide))) ⟨rfl, rfl⟩ (rm_le hRm rfl rfl) rfl (ci := 10) (q0 := 0) rfl rfl rfl rfl (Nat.le_of_ble_eq_true rfl) ⟨Nat.zero_le _, Nat.zero_le _⟩ (fun v0 w0 hq0 => ?_)
  obtain ⟨rfl, rfl⟩ := hq0
  show G Γ (mW K am A (ap (ap (ap (ap (ap (ap σ (bMethod (nI (28 + k)) 25 5 1 (nI (bEnd pr (10 * k + 1) l2 + 4)))) ([26])) ([170])) (b2 0)) (b4 (nI (bEnd pr (10 * k + 1) l2 - 1)))) (b4 (nI (10 * k + 1))))) 0 0 77 [(6, .int (nI (bEnd pr (10 * k + 1) l2))), (5, .int (nI (l2 - 10 * k))), (4, .int (nI (10 * k + 1))), (0, .ref am), (1, .int (nI p)), (2, .int (nI k)), (3, .int (nI l2))] []
  have hr : Lo (ap (ap (ap (ap (ap (ap σ (bMethod (nI (28 + k)) 25 5 1 (nI (bEnd pr (10 * k + 1) l2 + 4)))) ([26])) ([170])) (b2 0)) (b4 (nI (bEnd pr (10 * k + 1) l2 - 1)))) (b4 (nI (10 * k + 1)))) 252 := hr.app (Nat.le_of_ble_eq_true rfl)
  refine g_aload_n (n := 78) hX dX8_member_77 rfl rfl rfl ?_
  refine g_iload_n (n := 79) hX dX8_member_78 rfl rfl rfl ?_
  refine g_callV0 (n := 82) (As := [.int (nI l2)]) (rest := []) hX hE hU hY dX8_member_79 rfl yv_X8_u4 um_X8_194 (m_u4 _ _ K am A (ap (ap (ap (ap (ap (ap σ (bMethod (nI (28 + k)) 25 5 1 (nI (bEnd pr (10 * k + 1) l2 + 4)))) ([26])) ([170])) (b2 0)) (b4 (nI (bEnd pr (10 * k + 1) l2 - 1)))) (b4 (nI (10 * k + 1)))) (nI l2) (hr.le (by decide))) ⟨rfl, rfl⟩ (rm_le hRm rfl rfl) rfl (ci := 10) (q0 := 0) rfl rfl rfl rfl (Nat.le_of_ble_eq_true rfl) ⟨Nat.zero_le _, Nat.zero_le _⟩ (fun v0 w0 hq0 => ?_)
  obtain ⟨rfl, rfl⟩ := hq0
  show G Γ (mW K am A (ap (ap (ap (ap (ap (ap (ap σ (bMethod (nI (28 + k)) 25 5 1 (nI (bEnd pr (10 * k + 1) l2 + 4)))) ([26])) ([170])) (b2 0)) (b4 (nI (bEnd pr (10 * k + 1) l2 - 1)))) (b4 (nI (10 * k + 1)))) (b4 (nI l2)))) 0 0 82 [(6, .int (nI (bEnd pr (10 * k + 1) l2))), (5, .int (nI (l2 - 10 * k))), (4, .int (nI (10 * k + 1))), (0, .ref am), (1, .int (nI p)), (2, .int (nI k)), (3, .int (nI l2))] []
  have hr : Lo (ap (ap (ap (ap (ap (ap (ap σ (bMethod (nI (28 + k)) 25 5 1 (nI (bEnd pr (10 * k + 1) l2 + 4)))) ([26])) ([170])) (b2 0)) (b4 (nI (bEnd pr (10 * k + 1) l2 - 1)))) (b4 (nI (10 * k + 1)))) (b4 (nI l2))) 248 := hr.app (Nat.le_of_ble_eq_true rfl)
  refine g_iconst (n := 83) (v := 0) hX dX8_member_82 rfl rfl ?_
  refine g_istore (lv' := [(7, .int 0), (6, .int (nI (bEnd pr (10 * k + 1) l2))), (5, .int (nI (l2 - 10 * k))), (4, .int (nI (10 * k + 1))), (0, .ref am), (1, .int (nI p)), (2, .int (nI k)), (3, .int (nI l2))]) (n := 85) hX dX8_member_83 rfl (by rw [hnL]; rfl) rfl ?_
  refine g_pick (lv' := [(7, .int 0), (6, .int (nI (bEnd pr (10 * k + 1) l2))), (5, .int (nI (l2 - 10 * k))), (4, .int (nI (10 * k + 1))), (0, .ref am), (1, .int (nI p)), (2, .int (nI k)), (3, .int (nI l2))]) [0, 1, 2, 3, 4, 5, 6, 7] rfl ?_
  refine lp_member1 hX hE hRm hnL hY pr p k l2 hp hk hl1 hl2 ho 208 (l2 - 10 * k) 0 _ (by omega) (by simp only [prO_ap]; exact hpr) (hr.le (by omega)) ?_
  intro hr
  show G Γ (mW K am A (ap (ap (ap (ap (ap (ap (ap (ap σ (bMethod (nI (28 + k)) 25 5 1 (nI (bEnd pr (10 * k + 1) l2 + 4)))) ([26])) ([170])) (b2 0)) (b4 (nI (bEnd pr (10 * k + 1) l2 - 1)))) (b4 (nI (10 * k + 1)))) (b4 (nI l2))) (catR (fun r => b4 (nI (bg pr (10 * k + 1) l2 r - 1))) (10 * k + 1) (l2 - 10 * k)))) 0 0 117 [(7, .int (nI (l2 - 10 * k))), (6, .int (nI (bEnd pr (10 * k + 1) l2))), (5, .int (nI (l2 - 10 * k))), (4, .int (nI (10 * k + 1))), (0, .ref am), (1, .int (nI p)), (2, .int (nI k)), (3, .int (nI l2))] []
  refine g_iload (n := 119) hX dX8_member_117 rfl rfl ?_
  refine g_istore (lv' := [(7, .int (nI (10 * k + 1))), (6, .int (nI (bEnd pr (10 * k + 1) l2))), (5, .int (nI (l2 - 10 * k))), (4, .int (nI (10 * k + 1))), (0, .ref am), (1, .int (nI p)), (2, .int (nI k)), (3, .int (nI l2))]) (n := 121) hX dX8_member_119 rfl (by rw [hnL]; rfl) rfl ?_
  refine g_pick (lv' := [(7, .int (nI (10 * k + 1))), (6, .int (nI (bEnd pr (10 * k + 1) l2))), (5, .int (nI (l2 - 10 * k))), (4, .int (nI (10 * k + 1))), (0, .ref am), (1, .int (nI p)), (2, .int (nI k)), (3, .int (nI l2))]) [0, 1, 2, 3, 4, 5, 6, 7] rfl ?_
  refine lp_member2 hX hE hRm hnL hY pr p k l2 hp hk hl1 hl2 ho 8 (l2 - 10 * k) (10 * k + 1) _ (by omega) (Nat.le_refl _) (by simp only [prO_ap]; exact hpr) (hr.le (by omega)) ?_
  intro hr
  refine g_aload_n (n := 144) hX dX8_member_143 rfl rfl rfl ?_
  refine g_bipush (n := 146) (v := 17) hX dX8_member_144 rfl rfl ?_
  refine g_callV0 (n := 149) (As := [.int 17]) (rest := []) hX hE hU hY dX8_member_146 rfl yv_X8_u1 um_X8_138 (m_u1 _ _ K am A (ap (ap (ap (ap (ap (ap (ap (ap (ap σ (bMethod (nI (28 + k)) 25 5 1 (nI (bEnd pr (10 * k + 1) l2 + 4)))) ([26])) ([170])) (b2 0)) (b4 (nI (bEnd pr (10 * k + 1) l2 - 1)))) (b4 (nI (10 * k + 1)))) (b4 (nI l2))) (catR (fun r => b4 (nI (bg pr (10 * k + 1) l2 r - 1))) (10 * k + 1) (l2 - 10 * k))) (catR (bRow pr (10 * k + 1) l2) (10 * k + 1) (l2 - 10 * k))) 17 (hr.le (by decide))) ⟨rfl, rfl⟩ (rm_le hRm rfl rfl) rfl (ci := 10) (q0 := 0) rfl rfl rfl rfl (Nat.le_of_ble_eq_true rfl) ⟨Nat.zero_le _, Nat.zero_le _⟩ (fun v0 w0 hq0 => ?_)
  obtain ⟨rfl, rfl⟩ := hq0
  show G Γ (mW K am A (ap (ap (ap (ap (ap (ap (ap (ap (ap (ap σ (bMethod (nI (28 + k)) 25 5 1 (nI (bEnd pr (10 * k + 1) l2 + 4)))) ([26])) ([170])) (b2 0)) (b4 (nI (bEnd pr (10 * k + 1) l2 - 1)))) (b4 (nI (10 * k + 1)))) (b4 (nI l2))) (catR (fun r => b4 (nI (bg pr (10 * k + 1) l2 r - 1))) (10 * k + 1) (l2 - 10 * k))) (catR (bRow pr (10 * k + 1) l2) (10 * k + 1) (l2 - 10 * k))) ([17]))) 0 0 149 [(7, .int (nI (l2 + 1))), (6, .int (nI (bEnd pr (10 * k + 1) l2))), (5, .int (nI (l2 - 10 * k))), (4, .int (nI (10 * k + 1))), (0, .ref am), (1, .int (nI p)), (2, .int (nI k)), (3, .int (nI l2))] []
  have hr : Lo (ap (ap (ap (ap (ap (ap (ap (ap (ap (ap σ (bMethod (nI (28 + k)) 25 5 1 (nI (bEnd pr (10 * k + 1) l2 + 4)))) ([26])) ([170])) (b2 0)) (b4 (nI (bEnd pr (10 * k + 1) l2 - 1)))) (b4 (nI (10 * k + 1)))) (b4 (nI l2))) (catR (fun r => b4 (nI (bg pr (10 * k + 1) l2 r - 1))) (10 * k + 1) (l2 - 10 * k))) (catR (bRow pr (10 * k + 1) l2) (10 * k + 1) (l2 - 10 * k))) ([17])) 7 := hr.app (Nat.le_of_ble_eq_true rfl)
  refine g_aload_n (n := 150) hX dX8_member_149 rfl rfl rfl ?_
  refine g_iload_n (n := 151) hX dX8_member_150 rfl rfl rfl ?_
  refine g_iconst (n := 152) (v := 1) hX dX8_member_151 rfl rfl ?_
  refine g_iadd (n := 153) (v := nI (l2 + 1)) hX dX8_member_152 rfl (nI_add l2 1) ?_
  refine g_callV0 (n := 156) (As := [.int (nI (l2 + 1))]) (rest := []) hX hE hU hY dX8_member_153 rfl yv_X8_u2 um_X8_142 (m_u2 _ _ K am A (ap (ap (ap (ap (ap (ap (ap (ap (ap (ap σ (bMethod (nI (28 + k)) 25 5 1 (nI (bEnd pr (10 * k + 1) l2 + 4)))) ([26])) ([170])) (b2 0)) (b4 (nI (bEnd pr (10 * k + 1) l2 - 1)))) (b4 (nI (10 * k + 1)))) (b4 (nI l2))) (catR (fun r => b4 (nI (bg pr (10 * k + 1) l2 r - 1))) (10 * k + 1) (l2 - 10 * k))) (catR (bRow pr (10 * k + 1) l2) (10 * k + 1) (l2 - 10 * k))) ([17])) (nI (l2 + 1)) (hr.le (by decide))) ⟨rfl, rfl⟩ (rm_le hRm rfl rfl) rfl (ci := 10) (q0 := 0) rfl rfl rfl rfl (Nat.le_of_ble_eq_true rfl) ⟨Nat.zero_le _, Nat.zero_le _⟩ (fun v0 w0 hq0 => ?_)
  obtain ⟨rfl, rfl⟩ := hq0
  show G Γ (mW K am A (ap (ap (ap (ap (ap (ap (ap (ap (ap (ap (ap σ (bMethod (nI (28 + k)) 25 5 1 (nI (bEnd pr (10 * k + 1) l2 + 4)))) ([26])) ([170])) (b2 0)) (b4 (nI (bEnd pr (10 * k + 1) l2 - 1)))) (b4 (nI (10 * k + 1)))) (b4 (nI l2))) (catR (fun r => b4 (nI (bg pr (10 * k + 1) l2 r - 1))) (10 * k + 1) (l2 - 10 * k))) (catR (bRow pr (10 * k + 1) l2) (10 * k + 1) (l2 - 10 * k))) ([17])) (b2 (nI (l2 + 1))))) 0 0 156 [(7, .int (nI (l2 + 1))), (6, .int (nI (bEnd pr (10 * k + 1) l2))), (5, .int (nI (l2 - 10 * k))), (4, .int (nI (10 * k + 1))), (0, .ref am), (1, .int (nI p)), (2, .int (nI k)), (3, .int (nI l2))] []
  have hr : Lo (ap (ap (ap (ap (ap (ap (ap (ap (ap (ap (ap σ (bMethod (nI (28 + k)) 25 5 1 (nI (bEnd pr (10 * k + 1) l2 + 4)))) ([26])) ([170])) (b2 0)) (b4 (nI (bEnd pr (10 * k + 1) l2 - 1)))) (b4 (nI (10 * k + 1)))) (b4 (nI l2))) (catR (fun r => b4 (nI (bg pr (10 * k + 1) l2 r - 1))) (10 * k + 1) (l2 - 10 * k))) (catR (bRow pr (10 * k + 1) l2) (10 * k + 1) (l2 - 10 * k))) ([17])) (b2 (nI (l2 + 1)))) 5 := hr.app (Nat.le_of_ble_eq_true rfl)
  refine g_aload_n (n := 157) hX dX8_member_156 rfl rfl rfl ?_
  refine g_sipush (n := 160) (v := 172) hX dX8_member_157 rfl rfl ?_
  refine g_callV0 (n := 163) (As := [.int 172]) (rest := []) hX hE hU hY dX8_member_160 rfl yv_X8_u1 um_X8_138 (m_u1 _ _ K am A (ap (ap (ap (ap (ap (ap (ap (ap (ap (ap (ap σ (bMethod (nI (28 + k)) 25 5 1 (nI (bEnd pr (10 * k + 1) l2 + 4)))) ([26])) ([170])) (b2 0)) (b4 (nI (bEnd pr (10 * k + 1) l2 - 1)))) (b4 (nI (10 * k + 1)))) (b4 (nI l2))) (catR (fun r => b4 (nI (bg pr (10 * k + 1) l2 r - 1))) (10 * k + 1) (l2 - 10 * k))) (catR (bRow pr (10 * k + 1) l2) (10 * k + 1) (l2 - 10 * k))) ([17])) (b2 (nI (l2 + 1)))) 172 (hr.le (by decide))) ⟨rfl, rfl⟩ (rm_le hRm rfl rfl) rfl (ci := 10) (q0 := 0) rfl rfl rfl rfl (Nat.le_of_ble_eq_true rfl) ⟨Nat.zero_le _, Nat.zero_le _⟩ (fun v0 w0 hq0 => ?_)
  obtain ⟨rfl, rfl⟩ := hq0
  show G Γ (mW K am A (ap (ap (ap (ap (ap (ap (ap (ap (ap (ap (ap (ap σ (bMethod (nI (28 + k)) 25 5 1 (nI (bEnd pr (10 * k + 1) l2 + 4)))) ([26])) ([170])) (b2 0)) (b4 (nI (bEnd pr (10 * k + 1) l2 - 1)))) (b4 (nI (10 * k + 1)))) (b4 (nI l2))) (catR (fun r => b4 (nI (bg pr (10 * k + 1) l2 r - 1))) (10 * k + 1) (l2 - 10 * k))) (catR (bRow pr (10 * k + 1) l2) (10 * k + 1) (l2 - 10 * k))) ([17])) (b2 (nI (l2 + 1)))) ([172]))) 0 0 163 [(7, .int (nI (l2 + 1))), (6, .int (nI (bEnd pr (10 * k + 1) l2))), (5, .int (nI (l2 - 10 * k))), (4, .int (nI (10 * k + 1))), (0, .ref am), (1, .int (nI p)), (2, .int (nI k)), (3, .int (nI l2))] []
  have hr : Lo (ap (ap (ap (ap (ap (ap (ap (ap (ap (ap (ap (ap σ (bMethod (nI (28 + k)) 25 5 1 (nI (bEnd pr (10 * k + 1) l2 + 4)))) ([26])) ([170])) (b2 0)) (b4 (nI (bEnd pr (10 * k + 1) l2 - 1)))) (b4 (nI (10 * k + 1)))) (b4 (nI l2))) (catR (fun r => b4 (nI (bg pr (10 * k + 1) l2 r - 1))) (10 * k + 1) (l2 - 10 * k))) (catR (bRow pr (10 * k + 1) l2) (10 * k + 1) (l2 - 10 * k))) ([17])) (b2 (nI (l2 + 1)))) ([172])) 4 := hr.app (Nat.le_of_ble_eq_true rfl)
  refine g_aload_n (n := 164) hX dX8_member_163 rfl rfl rfl ?_
  refine g_iconst (n := 165) (v := 0) hX dX8_member_164 rfl rfl ?_
  refine g_callV0 (n := 168) (As := [.int 0]) (rest := []) hX hE hU hY dX8_member_165 rfl yv_X8_u4 um_X8_194 (m_u4 _ _ K am A (ap (ap (ap (ap (ap (ap (ap (ap (ap (ap (ap (ap σ (bMethod (nI (28 + k)) 25 5 1 (nI (bEnd pr (10 * k + 1) l2 + 4)))) ([26])) ([170])) (b2 0)) (b4 (nI (bEnd pr (10 * k + 1) l2 - 1)))) (b4 (nI (10 * k + 1)))) (b4 (nI l2))) (catR (fun r => b4 (nI (bg pr (10 * k + 1) l2 r - 1))) (10 * k + 1) (l2 - 10 * k))) (catR (bRow pr (10 * k + 1) l2) (10 * k + 1) (l2 - 10 * k))) ([17])) (b2 (nI (l2 + 1)))) ([172])) 0 (hr.le (by decide))) ⟨rfl, rfl⟩ (rm_le hRm rfl rfl) rfl (ci := 10) (q0 := 0) rfl rfl rfl rfl (Nat.le_of_ble_eq_true rfl) ⟨Nat.zero_le _, Nat.zero_le _⟩ (fun v0 w0 hq0 => ?_)
  obtain ⟨rfl, rfl⟩ := hq0
  show G Γ (mW K am A (ap (ap (ap (ap (ap (ap (ap (ap (ap (ap (ap (ap (ap σ (bMethod (nI (28 + k)) 25 5 1 (nI (bEnd pr (10 * k + 1) l2 + 4)))) ([26])) ([170])) (b2 0)) (b4 (nI (bEnd pr (10 * k + 1) l2 - 1)))) (b4 (nI (10 * k + 1)))) (b4 (nI l2))) (catR (fun r => b4 (nI (bg pr (10 * k + 1) l2 r - 1))) (10 * k + 1) (l2 - 10 * k))) (catR (bRow pr (10 * k + 1) l2) (10 * k + 1) (l2 - 10 * k))) ([17])) (b2 (nI (l2 + 1)))) ([172])) (b4 0))) 0 0 168 [(7, .int (nI (l2 + 1))), (6, .int (nI (bEnd pr (10 * k + 1) l2))), (5, .int (nI (l2 - 10 * k))), (4, .int (nI (10 * k + 1))), (0, .ref am), (1, .int (nI p)), (2, .int (nI k)), (3, .int (nI l2))] []
  have hr : Lo (ap (ap (ap (ap (ap (ap (ap (ap (ap (ap (ap (ap (ap σ (bMethod (nI (28 + k)) 25 5 1 (nI (bEnd pr (10 * k + 1) l2 + 4)))) ([26])) ([170])) (b2 0)) (b4 (nI (bEnd pr (10 * k + 1) l2 - 1)))) (b4 (nI (10 * k + 1)))) (b4 (nI l2))) (catR (fun r => b4 (nI (bg pr (10 * k + 1) l2 r - 1))) (10 * k + 1) (l2 - 10 * k))) (catR (bRow pr (10 * k + 1) l2) (10 * k + 1) (l2 - 10 * k))) ([17])) (b2 (nI (l2 + 1)))) ([172])) (b4 0)) 0 := hr.app (Nat.le_of_ble_eq_true rfl)
  exact g_vret hX hR dX8_member_168 ⟨rfl, by rw [bMember]; simp only [ap_ap]⟩

