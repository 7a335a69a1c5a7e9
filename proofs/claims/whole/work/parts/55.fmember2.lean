set_option maxHeartbeats 4000000 in
set_option maxRecDepth 100000 in
theorem lp_wmem1 {Γ : gT} {K : Nat → ClassId} {L : List Nat} {f : Nat → va_E} {F B T : Nat} (hX : gOk Γ cX0_writeMember (wM yX0_writeMember cX0_writeMember 7 none) RX0) (hE : gEv Γ) (hRm : gRm Γ = rmL 4 0 0) (hnL : gnL Γ = 7) (hY : gY Γ = yY K) (hF : fOk L F B T) (P ra cnt p : Nat) (z sf : Int32) (g : Nat → Option Nat) (RO : Nat → Nat) (pr : PR) (n : Nat) (hQ : prOk K L f F B T P ra cnt p z sf g RO pr n) (k la : Nat) (hl1 : 10 * k + 1 ≤ la) (hl2 : la ≤ 10 * k + 1 + 9) (hl3 : la ≤ n) (q : Nat) : ∀ (j i : Nat) (s : FS), i + j = la - (10 * k + 1) + 1 → ms s (10 * k + 1) la pr → LB s (4 * j + q) → (LB (aB s (catR (fun r => b4 (nI (bg pr (10 * k + 1) la r - 1))) (10 * k + 1 + i) j)) q → G Γ (va_pl L (fw K f F B T (aB s (catR (fun r => b4 (nI (bg pr (10 * k + 1) la r - 1))) (10 * k + 1 + i) j)))) 0 0 121 [(5, .int (nI (la - (10 * k + 1) + 1))), (4, .int (nI (bEnd pr (10 * k + 1) la))), (3, .int (nI (la - (10 * k + 1) + 1))), (0, .ref F), (1, .ref P), (2, .int (nI k))] []) → G Γ (va_pl L (fw K f F B T s)) 0 0 86 [(5, .int (nI i)), (4, .int (nI (bEnd pr (10 * k + 1) la))), (3, .int (nI (la - (10 * k + 1) + 1))), (0, .ref F), (1, .ref P), (2, .int (nI k))] [] := by
  have hU : ∀ w ∈ wU, w ∈ wM yX0_writeMember cX0_writeMember 7 none := fun w h => wM_in h
  obtain ⟨hPm, hPe, hPn, hAm, hAe, hAn, hc60, hnc, hg, hro⟩ := hQ
  intro j
  induction j with
  | zero =>
    intro i s hi hs hr hk0
    have hii : i = la - (10 * k + 1) + 1 := by omega
    subst hii
    refine g_iload (n := 88) hX dX0_writeMember_86 rfl rfl ?_
    refine g_iload_n (n := 89) hX dX0_writeMember_88 rfl rfl rfl ?_
    refine g_icmp_ge (n := 92) (tgt := 121) hX dX0_writeMember_89 rfl (by decide) (fun c89 => ?_) (fun c89 => absurd (nI_le (a := la - (10 * k + 1) + 1) (b := la - (10 * k + 1) + 1) (by omega) (by omega)) c89)
    exact hk0 (hr.le (by omega))
  | succ j ih =>
    intro i s hi hs hr hk0
    refine g_iload (n := 88) hX dX0_writeMember_86 rfl rfl ?_
    refine g_iload_n (n := 89) hX dX0_writeMember_88 rfl rfl rfl ?_
    refine g_icmp_ge (n := 92) (tgt := 121) hX dX0_writeMember_89 rfl (by decide) (fun c89 => absurd c89 (nI_ge (a := i) (b := la - (10 * k + 1) + 1) (by omega) (by omega))) (fun c89 => ?_)
    refine g_iload (n := 94) hX dX0_writeMember_92 rfl rfl ?_
    refine g_aload_n (n := 95) hX dX0_writeMember_94 rfl rfl rfl ?_
    refine g_fget (n := 98) 1 (v := .ref T) hX hU hF dX0_writeMember_95 rfl rfl uf_X0_15 rfl ?_
    refine g_flenT (n := 99) hX hY hF dX0_writeMember_98 rfl ?_
    refine g_icmp_ge (n := 102) (tgt := 121) hX dX0_writeMember_99 rfl (by decide) (fun c99 => absurd c99 (nI_ge (a := i) (b := 11) (by omega) (by omega))) (fun c99 => ?_)
    refine g_aload_n (n := 103) hX dX0_writeMember_102 rfl rfl rfl ?_
    refine g_aload_n (n := 104) hX dX0_writeMember_103 rfl rfl rfl ?_
    refine g_fget (n := 107) 1 (v := .ref T) hX hU hF dX0_writeMember_104 rfl rfl uf_X0_15 rfl ?_
    refine g_iload (n := 109) hX dX0_writeMember_107 rfl rfl ?_
    refine g_fild (n := 110) (v := nI (bg pr (10 * k + 1) la (10 * k + 1 + i))) hX hY hF dX0_writeMember_109 rfl (vp_in_nI (by omega) (by decide)) (by rw [nI_clamp (by omega)]; exact hs.2.2 i (by omega)) ?_
    refine g_iconst (n := 111) (v := 1) hX dX0_writeMember_110 rfl rfl ?_
    refine g_isub (n := 112) (v := nI (bg pr (10 * k + 1) la (10 * k + 1 + i) - 1)) hX dX0_writeMember_111 rfl (nI_sub1 (by unfold bg; omega)) ?_
    refine g_pcallV (n := 115) (As := [.int (nI (bg pr (10 * k + 1) la (10 * k + 1 + i) - 1))]) (rest := []) hX hE hU hY dX0_writeMember_112 rfl yv_X0_u4 um_X0_78 (f_u4 _ _ K L f F B T s (nI (bg pr (10 * k + 1) la (10 * k + 1 + i) - 1)) hF (hr.le (by omega))) ⟨rfl, rfl⟩ (rm_le hRm rfl rfl) rfl hF.1 fw_F rfl rfl rfl (Nat.le_of_ble_eq_true rfl) ⟨Nat.zero_le _, Nat.zero_le _⟩ (fun v0 w0 hq0 => ?_)
    obtain ⟨rfl, rfl⟩ := hq0
    show G Γ (va_pl L (fw K f F B T (aB s (b4 (nI (bg pr (10 * k + 1) la (10 * k + 1 + i) - 1)))))) 0 0 115 [(5, .int (nI i)), (4, .int (nI (bEnd pr (10 * k + 1) la))), (3, .int (nI (la - (10 * k + 1) + 1))), (0, .ref F), (1, .ref P), (2, .int (nI k))] []
    have hr : LB (aB s (b4 (nI (bg pr (10 * k + 1) la (10 * k + 1 + i) - 1)))) (4 * j + q) := hr.app (by show 4 + _ ≤ _; omega)
    refine g_iinc (n := 118) (v := nI (i + 1)) (lv' := [(5, .int (nI (i + 1))), (4, .int (nI (bEnd pr (10 * k + 1) la))), (3, .int (nI (la - (10 * k + 1) + 1))), (0, .ref F), (1, .ref P), (2, .int (nI k))]) hX dX0_writeMember_115 rfl rfl (nI_add i 1) (by rw [hnL]; rfl) rfl ?_
    refine g_goto (n := 86) hX dX0_writeMember_118 (by decide) ?_
    refine g_pick (lv' := [(5, .int (nI (i + 1))), (4, .int (nI (bEnd pr (10 * k + 1) la))), (3, .int (nI (la - (10 * k + 1) + 1))), (0, .ref F), (1, .ref P), (2, .int (nI k))]) [0, 1, 2, 3, 4, 5] rfl ?_
    refine ih (i + 1) _ (by omega) (ms_ap hs _) hr ?_
    rw [catR_front, ← aB_aB] at hk0
    exact hk0
set_option maxHeartbeats 4000000 in
set_option maxRecDepth 100000 in
theorem lp_wmem2 {Γ : gT} {K : Nat → ClassId} {L : List Nat} {f : Nat → va_E} {F B T : Nat} (hX : gOk Γ cX0_writeMember (wM yX0_writeMember cX0_writeMember 7 none) RX0) (hE : gEv Γ) (hRm : gRm Γ = rmL 4 0 0) (hnL : gnL Γ = 7) (hY : gY Γ = yY K) (hF : fOk L F B T) (P ra cnt p : Nat) (z sf : Int32) (g : Nat → Option Nat) (RO : Nat → Nat) (pr : PR) (n : Nat) (hQ : prOk K L f F B T P ra cnt p z sf g RO pr n) (k la : Nat) (hl1 : 10 * k + 1 ≤ la) (hl2 : la ≤ 10 * k + 1 + 9) (hl3 : la ≤ n) (q : Nat) : ∀ (j i : Nat) (s : FS), i + j = la - (10 * k + 1) + 1 → ms s (10 * k + 1) la pr → LB s (20 * j + q) → (LB (aB s (catR (bRow pr (10 * k + 1) la) (10 * k + 1 + i) j)) q → G Γ (va_pl L (fw K f F B T (aB s (catR (bRow pr (10 * k + 1) la) (10 * k + 1 + i) j)))) 0 0 177 [(5, .int (nI (la - (10 * k + 1) + 1))), (4, .int (nI (bEnd pr (10 * k + 1) la))), (3, .int (nI (la - (10 * k + 1) + 1))), (0, .ref F), (1, .ref P), (2, .int (nI k))] []) → G Γ (va_pl L (fw K f F B T s)) 0 0 124 [(5, .int (nI i)), (4, .int (nI (bEnd pr (10 * k + 1) la))), (3, .int (nI (la - (10 * k + 1) + 1))), (0, .ref F), (1, .ref P), (2, .int (nI k))] [] := by
  have hU : ∀ w ∈ wU, w ∈ wM yX0_writeMember cX0_writeMember 7 none := fun w h => wM_in h
  have hQ2 := hQ
  obtain ⟨hPm, hPe, hPn, hAm, hAe, hAn, hc60, hnc, hg, hro⟩ := hQ2
  intro j
  induction j with
  | zero =>
    intro i s hi hs hr hk0
    have hii : i = la - (10 * k + 1) + 1 := by omega
    subst hii
    refine g_iload (n := 126) hX dX0_writeMember_124 rfl rfl ?_
    refine g_iload_n (n := 127) hX dX0_writeMember_126 rfl rfl rfl ?_
    refine g_icmp_ge (n := 130) (tgt := 177) hX dX0_writeMember_127 rfl (by decide) (fun c127 => ?_) (fun c127 => absurd (nI_le (a := la - (10 * k + 1) + 1) (b := la - (10 * k + 1) + 1) (by omega) (by omega)) c127)
    exact hk0 (hr.le (by omega))
  | succ j ih =>
    intro i s hi hs hr hk0
    refine g_iload (n := 126) hX dX0_writeMember_124 rfl rfl ?_
    refine g_iload_n (n := 127) hX dX0_writeMember_126 rfl rfl rfl ?_
    refine g_icmp_ge (n := 130) (tgt := 177) hX dX0_writeMember_127 rfl (by decide) (fun c127 => absurd c127 (nI_ge (a := i) (b := la - (10 * k + 1) + 1) (by omega) (by omega))) (fun c127 => ?_)
    refine g_iload (n := 132) hX dX0_writeMember_130 rfl rfl ?_
    refine g_aload_n (n := 133) hX dX0_writeMember_132 rfl rfl rfl ?_
    refine g_fget (n := 136) 1 (v := .ref T) hX hU hF dX0_writeMember_133 rfl rfl uf_X0_15 rfl ?_
    refine g_flenT (n := 137) hX hY hF dX0_writeMember_136 rfl ?_
    refine g_icmp_ge (n := 140) (tgt := 177) hX dX0_writeMember_137 rfl (by decide) (fun c137 => absurd c137 (nI_ge (a := i) (b := 11) (by omega) (by omega))) (fun c137 => ?_)
    refine g_aload_n (n := 141) hX dX0_writeMember_140 rfl rfl rfl ?_
    refine g_aload_n (n := 142) hX dX0_writeMember_141 rfl rfl rfl ?_
    refine g_fget (n := 145) 3 (v := .int (nI (10 * k + 1))) hX hU hF dX0_writeMember_142 rfl rfl uf_X0_52 (fI_e hs.1) ?_
    refine g_iload (n := 147) hX dX0_writeMember_145 rfl rfl ?_
    refine g_iadd (n := 148) (v := nI (10 * k + 1 + i)) hX dX0_writeMember_147 rfl (nI_add _ i) ?_
    refine g_pcallV (n := 151) (As := [.int (nI (10 * k + 1 + i))]) (rest := []) hX hE hU hY dX0_writeMember_148 rfl yv_X3_findRow um_X0_144 (x_findRow3 _ _ K L (fw K f F B T s) (nI (10 * k + 1 + i)) P ra cnt g (nI p) z sf hPm ((fw_o hPn).trans hPe) hAm ((fw_o hAn).trans hAe) hc60) ⟨rfl, rfl⟩ (rm_le hRm rfl rfl) rfl hPm ((fw_o hPn).trans hPe) rfl rfl rfl (Nat.le_of_ble_eq_true rfl) ⟨Nat.zero_le _, Nat.zero_le _⟩ (fun v0 w0 hq0 => ?_)
    obtain ⟨rfl, rfl⟩ := hq0; rw [row_at hg (r := 10 * k + 1 + i) (by omega) (by omega) hnc hc60]
    show G Γ (va_pl L (fw K f F B T s)) 0 0 151 [(5, .int (nI i)), (4, .int (nI (bEnd pr (10 * k + 1) la))), (3, .int (nI (la - (10 * k + 1) + 1))), (0, .ref F), (1, .ref P), (2, .int (nI k))] [.ref (RO (10 * k + 1 + i))]
    refine g_astore (lv' := [(6, .ref (RO (10 * k + 1 + i))), (5, .int (nI i)), (4, .int (nI (bEnd pr (10 * k + 1) la))), (3, .int (nI (la - (10 * k + 1) + 1))), (0, .ref F), (1, .ref P), (2, .int (nI k))]) (n := 153) hX dX0_writeMember_151 rfl (by rw [hnL]; rfl) rfl ?_
    refine g_aload (n := 155) hX dX0_writeMember_153 rfl rfl ?_
    refine g_ifnull (n := 158) hX dX0_writeMember_155 rfl ?_
    refine g_aload_n (n := 159) hX dX0_writeMember_158 rfl rfl rfl ?_
    refine g_aload (n := 161) hX dX0_writeMember_159 rfl rfl ?_
    refine g_aload_n (n := 162) hX dX0_writeMember_161 rfl rfl rfl ?_
    refine g_fget (n := 165) 1 (v := .ref T) hX hU hF dX0_writeMember_162 rfl rfl uf_X0_15 rfl ?_
    refine g_iload (n := 167) hX dX0_writeMember_165 rfl rfl ?_
    refine g_fild (n := 168) (v := nI (bg pr (10 * k + 1) la (10 * k + 1 + i))) hX hY hF dX0_writeMember_167 rfl (vp_in_nI (by omega) (by decide)) (by rw [nI_clamp (by omega)]; exact hs.2.2 i (by omega)) ?_
    refine g_pcallV (n := 171) (As := [.ref (RO (10 * k + 1 + i)), .int (nI (bg pr (10 * k + 1) la (10 * k + 1 + i)))]) (rest := []) hX hE hU hY dX0_writeMember_168 rfl yv_X0_writeRow um_X0_148 (f_writeRow _ _ K L f F B T s P ra cnt p z sf g RO pr n hQ (10 * k + 1) la (10 * k + 1 + i) hl1 hl2 hl3 (by omega) (by omega) (by omega) hF (hr.le (by omega)) hs) ⟨rfl, rfl⟩ (rm_le hRm rfl rfl) rfl hF.1 fw_F rfl rfl rfl (Nat.le_of_ble_eq_true rfl) ⟨Nat.zero_le _, Nat.zero_le _⟩ (fun v0 w0 hq0 => ?_)
    obtain ⟨rfl, rfl⟩ := hq0
    show G Γ (va_pl L (fw K f F B T (aB s (bRow pr (10 * k + 1) la (10 * k + 1 + i))))) 0 0 171 [(6, .ref (RO (10 * k + 1 + i))), (5, .int (nI i)), (4, .int (nI (bEnd pr (10 * k + 1) la))), (3, .int (nI (la - (10 * k + 1) + 1))), (0, .ref F), (1, .ref P), (2, .int (nI k))] []
    have hr : LB (aB s (bRow pr (10 * k + 1) la (10 * k + 1 + i))) (20 * j + q) := hr.app (by rw [bRow_len]; have := (lnO_le (pr (10 * k + 1 + i)).1 (pr (10 * k + 1 + i)).2.2 (nI (10 * k + 1)) (nI la)).2; unfold lnR; omega)
    refine g_iinc (n := 174) (v := nI (i + 1)) (lv' := [(5, .int (nI (i + 1))), (6, .ref (RO (10 * k + 1 + i))), (4, .int (nI (bEnd pr (10 * k + 1) la))), (3, .int (nI (la - (10 * k + 1) + 1))), (0, .ref F), (1, .ref P), (2, .int (nI k))]) hX dX0_writeMember_171 rfl rfl (nI_add i 1) (by rw [hnL]; rfl) rfl ?_
    refine g_goto (n := 124) hX dX0_writeMember_174 (by decide) ?_
    refine g_pick (lv' := [(5, .int (nI (i + 1))), (4, .int (nI (bEnd pr (10 * k + 1) la))), (3, .int (nI (la - (10 * k + 1) + 1))), (0, .ref F), (1, .ref P), (2, .int (nI k))]) [0, 2, 3, 4, 5, 6] rfl ?_
    refine ih (i + 1) _ (by omega) (ms_ap hs _) hr ?_
    rw [catR_front, ← aB_aB] at hk0
    exact hk0
set_option maxHeartbeats 4000000 in
set_option maxRecDepth 100000 in
theorem f_writeMember (l : Launch) (D : va_G) (K : Nat → ClassId) (L : List Nat) (f : Nat → va_E) (F B T : Nat) (s : FS) (P ra cnt p : Nat) (z sf : Int32) (g : Nat → Option Nat) (RO : Nat → Nat) (pr : PR) (n : Nat) (hQ : prOk K L f F B T P ra cnt p z sf g RO pr n) (k la : Nat) (hl1 : 10 * k + 1 ≤ la) (hl2 : la ≤ 10 * k + 1 + 9) (hl3 : la ≤ n) (h1 : s.2.2.1 = nI (10 * k + 1)) (h2 : s.2.2.2.1 = nI la) (hF : fOk L F B T) (hr : LB s 286) : Mc l yX0_writeMember (wM yX0_writeMember cX0_writeMember 7 none) (rmL 4 0 0) D (yY K) [.ref F, .ref P, .int (nI k)] (va_pl L (fw K f F B T s)) (fun v w => v = none ∧ ∃ t : Nat → Int32, w = va_pl L (fw K f F B T (aB (sT s t) (bMember pr k la)))) 0 0 := by
  have hQ2 := hQ
  obtain ⟨hPm, hPe, hPn, hAm, hAe, hAn, hc60, hnc, hg, hro⟩ := hQ2
  refine m_start (lv := [(0, .ref F), (1, .ref P), (2, .int (nI k))]) rfl (Nat.le_of_ble_eq_true rfl) rfl (fun Γ hX hRm hnL hY hDD hLa hR hI hE => ?_)
  have hU : ∀ w ∈ wU, w ∈ wM yX0_writeMember cX0_writeMember 7 none := fun w h => wM_in h
  subst hLa
  subst hDD
  refine g_aload_n (n := 1) hX dX0_writeMember_0 rfl rfl rfl ?_
  refine g_fget (n := 4) 4 (v := .int (nI la)) hX hU hF dX0_writeMember_1 rfl rfl uf_X0_61 (fI_e h2) ?_
  refine g_aload_n (n := 5) hX dX0_writeMember_4 rfl rfl rfl ?_
  refine g_fget (n := 8) 3 (v := .int (nI (10 * k + 1))) hX hU hF dX0_writeMember_5 rfl rfl uf_X0_52 (fI_e h1) ?_
  refine g_isub (n := 9) (v := nI (la - (10 * k + 1))) hX dX0_writeMember_8 rfl (pk_sub hl1) ?_
  refine g_iconst (n := 10) (v := 1) hX dX0_writeMember_9 rfl rfl ?_
  refine g_iadd (n := 11) (v := nI (la - (10 * k + 1) + 1)) hX dX0_writeMember_10 rfl (nI_add _ 1) ?_
  refine g_istore_n (lv' := [(3, .int (nI (la - (10 * k + 1) + 1))), (0, .ref F), (1, .ref P), (2, .int (nI k))]) (n := 12) hX dX0_writeMember_11 rfl rfl (by rw [hnL]; rfl) rfl ?_
  refine g_aload_n (n := 13) hX dX0_writeMember_12 rfl rfl rfl ?_
  refine g_aload_n (n := 14) hX dX0_writeMember_13 rfl rfl rfl ?_
  refine g_bipush (n := 16) (v := 16) hX dX0_writeMember_14 rfl rfl ?_
  refine g_iconst (n := 17) (v := 4) hX dX0_writeMember_16 rfl rfl ?_
  refine g_iload_n (n := 18) hX dX0_writeMember_17 rfl rfl rfl ?_
  refine g_imul (n := 19) (v := nI (4 * (la - (10 * k + 1) + 1))) hX dX0_writeMember_18 rfl (pk_mul 4 _) ?_
  refine g_iadd (n := 20) (v := nI (16 + 4 * (la - (10 * k + 1) + 1))) hX dX0_writeMember_19 rfl (nI_add 16 _) ?_
  refine g_pcallV (n := 23) (As := [.ref P, .int (nI (16 + 4 * (la - (10 * k + 1) + 1)))]) (rest := []) hX hE hU hY dX0_writeMember_20 rfl yv_X0_layOutRows um_X0_140 (f_layOutRows _ _ K L f F B T s P ra cnt p z sf g RO pr n hQ (10 * k + 1) la hl1 hl2 hl3 (by omega) h1 h2 hF) ⟨rfl, rfl⟩ (rm_le hRm rfl rfl) rfl hF.1 fw_F rfl rfl rfl (Nat.le_of_ble_eq_true rfl) ⟨Nat.zero_le _, Nat.zero_le _⟩ (fun v0 w0 hq0 => ?_)
  obtain ⟨rfl, t, rfl, hs⟩ := hq0
  show G Γ (va_pl L (fw K f F B T (sT s t))) 0 0 23 [(3, .int (nI (la - (10 * k + 1) + 1))), (0, .ref F), (1, .ref P), (2, .int (nI k))] [.int (nI (bEnd pr (10 * k + 1) la))]
  have hr : LB (sT s t) 286 := hr
  refine g_istore (lv' := [(4, .int (nI (bEnd pr (10 * k + 1) la))), (3, .int (nI (la - (10 * k + 1) + 1))), (0, .ref F), (1, .ref P), (2, .int (nI k))]) (n := 25) hX dX0_writeMember_23 rfl (by rw [hnL]; rfl) rfl ?_
  refine g_aload_n (n := 26) hX dX0_writeMember_25 rfl rfl rfl ?_
  refine g_bipush (n := 28) (v := 28) hX dX0_writeMember_26 rfl rfl ?_
  refine g_iload_n (n := 29) hX dX0_writeMember_28 rfl rfl rfl ?_
  refine g_iadd (n := 30) (v := nI (28 + k)) hX dX0_writeMember_29 rfl (nI_add 28 k) ?_
  refine g_bipush (n := 32) (v := 25) hX dX0_writeMember_30 rfl rfl ?_
  refine g_iconst (n := 33) (v := 5) hX dX0_writeMember_32 rfl rfl ?_
  refine g_iconst (n := 34) (v := 1) hX dX0_writeMember_33 rfl rfl ?_
  refine g_iload (n := 36) hX dX0_writeMember_34 rfl rfl ?_
  refine g_iconst (n := 37) (v := 4) hX dX0_writeMember_36 rfl rfl ?_
  refine g_iadd (n := 38) (v := nI (bEnd pr (10 * k + 1) la + 4)) hX dX0_writeMember_37 rfl (nI_add _ 4) ?_
  refine g_pcallV (n := 41) (As := [.int (nI (28 + k)), .int 25, .int 5, .int 1, .int (nI (bEnd pr (10 * k + 1) la + 4))]) (rest := []) hX hE hU hY dX0_writeMember_38 rfl yv_X0_methodHead um_X0_122 (f_methodHead _ _ K L f F B T (sT s t) (nI (28 + k)) 25 5 1 (nI (bEnd pr (10 * k + 1) la + 4)) hF (hr.le (by decide))) ⟨rfl, rfl⟩ (rm_le hRm rfl rfl) rfl hF.1 fw_F rfl rfl rfl (Nat.le_of_ble_eq_true rfl) ⟨Nat.zero_le _, Nat.zero_le _⟩ (fun v0 w0 hq0 => ?_)
  obtain ⟨rfl, rfl⟩ := hq0
  show G Γ (va_pl L (fw K f F B T (aB (sT s t) (bMethod (nI (28 + k)) 25 5 1 (nI (bEnd pr (10 * k + 1) la + 4)))))) 0 0 41 [(4, .int (nI (bEnd pr (10 * k + 1) la))), (3, .int (nI (la - (10 * k + 1) + 1))), (0, .ref F), (1, .ref P), (2, .int (nI k))] []
  have hr : LB (aB (sT s t) (bMethod (nI (28 + k)) 25 5 1 (nI (bEnd pr (10 * k + 1) la + 4)))) 264 := hr.app (Nat.le_of_ble_eq_true rfl)
  refine g_aload_n (n := 42) hX dX0_writeMember_41 rfl rfl rfl ?_
  refine g_bipush (n := 44) (v := 26) hX dX0_writeMember_42 rfl rfl ?_
  refine g_pcallV (n := 47) (As := [.int 26]) (rest := []) hX hE hU hY dX0_writeMember_44 rfl yv_X0_u1 um_X0_126 (f_u1 _ _ K L f F B T (aB (sT s t) (bMethod (nI (28 + k)) 25 5 1 (nI (bEnd pr (10 * k + 1) la + 4)))) 26 hF (hr.le (by decide))) ⟨rfl, rfl⟩ (rm_le hRm rfl rfl) rfl hF.1 fw_F rfl rfl rfl (Nat.le_of_ble_eq_true rfl) ⟨Nat.zero_le _, Nat.zero_le _⟩ (fun v0 w0 hq0 => ?_)
  obtain ⟨rfl, rfl⟩ := hq0
  show G Γ (va_pl L (fw K f F B T (aB (aB (sT s t) (bMethod (nI (28 + k)) 25 5 1 (nI (bEnd pr (10 * k + 1) la + 4)))) ([26])))) 0 0 47 [(4, .int (nI (bEnd pr (10 * k + 1) la))), (3, .int (nI (la - (10 * k + 1) + 1))), (0, .ref F), (1, .ref P), (2, .int (nI k))] []
  have hr : LB (aB (aB (sT s t) (bMethod (nI (28 + k)) 25 5 1 (nI (bEnd pr (10 * k + 1) la + 4)))) ([26])) 263 := hr.app (Nat.le_of_ble_eq_true rfl)
  refine g_aload_n (n := 48) hX dX0_writeMember_47 rfl rfl rfl ?_
  refine g_sipush (n := 51) (v := 170) hX dX0_writeMember_48 rfl rfl ?_
  refine g_pcallV (n := 54) (As := [.int 170]) (rest := []) hX hE hU hY dX0_writeMember_51 rfl yv_X0_u1 um_X0_126 (f_u1 _ _ K L f F B T (aB (aB (sT s t) (bMethod (nI (28 + k)) 25 5 1 (nI (bEnd pr (10 * k + 1) la + 4)))) ([26])) 170 hF (hr.le (by decide))) ⟨rfl, rfl⟩ (rm_le hRm rfl rfl) rfl hF.1 fw_F rfl rfl rfl (Nat.le_of_ble_eq_true rfl) ⟨Nat.zero_le _, Nat.zero_le _⟩ (fun v0 w0 hq0 => ?_)
  obtain ⟨rfl, rfl⟩ := hq0
  show G Γ (va_pl L (fw K f F B T (aB (aB (aB (sT s t) (bMethod (nI (28 + k)) 25 5 1 (nI (bEnd pr (10 * k + 1) la + 4)))) ([26])) ([170])))) 0 0 54 [(4, .int (nI (bEnd pr (10 * k + 1) la))), (3, .int (nI (la - (10 * k + 1) + 1))), (0, .ref F), (1, .ref P), (2, .int (nI k))] []
  have hr : LB (aB (aB (aB (sT s t) (bMethod (nI (28 + k)) 25 5 1 (nI (bEnd pr (10 * k + 1) la + 4)))) ([26])) ([170])) 262 := hr.app (Nat.le_of_ble_eq_true rfl)
  refine g_aload_n (n := 55) hX dX0_writeMember_54 rfl rfl rfl ?_
  refine g_iconst (n := 56) (v := 0) hX dX0_writeMember_55 rfl rfl ?_
  refine g_pcallV (n := 59) (As := [.int 0]) (rest := []) hX hE hU hY dX0_writeMember_56 rfl yv_X0_u2 um_X0_68 (f_u2 _ _ K L f F B T (aB (aB (aB (sT s t) (bMethod (nI (28 + k)) 25 5 1 (nI (bEnd pr (10 * k + 1) la + 4)))) ([26])) ([170])) 0 hF (hr.le (by decide))) ⟨rfl, rfl⟩ (rm_le hRm rfl rfl) rfl hF.1 fw_F rfl rfl rfl (Nat.le_of_ble_eq_true rfl) ⟨Nat.zero_le _, Nat.zero_le _⟩ (fun v0 w0 hq0 => ?_)
  obtain ⟨rfl, rfl⟩ := hq0
  show G Γ (va_pl L (fw K f F B T (aB (aB (aB (aB (sT s t) (bMethod (nI (28 + k)) 25 5 1 (nI (bEnd pr (10 * k + 1) la + 4)))) ([26])) ([170])) (b2 0)))) 0 0 59 [(4, .int (nI (bEnd pr (10 * k + 1) la))), (3, .int (nI (la - (10 * k + 1) + 1))), (0, .ref F), (1, .ref P), (2, .int (nI k))] []
  have hr : LB (aB (aB (aB (aB (sT s t) (bMethod (nI (28 + k)) 25 5 1 (nI (bEnd pr (10 * k + 1) la + 4)))) ([26])) ([170])) (b2 0)) 260 := hr.app (Nat.le_of_ble_eq_true rfl)
  refine g_aload_n (n := 60) hX dX0_writeMember_59 rfl rfl rfl ?_
  refine g_iload (n := 62) hX dX0_writeMember_60 rfl rfl ?_
  refine g_iconst (n := 63) (v := 1) hX dX0_writeMember_62 rfl rfl ?_
  refine g_isub (n := 64) (v := nI (bEnd pr (10 * k + 1) la - 1)) hX dX0_writeMember_63 rfl (nI_sub1 (by unfold bEnd bg; omega)) ?_
  refine g_pcallV (n := 67) (As := [.int (nI (bEnd pr (10 * k + 1) la - 1))]) (rest := []) hX hE hU hY dX0_writeMember_64 rfl yv_X0_u4 um_X0_78 (f_u4 _ _ K L f F B T (aB (aB (aB (aB (sT s t) (bMethod (nI (28 + k)) 25 5 1 (nI (bEnd pr (10 * k + 1) la + 4)))) ([26])) ([170])) (b2 0)) (nI (bEnd pr (10 * k + 1) la - 1)) hF (hr.le (by decide))) ⟨rfl, rfl⟩ (rm_le hRm rfl rfl) rfl hF.1 fw_F rfl rfl rfl (Nat.le_of_ble_eq_true rfl) ⟨Nat.zero_le _, Nat.zero_le _⟩ (fun v0 w0 hq0 => ?_)
  obtain ⟨rfl, rfl⟩ := hq0
  show G Γ (va_pl L (fw K f F B T (aB (aB (aB (aB (aB (sT s t) (bMethod (nI (28 + k)) 25 5 1 (nI (bEnd pr (10 * k + 1) la + 4)))) ([26])) ([170])) (b2 0)) (b4 (nI (bEnd pr (10 * k + 1) la - 1)))))) 0 0 67 [(4, .int (nI (bEnd pr (10 * k + 1) la))), (3, .int (nI (la - (10 * k + 1) + 1))), (0, .ref F), (1, .ref P), (2, .int (nI k))] []
  have hr : LB (aB (aB (aB (aB (aB (sT s t) (bMethod (nI (28 + k)) 25 5 1 (nI (bEnd pr (10 * k + 1) la + 4)))) ([26])) ([170])) (b2 0)) (b4 (nI (bEnd pr (10 * k + 1) la - 1)))) 256 := hr.app (Nat.le_of_ble_eq_true rfl)
  refine g_aload_n (n := 68) hX dX0_writeMember_67 rfl rfl rfl ?_
  refine g_aload_n (n := 69) hX dX0_writeMember_68 rfl rfl rfl ?_
  refine g_fget (n := 72) 3 (v := .int (nI (10 * k + 1))) hX hU hF dX0_writeMember_69 rfl rfl uf_X0_52 (fI_e (ms_ap (ms_ap (ms_ap (ms_ap (ms_ap hs _) _) _) _) _).1) ?_
  refine g_pcallV (n := 75) (As := [.int (nI (10 * k + 1))]) (rest := []) hX hE hU hY dX0_writeMember_72 rfl yv_X0_u4 um_X0_78 (f_u4 _ _ K L f F B T (aB (aB (aB (aB (aB (sT s t) (bMethod (nI (28 + k)) 25 5 1 (nI (bEnd pr (10 * k + 1) la + 4)))) ([26])) ([170])) (b2 0)) (b4 (nI (bEnd pr (10 * k + 1) la - 1)))) (nI (10 * k + 1)) hF (hr.le (by decide))) ⟨rfl, rfl⟩ (rm_le hRm rfl rfl) rfl hF.1 fw_F rfl rfl rfl (Nat.le_of_ble_eq_true rfl) ⟨Nat.zero_le _, Nat.zero_le _⟩ (fun v0 w0 hq0 => ?_)
  obtain ⟨rfl, rfl⟩ := hq0
  show G Γ (va_pl L (fw K f F B T (aB (aB (aB (aB (aB (aB (sT s t) (bMethod (nI (28 + k)) 25 5 1 (nI (bEnd pr (10 * k + 1) la + 4)))) ([26])) ([170])) (b2 0)) (b4 (nI (bEnd pr (10 * k + 1) la - 1)))) (b4 (nI (10 * k + 1)))))) 0 0 75 [(4, .int (nI (bEnd pr (10 * k + 1) la))), (3, .int (nI (la - (10 * k + 1) + 1))), (0, .ref F), (1, .ref P), (2, .int (nI k))] []
  have hr : LB (aB (aB (aB (aB (aB (aB (sT s t) (bMethod (nI (28 + k)) 25 5 1 (nI (bEnd pr (10 * k + 1) la + 4)))) ([26])) ([170])) (b2 0)) (b4 (nI (bEnd pr (10 * k + 1) la - 1)))) (b4 (nI (10 * k + 1)))) 252 := hr.app (Nat.le_of_ble_eq_true rfl)
  refine g_aload_n (n := 76) hX dX0_writeMember_75 rfl rfl rfl ?_
  refine g_aload_n (n := 77) hX dX0_writeMember_76 rfl rfl rfl ?_
  refine g_fget (n := 80) 4 (v := .int (nI la)) hX hU hF dX0_writeMember_77 rfl rfl uf_X0_61 (fI_e (ms_ap (ms_ap (ms_ap (ms_ap (ms_ap (ms_ap hs _) _) _) _) _) _).2.1) ?_
  refine g_pcallV (n := 83) (As := [.int (nI la)]) (rest := []) hX hE hU hY dX0_writeMember_80 rfl yv_X0_u4 um_X0_78 (f_u4 _ _ K L f F B T (aB (aB (aB (aB (aB (aB (sT s t) (bMethod (nI (28 + k)) 25 5 1 (nI (bEnd pr (10 * k + 1) la + 4)))) ([26])) ([170])) (b2 0)) (b4 (nI (bEnd pr (10 * k + 1) la - 1)))) (b4 (nI (10 * k + 1)))) (nI la) hF (hr.le (by decide))) ⟨rfl, rfl⟩ (rm_le hRm rfl rfl) rfl hF.1 fw_F rfl rfl rfl (Nat.le_of_ble_eq_true rfl) ⟨Nat.zero_le _, Nat.zero_le _⟩ (fun v0 w0 hq0 => ?_)
  obtain ⟨rfl, rfl⟩ := hq0
  show G Γ (va_pl L (fw K f F B T (aB (aB (aB (aB (aB (aB (aB (sT s t) (bMethod (nI (28 + k)) 25 5 1 (nI (bEnd pr (10 * k + 1) la + 4)))) ([26])) ([170])) (b2 0)) (b4 (nI (bEnd pr (10 * k + 1) la - 1)))) (b4 (nI (10 * k + 1)))) (b4 (nI la))))) 0 0 83 [(4, .int (nI (bEnd pr (10 * k + 1) la))), (3, .int (nI (la - (10 * k + 1) + 1))), (0, .ref F), (1, .ref P), (2, .int (nI k))] []
  have hr : LB (aB (aB (aB (aB (aB (aB (aB (sT s t) (bMethod (nI (28 + k)) 25 5 1 (nI (bEnd pr (10 * k + 1) la + 4)))) ([26])) ([170])) (b2 0)) (b4 (nI (bEnd pr (10 * k + 1) la - 1)))) (b4 (nI (10 * k + 1)))) (b4 (nI la))) 248 := hr.app (Nat.le_of_ble_eq_true rfl)
  refine g_iconst (n := 84) (v := 0) hX dX0_writeMember_83 rfl rfl ?_
  refine g_istore (lv' := [(5, .int 0), (4, .int (nI (bEnd pr (10 * k + 1) la))), (3, .int (nI (la - (10 * k + 1) + 1))), (0, .ref F), (1, .ref P), (2, .int (nI k))]) (n := 86) hX dX0_writeMember_84 rfl (by rw [hnL]; rfl) rfl ?_
  refine g_pick (lv' := [(5, .int 0), (4, .int (nI (bEnd pr (10 * k + 1) la))), (3, .int (nI (la - (10 * k + 1) + 1))), (0, .ref F), (1, .ref P), (2, .int (nI k))]) [0, 1, 2, 3, 4, 5] rfl ?_
  refine lp_wmem1 hX hE hRm hnL hY hF P ra cnt p z sf g RO pr n hQ k la hl1 hl2 hl3 208 (la - (10 * k + 1) + 1) 0 _ (by omega) (ms_ap (ms_ap (ms_ap (ms_ap (ms_ap (ms_ap (ms_ap hs _) _) _) _) _) _) _) (hr.le (by omega)) ?_
  intro hr
  show G Γ (va_pl L (fw K f F B T (aB (aB (aB (aB (aB (aB (aB (aB (sT s t) (bMethod (nI (28 + k)) 25 5 1 (nI (bEnd pr (10 * k + 1) la + 4)))) ([26])) ([170])) (b2 0)) (b4 (nI (bEnd pr (10 * k + 1) la - 1)))) (b4 (nI (10 * k + 1)))) (b4 (nI la))) (catR (fun r => b4 (nI (bg pr (10 * k + 1) la r - 1))) (10 * k + 1 + 0) (la - (10 * k + 1) + 1))))) 0 0 121 [(5, .int (nI (la - (10 * k + 1) + 1))), (4, .int (nI (bEnd pr (10 * k + 1) la))), (3, .int (nI (la - (10 * k + 1) + 1))), (0, .ref F), (1, .ref P), (2, .int (nI k))] []
  refine g_iconst (n := 122) (v := 0) hX dX0_writeMember_121 rfl rfl ?_
  refine g_istore (lv' := [(5, .int 0), (4, .int (nI (bEnd pr (10 * k + 1) la))), (3, .int (nI (la - (10 * k + 1) + 1))), (0, .ref F), (1, .ref P), (2, .int (nI k))]) (n := 124) hX dX0_writeMember_122 rfl (by rw [hnL]; rfl) rfl ?_
  refine g_pick (lv' := [(5, .int 0), (4, .int (nI (bEnd pr (10 * k + 1) la))), (3, .int (nI (la - (10 * k + 1) + 1))), (0, .ref F), (1, .ref P), (2, .int (nI k))]) [0, 1, 2, 3, 4, 5] rfl ?_
  refine lp_wmem2 hX hE hRm hnL hY hF P ra cnt p z sf g RO pr n hQ k la hl1 hl2 hl3 8 (la - (10 * k + 1) + 1) 0 _ (by omega) (ms_ap (ms_ap (ms_ap (ms_ap (ms_ap (ms_ap (ms_ap (ms_ap hs _) _) _) _) _) _) _) _) (hr.le (by omega)) ?_
  intro hr
  refine g_aload_n (n := 178) hX dX0_writeMember_177 rfl rfl rfl ?_
  refine g_bipush (n := 180) (v := 17) hX dX0_writeMember_178 rfl rfl ?_
  refine g_aload_n (n := 181) hX dX0_writeMember_180 rfl rfl rfl ?_
  refine g_fget (n := 184) 4 (v := .int (nI la)) hX hU hF dX0_writeMember_181 rfl rfl uf_X0_61 (fI_e (ms_ap (ms_ap (ms_ap (ms_ap (ms_ap (ms_ap (ms_ap (ms_ap (ms_ap hs _) _) _) _) _) _) _) _) _).2.1) ?_
  refine g_iconst (n := 185) (v := 1) hX dX0_writeMember_184 rfl rfl ?_
  refine g_iadd (n := 186) (v := nI (la + 1)) hX dX0_writeMember_185 rfl (nI_add la 1) ?_
  refine g_pcallV (n := 189) (As := [.int 17, .int (nI (la + 1))]) (rest := []) hX hE hU hY dX0_writeMember_186 rfl yv_X0_withIndex um_X0_134 (f_withIndex _ _ K L f F B T (aB (aB (aB (aB (aB (aB (aB (aB (aB (sT s t) (bMethod (nI (28 + k)) 25 5 1 (nI (bEnd pr (10 * k + 1) la + 4)))) ([26])) ([170])) (b2 0)) (b4 (nI (bEnd pr (10 * k + 1) la - 1)))) (b4 (nI (10 * k + 1)))) (b4 (nI la))) (catR (fun r => b4 (nI (bg pr (10 * k + 1) la r - 1))) (10 * k + 1 + 0) (la - (10 * k + 1) + 1))) (catR (bRow pr (10 * k + 1) la) (10 * k + 1 + 0) (la - (10 * k + 1) + 1))) 17 (nI (la + 1)) hF (hr.le (by decide))) ⟨rfl, rfl⟩ (rm_le hRm rfl rfl) rfl hF.1 fw_F rfl rfl rfl (Nat.le_of_ble_eq_true rfl) ⟨Nat.zero_le _, Nat.zero_le _⟩ (fun v0 w0 hq0 => ?_)
  obtain ⟨rfl, rfl⟩ := hq0
  show G Γ (va_pl L (fw K f F B T (aB (aB (aB (aB (aB (aB (aB (aB (aB (aB (sT s t) (bMethod (nI (28 + k)) 25 5 1 (nI (bEnd pr (10 * k + 1) la + 4)))) ([26])) ([170])) (b2 0)) (b4 (nI (bEnd pr (10 * k + 1) la - 1)))) (b4 (nI (10 * k + 1)))) (b4 (nI la))) (catR (fun r => b4 (nI (bg pr (10 * k + 1) la r - 1))) (10 * k + 1 + 0) (la - (10 * k + 1) + 1))) (catR (bRow pr (10 * k + 1) la) (10 * k + 1 + 0) (la - (10 * k + 1) + 1))) (bIx 17 (nI (la + 1)))))) 0 0 189 [(5, .int (nI (la - (10 * k + 1) + 1))), (4, .int (nI (bEnd pr (10 * k + 1) la))), (3, .int (nI (la - (10 * k + 1) + 1))), (0, .ref F), (1, .ref P), (2, .int (nI k))] []
  have hr : LB (aB (aB (aB (aB (aB (aB (aB (aB (aB (aB (sT s t) (bMethod (nI (28 + k)) 25 5 1 (nI (bEnd pr (10 * k + 1) la + 4)))) ([26])) ([170])) (b2 0)) (b4 (nI (bEnd pr (10 * k + 1) la - 1)))) (b4 (nI (10 * k + 1)))) (b4 (nI la))) (catR (fun r => b4 (nI (bg pr (10 * k + 1) la r - 1))) (10 * k + 1 + 0) (la - (10 * k + 1) + 1))) (catR (bRow pr (10 * k + 1) la) (10 * k + 1 + 0) (la - (10 * k + 1) + 1))) (bIx 17 (nI (la + 1)))) 5 := hr.app (Nat.le_of_ble_eq_true rfl)
  refine g_aload_n (n := 190) hX dX0_writeMember_189 rfl rfl rfl ?_
  refine g_sipush (n := 193) (v := 172) hX dX0_writeMember_190 rfl rfl ?_
  refine g_pcallV (n := 196) (As := [.int 172]) (rest := []) hX hE hU hY dX0_writeMember_193 rfl yv_X0_u1 um_X0_126 (f_u1 _ _ K L f F B T (aB (aB (aB (aB (aB (aB (aB (aB (aB (aB (sT s t) (bMethod (nI (28 + k)) 25 5 1 (nI (bEnd pr (10 * k + 1) la + 4)))) ([26])) ([170])) (b2 0)) (b4 (nI (bEnd pr (10 * k + 1) la - 1)))) (b4 (nI (10 * k + 1)))) (b4 (nI la))) (catR (fun r => b4 (nI (bg pr (10 * k + 1) la r - 1))) (10 * k + 1 + 0) (la - (10 * k + 1) + 1))) (catR (bRow pr (10 * k + 1) la) (10 * k + 1 + 0) (la - (10 * k + 1) + 1))) (bIx 17 (nI (la + 1)))) 172 hF (hr.le (by decide))) ⟨rfl, rfl⟩ (rm_le hRm rfl rfl) rfl hF.1 fw_F rfl rfl rfl (Nat.le_of_ble_eq_true rfl) ⟨Nat.zero_le _, Nat.zero_le _⟩ (fun v0 w0 hq0 => ?_)
  obtain ⟨rfl, rfl⟩ := hq0
  show G Γ (va_pl L (fw K f F B T (aB (aB (aB (aB (aB (aB (aB (aB (aB (aB (aB (sT s t) (bMethod (nI (28 + k)) 25 5 1 (nI (bEnd pr (10 * k + 1) la + 4)))) ([26])) ([170])) (b2 0)) (b4 (nI (bEnd pr (10 * k + 1) la - 1)))) (b4 (nI (10 * k + 1)))) (b4 (nI la))) (catR (fun r => b4 (nI (bg pr (10 * k + 1) la r - 1))) (10 * k + 1 + 0) (la - (10 * k + 1) + 1))) (catR (bRow pr (10 * k + 1) la) (10 * k + 1 + 0) (la - (10 * k + 1) + 1))) (bIx 17 (nI (la + 1)))) ([172])))) 0 0 196 [(5, .int (nI (la - (10 * k + 1) + 1))), (4, .int (nI (bEnd pr (10 * k + 1) la))), (3, .int (nI (la - (10 * k + 1) + 1))), (0, .ref F), (1, .ref P), (2, .int (nI k))] []
  have hr : LB (aB (aB (aB (aB (aB (aB (aB (aB (aB (aB (aB (sT s t) (bMethod (nI (28 + k)) 25 5 1 (nI (bEnd pr (10 * k + 1) la + 4)))) ([26])) ([170])) (b2 0)) (b4 (nI (bEnd pr (10 * k + 1) la - 1)))) (b4 (nI (10 * k + 1)))) (b4 (nI la))) (catR (fun r => b4 (nI (bg pr (10 * k + 1) la r - 1))) (10 * k + 1 + 0) (la - (10 * k + 1) + 1))) (catR (bRow pr (10 * k + 1) la) (10 * k + 1 + 0) (la - (10 * k + 1) + 1))) (bIx 17 (nI (la + 1)))) ([172])) 4 := hr.app (Nat.le_of_ble_eq_true rfl)
  refine g_aload_n (n := 197) hX dX0_writeMember_196 rfl rfl rfl ?_
  refine g_pcallV (n := 200) (As := []) (rest := []) hX hE hU hY dX0_writeMember_197 rfl yv_X0_methodEnd um_X0_137 (f_methodEnd _ _ K L f F B T (aB (aB (aB (aB (aB (aB (aB (aB (aB (aB (aB (sT s t) (bMethod (nI (28 + k)) 25 5 1 (nI (bEnd pr (10 * k + 1) la + 4)))) ([26])) ([170])) (b2 0)) (b4 (nI (bEnd pr (10 * k + 1) la - 1)))) (b4 (nI (10 * k + 1)))) (b4 (nI la))) (catR (fun r => b4 (nI (bg pr (10 * k + 1) la r - 1))) (10 * k + 1 + 0) (la - (10 * k + 1) + 1))) (catR (bRow pr (10 * k + 1) la) (10 * k + 1 + 0) (la - (10 * k + 1) + 1))) (bIx 17 (nI (la + 1)))) ([172]))  hF (hr.le (by decide))) ⟨rfl, rfl⟩ (rm_le hRm rfl rfl) rfl hF.1 fw_F rfl rfl rfl (Nat.le_of_ble_eq_true rfl) ⟨Nat.zero_le _, Nat.zero_le _⟩ (fun v0 w0 hq0 => ?_)
  obtain ⟨rfl, rfl⟩ := hq0
  show G Γ (va_pl L (fw K f F B T (aB (aB (aB (aB (aB (aB (aB (aB (aB (aB (aB (aB (sT s t) (bMethod (nI (28 + k)) 25 5 1 (nI (bEnd pr (10 * k + 1) la + 4)))) ([26])) ([170])) (b2 0)) (b4 (nI (bEnd pr (10 * k + 1) la - 1)))) (b4 (nI (10 * k + 1)))) (b4 (nI la))) (catR (fun r => b4 (nI (bg pr (10 * k + 1) la r - 1))) (10 * k + 1 + 0) (la - (10 * k + 1) + 1))) (catR (bRow pr (10 * k + 1) la) (10 * k + 1 + 0) (la - (10 * k + 1) + 1))) (bIx 17 (nI (la + 1)))) ([172])) (b2 0 ++ b2 0)))) 0 0 200 [(5, .int (nI (la - (10 * k + 1) + 1))), (4, .int (nI (bEnd pr (10 * k + 1) la))), (3, .int (nI (la - (10 * k + 1) + 1))), (0, .ref F), (1, .ref P), (2, .int (nI k))] []
  have hr : LB (aB (aB (aB (aB (aB (aB (aB (aB (aB (aB (aB (aB (sT s t) (bMethod (nI (28 + k)) 25 5 1 (nI (bEnd pr (10 * k + 1) la + 4)))) ([26])) ([170])) (b2 0)) (b4 (nI (bEnd pr (10 * k + 1) la - 1)))) (b4 (nI (10 * k + 1)))) (b4 (nI la))) (catR (fun r => b4 (nI (bg pr (10 * k + 1) la r - 1))) (10 * k + 1 + 0) (la - (10 * k + 1) + 1))) (catR (bRow pr (10 * k + 1) la) (10 * k + 1 + 0) (la - (10 * k + 1) + 1))) (bIx 17 (nI (la + 1)))) ([172])) (b2 0 ++ b2 0)) 0 := hr.app (Nat.le_of_ble_eq_true rfl)
  exact g_vret hX hR dX0_writeMember_200 ⟨rfl, t, by rw [bMember, show la - 10 * k = la - (10 * k + 1) + 1 by omega]; simp only [bIx, Nat.add_zero, ← aB_aB, b4_00n]⟩

