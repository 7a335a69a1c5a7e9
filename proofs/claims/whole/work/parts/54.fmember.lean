def sT (s : FS) (t : Nat → Int32) : FS := (s.1, s.2.1, s.2.2.1, s.2.2.2.1, t)
theorem bg_succ (pr : PR) (fr la i : Nat) : bg pr fr la (fr + i) + lnR pr fr la (fr + i) = bg pr fr la (fr + (i + 1)) := by
  unfold bg
  rw [show fr + i - fr = i by omega, show fr + (i + 1) - fr = i + 1 by omega, sumR]
  omega
theorem bg_zero (pr : PR) (fr la : Nat) : bg pr fr la (fr + 0) = 16 + 4 * (la - fr + 1) := by
  unfold bg
  rw [show fr + 0 - fr = 0 by omega, sumR]
  rfl
theorem bg_end (pr : PR) (fr la : Nat) (h : fr ≤ la) : bg pr fr la (fr + (la - fr + 1)) = bEnd pr fr la := by
  unfold bEnd
  rw [show fr + (la - fr + 1) = la + 1 by omega]
set_option maxHeartbeats 4000000 in
set_option maxRecDepth 100000 in
theorem lp_layout {Γ : gT} {K : Nat → ClassId} {L : List Nat} {f : Nat → va_E} {F B T : Nat} (hX : gOk Γ cX0_layOutRows (wM yX0_layOutRows cX0_layOutRows 6 (some .int)) RX0) (hE : gEv Γ) (hRm : gRm Γ = rmL 3 0 0) (hnL : gnL Γ = 6) (hY : gY Γ = yY K) (hF : fOk L F B T) (P ra cnt p : Nat) (z sf : Int32) (g : Nat → Option Nat) (RO : Nat → Nat) (pr : PR) (n : Nat) (hQ : prOk K L f F B T P ra cnt p z sf g RO pr n) (s : FS) (fr la : Nat) (hl1 : fr ≤ la) (hl2 : la ≤ fr + 9) (hl3 : la ≤ n) (hf1 : 1 ≤ fr) (h1 : s.2.2.1 = nI fr) (h2 : s.2.2.2.1 = nI la) : ∀ (j i : Nat) (t : Nat → Int32), i + j = la - fr + 1 → (∀ x, x < i → t x = nI (bg pr fr la (fr + x))) → (∀ t : Nat → Int32, (∀ x, fr + x ≤ la → t x = nI (bg pr fr la (fr + x))) → G Γ (va_pl L (fw K f F B T (sT s t))) 0 0 70 [(4, .int (nI (la - fr + 1))), (3, .int (nI (bg pr fr la (fr + (la - fr + 1))))), (0, .ref F), (1, .ref P), (2, .int (nI (16 + 4 * (la - fr + 1))))] []) → G Γ (va_pl L (fw K f F B T (sT s t))) 0 0 5 [(4, .int (nI i)), (3, .int (nI (bg pr fr la (fr + i)))), (0, .ref F), (1, .ref P), (2, .int (nI (16 + 4 * (la - fr + 1))))] [] := by
  have hU : ∀ w ∈ wU, w ∈ wM yX0_layOutRows cX0_layOutRows 6 (some .int) := fun w h => wM_in h
  obtain ⟨hPm, hPe, hPn, hAm, hAe, hAn, hc60, hnc, hg, hro⟩ := hQ
  intro j
  induction j with
  | zero =>
    intro i t hi ht hk0
    have hii : i = la - fr + 1 := by omega
    subst hii
    refine g_iload (n := 7) hX dX0_layOutRows_5 rfl rfl ?_
    refine g_aload_n (n := 8) hX dX0_layOutRows_7 rfl rfl rfl ?_
    refine g_fget (n := 11) 4 (v := .int (nI la)) hX hU hF dX0_layOutRows_8 rfl rfl uf_X0_61 (fI_e h2) ?_
    refine g_aload_n (n := 12) hX dX0_layOutRows_11 rfl rfl rfl ?_
    refine g_fget (n := 15) 3 (v := .int (nI fr)) hX hU hF dX0_layOutRows_12 rfl rfl uf_X0_52 (fI_e h1) ?_
    refine g_isub (n := 16) (v := nI (la - fr)) hX dX0_layOutRows_15 rfl (pk_sub hl1) ?_
    refine g_icmp_gt (n := 19) (tgt := 70) hX dX0_layOutRows_16 rfl (by decide) (fun c16 => ?_) (fun c16 => absurd (nI_lt (a := la - fr) (b := la - fr + 1) (by omega) (by omega)) c16)
    exact hk0 t (fun x hx => ht x (by omega))
  | succ j ih =>
    intro i t hi ht hk0
    refine g_iload (n := 7) hX dX0_layOutRows_5 rfl rfl ?_
    refine g_aload_n (n := 8) hX dX0_layOutRows_7 rfl rfl rfl ?_
    refine g_fget (n := 11) 4 (v := .int (nI la)) hX hU hF dX0_layOutRows_8 rfl rfl uf_X0_61 (fI_e h2) ?_
    refine g_aload_n (n := 12) hX dX0_layOutRows_11 rfl rfl rfl ?_
    refine g_fget (n := 15) 3 (v := .int (nI fr)) hX hU hF dX0_layOutRows_12 rfl rfl uf_X0_52 (fI_e h1) ?_
    refine g_isub (n := 16) (v := nI (la - fr)) hX dX0_layOutRows_15 rfl (pk_sub hl1) ?_
    refine g_icmp_gt (n := 19) (tgt := 70) hX dX0_layOutRows_16 rfl (by decide) (fun c16 => absurd c16 (nI_nlt (a := la - fr) (b := i) (by omega) (by omega))) (fun c16 => ?_)
    refine g_iload (n := 21) hX dX0_layOutRows_19 rfl rfl ?_
    refine g_aload_n (n := 22) hX dX0_layOutRows_21 rfl rfl rfl ?_
    refine g_fget (n := 25) 1 (v := .ref T) hX hU hF dX0_layOutRows_22 rfl rfl uf_X0_15 rfl ?_
    refine g_flenT (n := 26) hX hY hF dX0_layOutRows_25 rfl ?_
    refine g_icmp_ge (n := 29) (tgt := 70) hX dX0_layOutRows_26 rfl (by decide) (fun c26 => absurd c26 (nI_ge (a := i) (b := 11) (by omega) (by decide))) (fun c26 => ?_)
    refine g_aload_n (n := 30) hX dX0_layOutRows_29 rfl rfl rfl ?_
    refine g_fget (n := 33) 1 (v := .ref T) hX hU hF dX0_layOutRows_30 rfl rfl uf_X0_15 rfl ?_
    refine g_iload (n := 35) hX dX0_layOutRows_33 rfl rfl ?_
    refine g_iload_n (n := 36) hX dX0_layOutRows_35 rfl rfl rfl ?_
    refine g_fist (n := 37) (i0 := i) hX hY hF dX0_layOutRows_36 rfl (vp_in_nI (by omega) (by decide)) (nI_clamp (by omega)) ?_
    refine g_aload_n (n := 38) hX dX0_layOutRows_37 rfl rfl rfl ?_
    refine g_aload_n (n := 39) hX dX0_layOutRows_38 rfl rfl rfl ?_
    refine g_fget (n := 42) 3 (v := .int (nI fr)) hX hU hF dX0_layOutRows_39 rfl rfl uf_X0_52 (fI_e h1) ?_
    refine g_iload (n := 44) hX dX0_layOutRows_42 rfl rfl ?_
    refine g_iadd (n := 45) (v := nI (fr + i)) hX dX0_layOutRows_44 rfl (nI_add fr i) ?_
    refine g_pcallV (n := 48) (As := [.int (nI (fr + i))]) (rest := []) hX hE hU hY dX0_layOutRows_45 rfl yv_X3_findRow um_X0_144 (x_findRow3 _ _ K L (fw K f F B T (sT s (upd t i (nI (bg pr fr la (fr + i)))))) (nI (fr + i)) P ra cnt g (nI p) z sf hPm ((fw_o hPn).trans hPe) hAm ((fw_o hAn).trans hAe) hc60) ⟨rfl, rfl⟩ (rm_le hRm rfl rfl) rfl hPm ((fw_o hPn).trans hPe) rfl rfl rfl (Nat.le_of_ble_eq_true rfl) ⟨Nat.zero_le _, Nat.zero_le _⟩ (fun v0 w0 hq0 => ?_)
    obtain ⟨rfl, rfl⟩ := hq0; rw [row_at hg (r := fr + i) (by omega) (by omega) hnc hc60]
    show G Γ (va_pl L (fw K f F B T (sT s (upd t i (nI (bg pr fr la (fr + i))))))) 0 0 48 [(4, .int (nI i)), (3, .int (nI (bg pr fr la (fr + i)))), (0, .ref F), (1, .ref P), (2, .int (nI (16 + 4 * (la - fr + 1))))] [.ref (RO (fr + i))]
    refine g_astore (lv' := [(5, .ref (RO (fr + i))), (4, .int (nI i)), (3, .int (nI (bg pr fr la (fr + i)))), (0, .ref F), (1, .ref P), (2, .int (nI (16 + 4 * (la - fr + 1))))]) (n := 50) hX dX0_layOutRows_48 rfl (by rw [hnL]; rfl) rfl ?_
    refine g_aload (n := 52) hX dX0_layOutRows_50 rfl rfl ?_
    refine g_ifnull (n := 55) hX dX0_layOutRows_52 rfl ?_
    refine g_iload_n (n := 56) hX dX0_layOutRows_55 rfl rfl rfl ?_
    refine g_aload_n (n := 57) hX dX0_layOutRows_56 rfl rfl rfl ?_
    refine g_aload (n := 59) hX dX0_layOutRows_57 rfl rfl ?_
    refine g_pcallV (n := 62) (As := [.ref (RO (fr + i))]) (rest := [.int (nI (bg pr fr la (fr + i)))]) hX hE hU hY dX0_layOutRows_59 rfl yv_X0_lengthOf um_X0_152 (f_lengthOf _ _ K L f F B T (sT s (upd t i (nI (bg pr fr la (fr + i))))) (RO (fr + i)) (pr (fr + i)).1 (pr (fr + i)).2.1 (pr (fr + i)).2.2 (hro (fr + i) (by omega) (by omega)).1 (hro (fr + i) (by omega) (by omega)).2.1 (hro (fr + i) (by omega) (by omega)).2.2.1 (hro (fr + i) (by omega) (by omega)).2.2.2 hF) ⟨rfl, rfl⟩ (rm_le hRm rfl rfl) rfl hF.1 fw_F rfl rfl rfl (Nat.le_of_ble_eq_true rfl) ⟨Nat.zero_le _, Nat.zero_le _⟩ (fun v0 w0 hq0 => ?_)
    obtain ⟨rfl, rfl⟩ := hq0; rw [show (sT s (upd t i (nI (bg pr fr la (fr + i)))) : FS).2.2.1 = nI fr from h1, show (sT s (upd t i (nI (bg pr fr la (fr + i)))) : FS).2.2.2.1 = nI la from h2]
    show G Γ (va_pl L (fw K f F B T (sT s (upd t i (nI (bg pr fr la (fr + i))))))) 0 0 62 [(5, .ref (RO (fr + i))), (4, .int (nI i)), (3, .int (nI (bg pr fr la (fr + i)))), (0, .ref F), (1, .ref P), (2, .int (nI (16 + 4 * (la - fr + 1))))] [.int (nI (lnR pr fr la (fr + i))), .int (nI (bg pr fr la (fr + i)))]
    refine g_iadd (n := 63) (v := nI (bg pr fr la (fr + (i + 1)))) hX dX0_layOutRows_62 rfl (by rw [nI_add, bg_succ]) ?_
    refine g_istore_n (lv' := [(3, .int (nI (bg pr fr la (fr + (i + 1))))), (5, .ref (RO (fr + i))), (4, .int (nI i)), (0, .ref F), (1, .ref P), (2, .int (nI (16 + 4 * (la - fr + 1))))]) (n := 64) hX dX0_layOutRows_63 rfl rfl (by rw [hnL]; rfl) rfl ?_
    refine g_iinc (n := 67) (v := nI (i + 1)) (lv' := [(4, .int (nI (i + 1))), (3, .int (nI (bg pr fr la (fr + (i + 1))))), (5, .ref (RO (fr + i))), (0, .ref F), (1, .ref P), (2, .int (nI (16 + 4 * (la - fr + 1))))]) hX dX0_layOutRows_64 rfl rfl (nI_add i 1) (by rw [hnL]; rfl) rfl ?_
    refine g_goto (n := 5) hX dX0_layOutRows_67 (by decide) ?_
    refine g_pick (lv' := [(4, .int (nI (i + 1))), (3, .int (nI (bg pr fr la (fr + (i + 1))))), (0, .ref F), (1, .ref P), (2, .int (nI (16 + 4 * (la - fr + 1))))]) [0, 1, 3, 4, 5] rfl ?_
    refine ih (i + 1) (upd t i (nI (bg pr fr la (fr + i)))) (by omega) (fun x hx => ?_) hk0
    by_cases hxi : x = i
    · rw [hxi]; exact pk_us
    · rw [pk_un hxi]; exact ht x (by omega)
set_option maxHeartbeats 4000000 in
set_option maxRecDepth 100000 in
theorem f_layOutRows (l : Launch) (D : va_G) (K : Nat → ClassId) (L : List Nat) (f : Nat → va_E) (F B T : Nat) (s : FS) (P ra cnt p : Nat) (z sf : Int32) (g : Nat → Option Nat) (RO : Nat → Nat) (pr : PR) (n : Nat) (hQ : prOk K L f F B T P ra cnt p z sf g RO pr n) (fr la : Nat) (hl1 : fr ≤ la) (hl2 : la ≤ fr + 9) (hl3 : la ≤ n) (hf1 : 1 ≤ fr) (h1 : s.2.2.1 = nI fr) (h2 : s.2.2.2.1 = nI la) (hF : fOk L F B T) : Mc l yX0_layOutRows (wM yX0_layOutRows cX0_layOutRows 6 (some .int)) (rmL 3 0 0) D (yY K) [.ref F, .ref P, .int (nI (16 + 4 * (la - fr + 1)))] (va_pl L (fw K f F B T s)) (fun v w => v = some (.int (nI (bEnd pr fr la))) ∧ ∃ t : Nat → Int32, w = va_pl L (fw K f F B T (sT s t)) ∧ ms (sT s t) fr la pr) 0 0 := by
  refine m_start (lv := [(0, .ref F), (1, .ref P), (2, .int (nI (16 + 4 * (la - fr + 1))))]) rfl (Nat.le_of_ble_eq_true rfl) rfl (fun Γ hX hRm hnL hY hDD hLa hR hI hE => ?_)
  have hU : ∀ w ∈ wU, w ∈ wM yX0_layOutRows cX0_layOutRows 6 (some .int) := fun w h => wM_in h
  subst hLa
  subst hDD
  refine g_iload_n (n := 1) hX dX0_layOutRows_0 rfl rfl rfl ?_
  refine g_istore_n (lv' := [(3, .int (nI (16 + 4 * (la - fr + 1)))), (0, .ref F), (1, .ref P), (2, .int (nI (16 + 4 * (la - fr + 1))))]) (n := 2) hX dX0_layOutRows_1 rfl rfl (by rw [hnL]; rfl) rfl ?_
  refine g_iconst (n := 3) (v := 0) hX dX0_layOutRows_2 rfl rfl ?_
  refine g_istore (lv' := [(4, .int 0), (3, .int (nI (16 + 4 * (la - fr + 1)))), (0, .ref F), (1, .ref P), (2, .int (nI (16 + 4 * (la - fr + 1))))]) (n := 5) hX dX0_layOutRows_3 rfl (by rw [hnL]; rfl) rfl ?_
  refine g_pick (lv' := [(4, .int 0), (3, .int (nI (16 + 4 * (la - fr + 1)))), (0, .ref F), (1, .ref P), (2, .int (nI (16 + 4 * (la - fr + 1))))]) [0, 1, 2, 3, 4] rfl ?_
  refine Eq.mp (congrArg (fun zz => G Γ (va_pl L (fw K f F B T s)) 0 0 5 [(4, .int 0), (3, .int (nI zz)), (0, .ref F), (1, .ref P), (2, .int (nI (16 + 4 * (la - fr + 1))))] []) (bg_zero pr fr la)) ?_
  refine lp_layout hX hE hRm hnL hY hF P ra cnt p z sf g RO pr n hQ s fr la hl1 hl2 hl3 hf1 h1 h2 (la - fr + 1) 0 s.2.2.2.2 (by omega) (fun x hx => absurd hx (Nat.not_lt_zero x)) (fun t ht => ?_)
  refine g_iload_n (n := 71) hX dX0_layOutRows_70 rfl rfl rfl ?_
  exact g_iret hX hR dX0_layOutRows_71 ⟨by rw [bg_end pr fr la hl1], t, rfl, h1, h2, ht⟩

theorem bRow_0 {pr : PR} {f l r : Nat} (h : (pr r).1 = 0) : bRow pr f l r = bWords ++ bPush (pr r).2.1 ++ bPush (pr r).2.2 ++ [84] := by
  unfold bRow
  rw [h, if_pos rfl]

theorem bRow_1 {pr : PR} {f l r : Nat} (h : (pr r).1 = 1) : bRow pr f l r = bWords ++ bPush (pr r).2.1 ++ bLoad (pr r).2.2 ++ [84] := by
  unfold bRow
  rw [h, if_neg (by decide), if_pos rfl]

theorem bRow_2 {pr : PR} {f l r : Nat} (h : (pr r).1 = 2) : bRow pr f l r = bWords ++ bPush (pr r).2.1 ++ bLoad (pr r).2.1 ++ bLoad (pr r).2.2 ++ [ariO 2] ++ [145] ++ [84] := by
  unfold bRow
  rw [h, if_neg (by decide), if_neg (by decide), if_neg (by decide), if_neg (by decide), if_neg (by decide), if_neg (by decide), if_neg (by decide), if_neg (by decide), if_neg (by decide)]
  rfl
theorem bRow_3 {pr : PR} {f l r : Nat} (h : (pr r).1 = 3) : bRow pr f l r = bWords ++ bPush (pr r).2.1 ++ bLoad (pr r).2.1 ++ bLoad (pr r).2.2 ++ [ariO 3] ++ [145] ++ [84] := by
  unfold bRow
  rw [h, if_neg (by decide), if_neg (by decide), if_neg (by decide), if_neg (by decide), if_neg (by decide), if_neg (by decide), if_neg (by decide), if_neg (by decide), if_neg (by decide)]
  rfl
theorem bRow_4 {pr : PR} {f l r : Nat} (h : (pr r).1 = 4) : bRow pr f l r = bWords ++ bPush (pr r).2.1 ++ bLoad (pr r).2.1 ++ bLoad (pr r).2.2 ++ [ariO 4] ++ [145] ++ [84] := by
  unfold bRow
  rw [h, if_neg (by decide), if_neg (by decide), if_neg (by decide), if_neg (by decide), if_neg (by decide), if_neg (by decide), if_neg (by decide), if_neg (by decide), if_neg (by decide)]
  rfl
theorem bRow_5 {pr : PR} {f l r : Nat} (h : (pr r).1 = 5) : bRow pr f l r = bWords ++ bPush (pr r).2.1 ++ bLoad (pr r).2.1 ++ bLoad (pr r).2.2 ++ [ariO 5] ++ [145] ++ [84] := by
  unfold bRow
  rw [h, if_neg (by decide), if_neg (by decide), if_neg (by decide), if_neg (by decide), if_neg (by decide), if_neg (by decide), if_neg (by decide), if_neg (by decide), if_neg (by decide)]
  rfl
theorem bRow_6 {pr : PR} {f l r : Nat} (h : (pr r).1 = 6) : bRow pr f l r = bWords ++ bPush (pr r).2.1 ++ bLoad (pr r).2.1 ++ bLoad (pr r).2.2 ++ [ariO 6] ++ [145] ++ [84] := by
  unfold bRow
  rw [h, if_neg (by decide), if_neg (by decide), if_neg (by decide), if_neg (by decide), if_neg (by decide), if_neg (by decide), if_neg (by decide), if_neg (by decide), if_neg (by decide)]
  rfl
theorem bRow_7 {pr : PR} {f l r : Nat} (h : (pr r).1 = 7) : bRow pr f l r = bWords ++ bLoad (pr r).2.1 ++ bLoad (pr r).2.2 ++ [84] := by
  unfold bRow
  rw [h, if_neg (by decide), if_neg (by decide), if_pos rfl]

theorem bRow_8 {pr : PR} {f l r : Nat} (h : (pr r).1 = 8) : bRow pr f l r = bLoad (pr r).2.1 ++ [154] ++ b2 (nI (3 + goN (pr r).2.2 (nI f) (nI l))) ++ bGo pr f l (pr r).2.2 (bg pr f l r + 9) := by
  unfold bRow
  rw [h, if_neg (by decide), if_neg (by decide), if_neg (by decide), if_pos rfl]

theorem bRow_9 {pr : PR} {f l r : Nat} (h : (pr r).1 = 9) : bRow pr f l r = bGo pr f l (pr r).2.2 (bg pr f l r) := by
  unfold bRow
  rw [h, if_neg (by decide), if_neg (by decide), if_neg (by decide), if_neg (by decide), if_pos rfl]

theorem bRow_10 {pr : PR} {f l r : Nat} (h : (pr r).1 = 10) : bRow pr f l r = bPush (pr r).2.1 ++ [184] ++ b2 14 := by
  unfold bRow
  rw [h, if_neg (by decide), if_neg (by decide), if_neg (by decide), if_neg (by decide), if_neg (by decide), if_pos rfl]

theorem bRow_11 {pr : PR} {f l r : Nat} (h : (pr r).1 = 11) : bRow pr f l r = bPush (pr r).2.1 ++ [184] ++ b2 17 := by
  unfold bRow
  rw [h, if_neg (by decide), if_neg (by decide), if_neg (by decide), if_neg (by decide), if_neg (by decide), if_neg (by decide), if_pos rfl]

theorem bRow_12 {pr : PR} {f l r : Nat} (h : (pr r).1 = 12) : bRow pr f l r = bPush (pr r).2.1 ++ [184] ++ b2 20 := by
  unfold bRow
  rw [h, if_neg (by decide), if_neg (by decide), if_neg (by decide), if_neg (by decide), if_neg (by decide), if_neg (by decide), if_neg (by decide), if_pos rfl]

theorem bRow_13 {pr : PR} {f l r : Nat} (h : (pr r).1 = 13) : bRow pr f l r = bLoad (pr r).2.1 ++ bPush (pr r).2.2 ++ [164] ++ b2 8 ++ bPush (pr r).2.1 ++ [184] ++ b2 23 := by
  unfold bRow
  rw [h, if_neg (by decide), if_neg (by decide), if_neg (by decide), if_neg (by decide), if_neg (by decide), if_neg (by decide), if_neg (by decide), if_neg (by decide), if_pos rfl]

set_option maxHeartbeats 4000000 in
set_option maxRecDepth 100000 in
theorem f_writeRow (l : Launch) (D : va_G) (K : Nat → ClassId) (L : List Nat) (f : Nat → va_E) (F B T : Nat) (s : FS) (P ra cnt p : Nat) (z sf : Int32) (g : Nat → Option Nat) (RO : Nat → Nat) (pr : PR) (n : Nat) (hQ : prOk K L f F B T P ra cnt p z sf g RO pr n) (fr la r : Nat) (hl1 : fr ≤ la) (hl2 : la ≤ fr + 9) (hl3 : la ≤ n) (hf1 : 1 ≤ fr) (hr1 : 1 ≤ r) (hr2 : r ≤ n) (hF : fOk L F B T) (hr : LB s 20) (hs : ms s fr la pr) : Mc l yX0_writeRow (wM yX0_writeRow cX0_writeRow 3 none) (rmL 3 0 0) D (yY K) [.ref F, .ref (RO r), .int (nI (bg pr fr la r))] (va_pl L (fw K f F B T s)) (fun v w => v = none ∧ w = va_pl L (fw K f F B T (aB s (bRow pr fr la r)))) 0 0 := by
  obtain ⟨hPm, hPe, hPn, hAm, hAe, hAn, hc60, hnc, hg, hro⟩ := hQ
  refine m_start (lv := [(0, .ref F), (1, .ref (RO r)), (2, .int (nI (bg pr fr la r)))]) rfl (Nat.le_of_ble_eq_true rfl) rfl (fun Γ hX hRm hnL hY hDD hLa hR hI hE => ?_)
  have hU : ∀ w ∈ wU, w ∈ wM yX0_writeRow cX0_writeRow 3 none := fun w h => wM_in h
  subst hLa
  subst hDD
  have ho := (hro r hr1 hr2).2.2.2
  refine g_aload_n (n := 1) hX dX0_writeRow_0 rfl rfl rfl ?_
  refine g_pget (n := 4) ux_X4 rfl hX hU dX0_writeRow_1 rfl (hro (r) (by omega) (by omega)).1 ((fw_o (hro (r) (by omega) (by omega)).2.2.1).trans (hro (r) (by omega) (by omega)).2.1) 0 rfl uf_X0_156 rfl ?_
  rcases sw_split ((pr (r)).1) (0) (13) with hsw | hsw
  · refine g_tableOut (n := 291) hX dX0_writeRow_4 hsw (by decide) ?_
    refine g_aload_n (n := 292) hX dX0_writeRow_291 rfl rfl rfl ?_
    refine g_aload_n (n := 293) hX dX0_writeRow_292 rfl rfl rfl ?_
    refine g_pget (n := 296) ux_X4 rfl hX hU dX0_writeRow_293 rfl (hro (r) (by omega) (by omega)).1 ((fw_o (hro (r) (by omega) (by omega)).2.2.1).trans (hro (r) (by omega) (by omega)).2.1) 1 rfl uf_X0_174 rfl ?_
    refine g_pcallV (n := 299) (As := [.int ((pr (r)).2.1)]) (rest := []) hX hE hU hY dX0_writeRow_296 rfl yv_X0_address um_X0_177 (f_address _ _ K L f F B T s ((pr (r)).2.1) hF (hr.le (by decide))) ⟨rfl, rfl⟩ (rm_le hRm rfl rfl) rfl hF.1 fw_F rfl rfl rfl (Nat.le_of_ble_eq_true rfl) ⟨Nat.zero_le _, Nat.zero_le _⟩ (fun v0 w0 hq0 => ?_)
    obtain ⟨rfl, rfl⟩ := hq0
    show G Γ (va_pl L (fw K f F B T (aB s (bAddr ((pr (r)).2.1))))) 0 0 299 [(0, .ref F), (1, .ref (RO r)), (2, .int (nI (bg pr fr la r)))] []
    have hr : LB (aB s (bAddr ((pr (r)).2.1))) 15 := hr.app (Nat.le_of_ble_eq_true rfl)
    refine g_aload_n (n := 300) hX dX0_writeRow_299 rfl rfl rfl ?_
    refine g_aload_n (n := 301) hX dX0_writeRow_300 rfl rfl rfl ?_
    refine g_pget (n := 304) ux_X4 rfl hX hU dX0_writeRow_301 rfl (hro (r) (by omega) (by omega)).1 ((fw_o (hro (r) (by omega) (by omega)).2.2.1).trans (hro (r) (by omega) (by omega)).2.1) 1 rfl uf_X0_174 rfl ?_
    refine g_pcallV (n := 307) (As := [.int ((pr (r)).2.1)]) (rest := []) hX hE hU hY dX0_writeRow_304 rfl yv_X0_load um_X0_180 (f_load _ _ K L f F B T (aB s (bAddr ((pr (r)).2.1))) ((pr (r)).2.1) hF (hr.le (by decide))) ⟨rfl, rfl⟩ (rm_le hRm rfl rfl) rfl hF.1 fw_F rfl rfl rfl (Nat.le_of_ble_eq_true rfl) ⟨Nat.zero_le _, Nat.zero_le _⟩ (fun v0 w0 hq0 => ?_)
    obtain ⟨rfl, rfl⟩ := hq0
    show G Γ (va_pl L (fw K f F B T (aB (aB s (bAddr ((pr (r)).2.1))) (bLoad ((pr (r)).2.1))))) 0 0 307 [(0, .ref F), (1, .ref (RO r)), (2, .int (nI (bg pr fr la r)))] []
    have hr : LB (aB (aB s (bAddr ((pr (r)).2.1))) (bLoad ((pr (r)).2.1))) 9 := hr.app (Nat.le_of_ble_eq_true rfl)
    refine g_aload_n (n := 308) hX dX0_writeRow_307 rfl rfl rfl ?_
    refine g_aload_n (n := 309) hX dX0_writeRow_308 rfl rfl rfl ?_
    refine g_pget (n := 312) ux_X4 rfl hX hU dX0_writeRow_309 rfl (hro (r) (by omega) (by omega)).1 ((fw_o (hro (r) (by omega) (by omega)).2.2.1).trans (hro (r) (by omega) (by omega)).2.1) 2 rfl uf_X0_164 rfl ?_
    refine g_pcallV (n := 315) (As := [.int ((pr (r)).2.2)]) (rest := []) hX hE hU hY dX0_writeRow_312 rfl yv_X0_load um_X0_180 (f_load _ _ K L f F B T (aB (aB s (bAddr ((pr (r)).2.1))) (bLoad ((pr (r)).2.1))) ((pr (r)).2.2) hF (hr.le (by decide))) ⟨rfl, rfl⟩ (rm_le hRm rfl rfl) rfl hF.1 fw_F rfl rfl rfl (Nat.le_of_ble_eq_true rfl) ⟨Nat.zero_le _, Nat.zero_le _⟩ (fun v0 w0 hq0 => ?_)
    obtain ⟨rfl, rfl⟩ := hq0
    show G Γ (va_pl L (fw K f F B T (aB (aB (aB s (bAddr ((pr (r)).2.1))) (bLoad ((pr (r)).2.1))) (bLoad ((pr (r)).2.2))))) 0 0 315 [(0, .ref F), (1, .ref (RO r)), (2, .int (nI (bg pr fr la r)))] []
    have hr : LB (aB (aB (aB s (bAddr ((pr (r)).2.1))) (bLoad ((pr (r)).2.1))) (bLoad ((pr (r)).2.2))) 3 := hr.app (Nat.le_of_ble_eq_true rfl)
    refine g_aload_n (n := 316) hX dX0_writeRow_315 rfl rfl rfl ?_
    refine g_aload_n (n := 317) hX dX0_writeRow_316 rfl rfl rfl ?_
    refine g_aload_n (n := 318) hX dX0_writeRow_317 rfl rfl rfl ?_
    refine g_pget (n := 321) ux_X4 rfl hX hU dX0_writeRow_318 rfl (hro (r) (by omega) (by omega)).1 ((fw_o (hro (r) (by omega) (by omega)).2.2.1).trans (hro (r) (by omega) (by omega)).2.1) 0 rfl uf_X0_156 rfl ?_
    refine g_pcallV (n := 324) (As := [.int ((pr (r)).1)]) (rest := [.ref F]) hX hE hU hY dX0_writeRow_321 rfl yv_X0_arithmeticOf um_X0_189 (f_arithmeticOf _ _ K L f F B T (aB (aB (aB s (bAddr ((pr (r)).2.1))) (bLoad ((pr (r)).2.1))) (bLoad ((pr (r)).2.2))) (pr r).1 hF) ⟨rfl, rfl⟩ (rm_le hRm rfl rfl) rfl hF.1 fw_F rfl rfl rfl (Nat.le_of_ble_eq_true rfl) ⟨Nat.zero_le _, Nat.zero_le _⟩ (fun v0 w0 hq0 => ?_)
    obtain ⟨rfl, rfl⟩ := hq0
    show G Γ (va_pl L (fw K f F B T (aB (aB (aB s (bAddr ((pr (r)).2.1))) (bLoad ((pr (r)).2.1))) (bLoad ((pr (r)).2.2))))) 0 0 324 [(0, .ref F), (1, .ref (RO r)), (2, .int (nI (bg pr fr la r)))] [.int (ariO (pr r).1), .ref F]
    refine g_pcallV (n := 327) (As := [.int (ariO (pr r).1)]) (rest := []) hX hE hU hY dX0_writeRow_324 rfl yv_X0_u1 um_X0_126 (f_u1 _ _ K L f F B T (aB (aB (aB s (bAddr ((pr (r)).2.1))) (bLoad ((pr (r)).2.1))) (bLoad ((pr (r)).2.2))) (ariO (pr r).1) hF (hr.le (by decide))) ⟨rfl, rfl⟩ (rm_le hRm rfl rfl) rfl hF.1 fw_F rfl rfl rfl (Nat.le_of_ble_eq_true rfl) ⟨Nat.zero_le _, Nat.zero_le _⟩ (fun v0 w0 hq0 => ?_)
    obtain ⟨rfl, rfl⟩ := hq0
    show G Γ (va_pl L (fw K f F B T (aB (aB (aB (aB s (bAddr ((pr (r)).2.1))) (bLoad ((pr (r)).2.1))) (bLoad ((pr (r)).2.2))) ([ariO (pr r).1])))) 0 0 327 [(0, .ref F), (1, .ref (RO r)), (2, .int (nI (bg pr fr la r)))] []
    have hr : LB (aB (aB (aB (aB s (bAddr ((pr (r)).2.1))) (bLoad ((pr (r)).2.1))) (bLoad ((pr (r)).2.2))) ([ariO (pr r).1])) 2 := hr.app (Nat.le_of_ble_eq_true rfl)
    refine g_aload_n (n := 328) hX dX0_writeRow_327 rfl rfl rfl ?_
    refine g_sipush (n := 331) (v := 145) hX dX0_writeRow_328 rfl rfl ?_
    refine g_pcallV (n := 334) (As := [.int 145]) (rest := []) hX hE hU hY dX0_writeRow_331 rfl yv_X0_u1 um_X0_126 (f_u1 _ _ K L f F B T (aB (aB (aB (aB s (bAddr ((pr (r)).2.1))) (bLoad ((pr (r)).2.1))) (bLoad ((pr (r)).2.2))) ([ariO (pr r).1])) 145 hF (hr.le (by decide))) ⟨rfl, rfl⟩ (rm_le hRm rfl rfl) rfl hF.1 fw_F rfl rfl rfl (Nat.le_of_ble_eq_true rfl) ⟨Nat.zero_le _, Nat.zero_le _⟩ (fun v0 w0 hq0 => ?_)
    obtain ⟨rfl, rfl⟩ := hq0
    show G Γ (va_pl L (fw K f F B T (aB (aB (aB (aB (aB s (bAddr ((pr (r)).2.1))) (bLoad ((pr (r)).2.1))) (bLoad ((pr (r)).2.2))) ([ariO (pr r).1])) ([145])))) 0 0 334 [(0, .ref F), (1, .ref (RO r)), (2, .int (nI (bg pr fr la r)))] []
    have hr : LB (aB (aB (aB (aB (aB s (bAddr ((pr (r)).2.1))) (bLoad ((pr (r)).2.1))) (bLoad ((pr (r)).2.2))) ([ariO (pr r).1])) ([145])) 1 := hr.app (Nat.le_of_ble_eq_true rfl)
    refine g_aload_n (n := 335) hX dX0_writeRow_334 rfl rfl rfl ?_
    refine g_bipush (n := 337) (v := 84) hX dX0_writeRow_335 rfl rfl ?_
    refine g_pcallV (n := 340) (As := [.int 84]) (rest := []) hX hE hU hY dX0_writeRow_337 rfl yv_X0_u1 um_X0_126 (f_u1 _ _ K L f F B T (aB (aB (aB (aB (aB s (bAddr ((pr (r)).2.1))) (bLoad ((pr (r)).2.1))) (bLoad ((pr (r)).2.2))) ([ariO (pr r).1])) ([145])) 84 hF (hr.le (by decide))) ⟨rfl, rfl⟩ (rm_le hRm rfl rfl) rfl hF.1 fw_F rfl rfl rfl (Nat.le_of_ble_eq_true rfl) ⟨Nat.zero_le _, Nat.zero_le _⟩ (fun v0 w0 hq0 => ?_)
    obtain ⟨rfl, rfl⟩ := hq0
    show G Γ (va_pl L (fw K f F B T (aB (aB (aB (aB (aB (aB s (bAddr ((pr (r)).2.1))) (bLoad ((pr (r)).2.1))) (bLoad ((pr (r)).2.2))) ([ariO (pr r).1])) ([145])) ([84])))) 0 0 340 [(0, .ref F), (1, .ref (RO r)), (2, .int (nI (bg pr fr la r)))] []
    have hr : LB (aB (aB (aB (aB (aB (aB s (bAddr ((pr (r)).2.1))) (bLoad ((pr (r)).2.1))) (bLoad ((pr (r)).2.2))) ([ariO (pr r).1])) ([145])) ([84])) 0 := hr.app (Nat.le_of_ble_eq_true rfl)
    exact g_vret hX hR dX0_writeRow_340 (absurd hsw (by have := ho.1; have := ho.2; omega))
  · obtain ⟨kz, hk1, hk2⟩ := hsw
    rcases (show kz = (0 : Int) ∨ kz = (1 : Int) ∨ kz = (2 : Int) ∨ kz = (3 : Int) ∨ kz = (4 : Int) ∨ kz = (5 : Int) ∨ kz = (6 : Int) ∨ kz = (7 : Int) ∨ kz = (8 : Int) ∨ kz = (9 : Int) ∨ kz = (10 : Int) ∨ kz = (11 : Int) ∨ kz = (12 : Int) ∨ kz = (13 : Int) by omega) with hkz | hkz | hkz | hkz | hkz | hkz | hkz | hkz | hkz | hkz | hkz | hkz | hkz | hkz
    · have hxe : (pr (r)).1 = (0 : Int32) := sw_val (hkz ▸ hk1) (by decide)
      refine g_tableIn (n := 76) (off := 72) hX dX0_writeRow_4 (by rw [hxe]; decide) (by rw [hxe]; decide) (by rw [hxe]; rfl) (by decide) ?_
      refine g_aload_n (n := 77) hX dX0_writeRow_76 rfl rfl rfl ?_
      refine g_aload_n (n := 78) hX dX0_writeRow_77 rfl rfl rfl ?_
      refine g_pget (n := 81) ux_X4 rfl hX hU dX0_writeRow_78 rfl (hro (r) (by omega) (by omega)).1 ((fw_o (hro (r) (by omega) (by omega)).2.2.1).trans (hro (r) (by omega) (by omega)).2.1) 1 rfl uf_X0_174 rfl ?_
      refine g_pcallV (n := 84) (As := [.int ((pr (r)).2.1)]) (rest := []) hX hE hU hY dX0_writeRow_81 rfl yv_X0_address um_X0_177 (f_address _ _ K L f F B T s ((pr (r)).2.1) hF (hr.le (by decide))) ⟨rfl, rfl⟩ (rm_le hRm rfl rfl) rfl hF.1 fw_F rfl rfl rfl (Nat.le_of_ble_eq_true rfl) ⟨Nat.zero_le _, Nat.zero_le _⟩ (fun v0 w0 hq0 => ?_)
      obtain ⟨rfl, rfl⟩ := hq0
      show G Γ (va_pl L (fw K f F B T (aB s (bAddr ((pr (r)).2.1))))) 0 0 84 [(0, .ref F), (1, .ref (RO r)), (2, .int (nI (bg pr fr la r)))] []
      have hr : LB (aB s (bAddr ((pr (r)).2.1))) 15 := hr.app (Nat.le_of_ble_eq_true rfl)
      refine g_aload_n (n := 85) hX dX0_writeRow_84 rfl rfl rfl ?_
      refine g_aload_n (n := 86) hX dX0_writeRow_85 rfl rfl rfl ?_
      refine g_pget (n := 89) ux_X4 rfl hX hU dX0_writeRow_86 rfl (hro (r) (by omega) (by omega)).1 ((fw_o (hro (r) (by omega) (by omega)).2.2.1).trans (hro (r) (by omega) (by omega)).2.1) 2 rfl uf_X0_164 rfl ?_
      refine g_pcallV (n := 92) (As := [.int ((pr (r)).2.2)]) (rest := []) hX hE hU hY dX0_writeRow_89 rfl yv_X0_push um_X0_131 (f_push _ _ K L f F B T (aB s (bAddr ((pr (r)).2.1))) ((pr (r)).2.2) hF (hr.le (by decide))) ⟨rfl, rfl⟩ (rm_le hRm rfl rfl) rfl hF.1 fw_F rfl rfl rfl (Nat.le_of_ble_eq_true rfl) ⟨Nat.zero_le _, Nat.zero_le _⟩ (fun v0 w0 hq0 => ?_)
      obtain ⟨rfl, rfl⟩ := hq0
      show G Γ (va_pl L (fw K f F B T (aB (aB s (bAddr ((pr (r)).2.1))) (bPush ((pr (r)).2.2))))) 0 0 92 [(0, .ref F), (1, .ref (RO r)), (2, .int (nI (bg pr fr la r)))] []
      have hr : LB (aB (aB s (bAddr ((pr (r)).2.1))) (bPush ((pr (r)).2.2))) 13 := hr.app (Nat.le_of_ble_eq_true rfl)
      refine g_aload_n (n := 93) hX dX0_writeRow_92 rfl rfl rfl ?_
      refine g_bipush (n := 95) (v := 84) hX dX0_writeRow_93 rfl rfl ?_
      refine g_pcallV (n := 98) (As := [.int 84]) (rest := []) hX hE hU hY dX0_writeRow_95 rfl yv_X0_u1 um_X0_126 (f_u1 _ _ K L f F B T (aB (aB s (bAddr ((pr (r)).2.1))) (bPush ((pr (r)).2.2))) 84 hF (hr.le (by decide))) ⟨rfl, rfl⟩ (rm_le hRm rfl rfl) rfl hF.1 fw_F rfl rfl rfl (Nat.le_of_ble_eq_true rfl) ⟨Nat.zero_le _, Nat.zero_le _⟩ (fun v0 w0 hq0 => ?_)
      obtain ⟨rfl, rfl⟩ := hq0
      show G Γ (va_pl L (fw K f F B T (aB (aB (aB s (bAddr ((pr (r)).2.1))) (bPush ((pr (r)).2.2))) ([84])))) 0 0 98 [(0, .ref F), (1, .ref (RO r)), (2, .int (nI (bg pr fr la r)))] []
      have hr : LB (aB (aB (aB s (bAddr ((pr (r)).2.1))) (bPush ((pr (r)).2.2))) ([84])) 12 := hr.app (Nat.le_of_ble_eq_true rfl)
      refine g_goto (n := 340) hX dX0_writeRow_98 (by decide) ?_
      exact g_vret hX hR dX0_writeRow_340 ⟨rfl, by rw [bRow_0 hxe]; simp only [bAddr, bHand, bIx, bWords, ← aB_aB]⟩
    · have hxe : (pr (r)).1 = (1 : Int32) := sw_val (hkz ▸ hk1) (by decide)
      refine g_tableIn (n := 101) (off := 97) hX dX0_writeRow_4 (by rw [hxe]; decide) (by rw [hxe]; decide) (by rw [hxe]; rfl) (by decide) ?_
      refine g_aload_n (n := 102) hX dX0_writeRow_101 rfl rfl rfl ?_
      refine g_aload_n (n := 103) hX dX0_writeRow_102 rfl rfl rfl ?_
      refine g_pget (n := 106) ux_X4 rfl hX hU dX0_writeRow_103 rfl (hro (r) (by omega) (by omega)).1 ((fw_o (hro (r) (by omega) (by omega)).2.2.1).trans (hro (r) (by omega) (by omega)).2.1) 1 rfl uf_X0_174 rfl ?_
      refine g_pcallV (n := 109) (As := [.int ((pr (r)).2.1)]) (rest := []) hX hE hU hY dX0_writeRow_106 rfl yv_X0_address um_X0_177 (f_address _ _ K L f F B T s ((pr (r)).2.1) hF (hr.le (by decide))) ⟨rfl, rfl⟩ (rm_le hRm rfl rfl) rfl hF.1 fw_F rfl rfl rfl (Nat.le_of_ble_eq_true rfl) ⟨Nat.zero_le _, Nat.zero_le _⟩ (fun v0 w0 hq0 => ?_)
      obtain ⟨rfl, rfl⟩ := hq0
      show G Γ (va_pl L (fw K f F B T (aB s (bAddr ((pr (r)).2.1))))) 0 0 109 [(0, .ref F), (1, .ref (RO r)), (2, .int (nI (bg pr fr la r)))] []
      have hr : LB (aB s (bAddr ((pr (r)).2.1))) 15 := hr.app (Nat.le_of_ble_eq_true rfl)
      refine g_aload_n (n := 110) hX dX0_writeRow_109 rfl rfl rfl ?_
      refine g_aload_n (n := 111) hX dX0_writeRow_110 rfl rfl rfl ?_
      refine g_pget (n := 114) ux_X4 rfl hX hU dX0_writeRow_111 rfl (hro (r) (by omega) (by omega)).1 ((fw_o (hro (r) (by omega) (by omega)).2.2.1).trans (hro (r) (by omega) (by omega)).2.1) 2 rfl uf_X0_164 rfl ?_
      refine g_pcallV (n := 117) (As := [.int ((pr (r)).2.2)]) (rest := []) hX hE hU hY dX0_writeRow_114 rfl yv_X0_load um_X0_180 (f_load _ _ K L f F B T (aB s (bAddr ((pr (r)).2.1))) ((pr (r)).2.2) hF (hr.le (by decide))) ⟨rfl, rfl⟩ (rm_le hRm rfl rfl) rfl hF.1 fw_F rfl rfl rfl (Nat.le_of_ble_eq_true rfl) ⟨Nat.zero_le _, Nat.zero_le _⟩ (fun v0 w0 hq0 => ?_)
      obtain ⟨rfl, rfl⟩ := hq0
      show G Γ (va_pl L (fw K f F B T (aB (aB s (bAddr ((pr (r)).2.1))) (bLoad ((pr (r)).2.2))))) 0 0 117 [(0, .ref F), (1, .ref (RO r)), (2, .int (nI (bg pr fr la r)))] []
      have hr : LB (aB (aB s (bAddr ((pr (r)).2.1))) (bLoad ((pr (r)).2.2))) 9 := hr.app (Nat.le_of_ble_eq_true rfl)
      refine g_aload_n (n := 118) hX dX0_writeRow_117 rfl rfl rfl ?_
      refine g_bipush (n := 120) (v := 84) hX dX0_writeRow_118 rfl rfl ?_
      refine g_pcallV (n := 123) (As := [.int 84]) (rest := []) hX hE hU hY dX0_writeRow_120 rfl yv_X0_u1 um_X0_126 (f_u1 _ _ K L f F B T (aB (aB s (bAddr ((pr (r)).2.1))) (bLoad ((pr (r)).2.2))) 84 hF (hr.le (by decide))) ⟨rfl, rfl⟩ (rm_le hRm rfl rfl) rfl hF.1 fw_F rfl rfl rfl (Nat.le_of_ble_eq_true rfl) ⟨Nat.zero_le _, Nat.zero_le _⟩ (fun v0 w0 hq0 => ?_)
      obtain ⟨rfl, rfl⟩ := hq0
      show G Γ (va_pl L (fw K f F B T (aB (aB (aB s (bAddr ((pr (r)).2.1))) (bLoad ((pr (r)).2.2))) ([84])))) 0 0 123 [(0, .ref F), (1, .ref (RO r)), (2, .int (nI (bg pr fr la r)))] []
      have hr : LB (aB (aB (aB s (bAddr ((pr (r)).2.1))) (bLoad ((pr (r)).2.2))) ([84])) 8 := hr.app (Nat.le_of_ble_eq_true rfl)
      refine g_goto (n := 340) hX dX0_writeRow_123 (by decide) ?_
      exact g_vret hX hR dX0_writeRow_340 ⟨rfl, by rw [bRow_1 hxe]; simp only [bAddr, bHand, bIx, bWords, ← aB_aB]⟩
    · have hxe : (pr (r)).1 = (2 : Int32) := sw_val (hkz ▸ hk1) (by decide)
      refine g_tableIn (n := 291) (off := 287) hX dX0_writeRow_4 (by rw [hxe]; decide) (by rw [hxe]; decide) (by rw [hxe]; rfl) (by decide) ?_
      refine g_aload_n (n := 292) hX dX0_writeRow_291 rfl rfl rfl ?_
      refine g_aload_n (n := 293) hX dX0_writeRow_292 rfl rfl rfl ?_
      refine g_pget (n := 296) ux_X4 rfl hX hU dX0_writeRow_293 rfl (hro (r) (by omega) (by omega)).1 ((fw_o (hro (r) (by omega) (by omega)).2.2.1).trans (hro (r) (by omega) (by omega)).2.1) 1 rfl uf_X0_174 rfl ?_
      refine g_pcallV (n := 299) (As := [.int ((pr (r)).2.1)]) (rest := []) hX hE hU hY dX0_writeRow_296 rfl yv_X0_address um_X0_177 (f_address _ _ K L f F B T s ((pr (r)).2.1) hF (hr.le (by decide))) ⟨rfl, rfl⟩ (rm_le hRm rfl rfl) rfl hF.1 fw_F rfl rfl rfl (Nat.le_of_ble_eq_true rfl) ⟨Nat.zero_le _, Nat.zero_le _⟩ (fun v0 w0 hq0 => ?_)
      obtain ⟨rfl, rfl⟩ := hq0
      show G Γ (va_pl L (fw K f F B T (aB s (bAddr ((pr (r)).2.1))))) 0 0 299 [(0, .ref F), (1, .ref (RO r)), (2, .int (nI (bg pr fr la r)))] []
      have hr : LB (aB s (bAddr ((pr (r)).2.1))) 15 := hr.app (Nat.le_of_ble_eq_true rfl)
      refine g_aload_n (n := 300) hX dX0_writeRow_299 rfl rfl rfl ?_
      refine g_aload_n (n := 301) hX dX0_writeRow_300 rfl rfl rfl ?_
      refine g_pget (n := 304) ux_X4 rfl hX hU dX0_writeRow_301 rfl (hro (r) (by omega) (by omega)).1 ((fw_o (hro (r) (by omega) (by omega)).2.2.1).trans (hro (r) (by omega) (by omega)).2.1) 1 rfl uf_X0_174 rfl ?_
      refine g_pcallV (n := 307) (As := [.int ((pr (r)).2.1)]) (rest := []) hX hE hU hY dX0_writeRow_304 rfl yv_X0_load um_X0_180 (f_load _ _ K L f F B T (aB s (bAddr ((pr (r)).2.1))) ((pr (r)).2.1) hF (hr.le (by decide))) ⟨rfl, rfl⟩ (rm_le hRm rfl rfl) rfl hF.1 fw_F rfl rfl rfl (Nat.le_of_ble_eq_true rfl) ⟨Nat.zero_le _, Nat.zero_le _⟩ (fun v0 w0 hq0 => ?_)
      obtain ⟨rfl, rfl⟩ := hq0
      show G Γ (va_pl L (fw K f F B T (aB (aB s (bAddr ((pr (r)).2.1))) (bLoad ((pr (r)).2.1))))) 0 0 307 [(0, .ref F), (1, .ref (RO r)), (2, .int (nI (bg pr fr la r)))] []
      have hr : LB (aB (aB s (bAddr ((pr (r)).2.1))) (bLoad ((pr (r)).2.1))) 9 := hr.app (Nat.le_of_ble_eq_true rfl)
      refine g_aload_n (n := 308) hX dX0_writeRow_307 rfl rfl rfl ?_
      refine g_aload_n (n := 309) hX dX0_writeRow_308 rfl rfl rfl ?_
      refine g_pget (n := 312) ux_X4 rfl hX hU dX0_writeRow_309 rfl (hro (r) (by omega) (by omega)).1 ((fw_o (hro (r) (by omega) (by omega)).2.2.1).trans (hro (r) (by omega) (by omega)).2.1) 2 rfl uf_X0_164 rfl ?_
      refine g_pcallV (n := 315) (As := [.int ((pr (r)).2.2)]) (rest := []) hX hE hU hY dX0_writeRow_312 rfl yv_X0_load um_X0_180 (f_load _ _ K L f F B T (aB (aB s (bAddr ((pr (r)).2.1))) (bLoad ((pr (r)).2.1))) ((pr (r)).2.2) hF (hr.le (by decide))) ⟨rfl, rfl⟩ (rm_le hRm rfl rfl) rfl hF.1 fw_F rfl rfl rfl (Nat.le_of_ble_eq_true rfl) ⟨Nat.zero_le _, Nat.zero_le _⟩ (fun v0 w0 hq0 => ?_)
      obtain ⟨rfl, rfl⟩ := hq0
      show G Γ (va_pl L (fw K f F B T (aB (aB (aB s (bAddr ((pr (r)).2.1))) (bLoad ((pr (r)).2.1))) (bLoad ((pr (r)).2.2))))) 0 0 315 [(0, .ref F), (1, .ref (RO r)), (2, .int (nI (bg pr fr la r)))] []
      have hr : LB (aB (aB (aB s (bAddr ((pr (r)).2.1))) (bLoad ((pr (r)).2.1))) (bLoad ((pr (r)).2.2))) 3 := hr.app (Nat.le_of_ble_eq_true rfl)
      refine g_aload_n (n := 316) hX dX0_writeRow_315 rfl rfl rfl ?_
      refine g_aload_n (n := 317) hX dX0_writeRow_316 rfl rfl rfl ?_
      refine g_aload_n (n := 318) hX dX0_writeRow_317 rfl rfl rfl ?_
      refine g_pget (n := 321) ux_X4 rfl hX hU dX0_writeRow_318 rfl (hro (r) (by omega) (by omega)).1 ((fw_o (hro (r) (by omega) (by omega)).2.2.1).trans (hro (r) (by omega) (by omega)).2.1) 0 rfl uf_X0_156 rfl ?_
      refine g_pcallV (n := 324) (As := [.int ((pr (r)).1)]) (rest := [.ref F]) hX hE hU hY dX0_writeRow_321 rfl yv_X0_arithmeticOf um_X0_189 (f_arithmeticOf _ _ K L f F B T (aB (aB (aB s (bAddr ((pr (r)).2.1))) (bLoad ((pr (r)).2.1))) (bLoad ((pr (r)).2.2))) (pr r).1 hF) ⟨rfl, rfl⟩ (rm_le hRm rfl rfl) rfl hF.1 fw_F rfl rfl rfl (Nat.le_of_ble_eq_true rfl) ⟨Nat.zero_le _, Nat.zero_le _⟩ (fun v0 w0 hq0 => ?_)
      obtain ⟨rfl, rfl⟩ := hq0; rw [hxe]
      show G Γ (va_pl L (fw K f F B T (aB (aB (aB s (bAddr ((pr (r)).2.1))) (bLoad ((pr (r)).2.1))) (bLoad ((pr (r)).2.2))))) 0 0 324 [(0, .ref F), (1, .ref (RO r)), (2, .int (nI (bg pr fr la r)))] [.int (ariO 2), .ref F]
      refine g_pcallV (n := 327) (As := [.int (ariO 2)]) (rest := []) hX hE hU hY dX0_writeRow_324 rfl yv_X0_u1 um_X0_126 (f_u1 _ _ K L f F B T (aB (aB (aB s (bAddr ((pr (r)).2.1))) (bLoad ((pr (r)).2.1))) (bLoad ((pr (r)).2.2))) (ariO 2) hF (hr.le (by decide))) ⟨rfl, rfl⟩ (rm_le hRm rfl rfl) rfl hF.1 fw_F rfl rfl rfl (Nat.le_of_ble_eq_true rfl) ⟨Nat.zero_le _, Nat.zero_le _⟩ (fun v0 w0 hq0 => ?_)
      obtain ⟨rfl, rfl⟩ := hq0
      show G Γ (va_pl L (fw K f F B T (aB (aB (aB (aB s (bAddr ((pr (r)).2.1))) (bLoad ((pr (r)).2.1))) (bLoad ((pr (r)).2.2))) ([ariO 2])))) 0 0 327 [(0, .ref F), (1, .ref (RO r)), (2, .int (nI (bg pr fr la r)))] []
      have hr : LB (aB (aB (aB (aB s (bAddr ((pr (r)).2.1))) (bLoad ((pr (r)).2.1))) (bLoad ((pr (r)).2.2))) ([ariO 2])) 2 := hr.app (Nat.le_of_ble_eq_true rfl)
      refine g_aload_n (n := 328) hX dX0_writeRow_327 rfl rfl rfl ?_
      refine g_sipush (n := 331) (v := 145) hX dX0_writeRow_328 rfl rfl ?_
      refine g_pcallV (n := 334) (As := [.int 145]) (rest := []) hX hE hU hY dX0_writeRow_331 rfl yv_X0_u1 um_X0_126 (f_u1 _ _ K L f F B T (aB (aB (aB (aB s (bAddr ((pr (r)).2.1))) (bLoad ((pr (r)).2.1))) (bLoad ((pr (r)).2.2))) ([ariO 2])) 145 hF (hr.le (by decide))) ⟨rfl, rfl⟩ (rm_le hRm rfl rfl) rfl hF.1 fw_F rfl rfl rfl (Nat.le_of_ble_eq_true rfl) ⟨Nat.zero_le _, Nat.zero_le _⟩ (fun v0 w0 hq0 => ?_)
      obtain ⟨rfl, rfl⟩ := hq0
      show G Γ (va_pl L (fw K f F B T (aB (aB (aB (aB (aB s (bAddr ((pr (r)).2.1))) (bLoad ((pr (r)).2.1))) (bLoad ((pr (r)).2.2))) ([ariO 2])) ([145])))) 0 0 334 [(0, .ref F), (1, .ref (RO r)), (2, .int (nI (bg pr fr la r)))] []
      have hr : LB (aB (aB (aB (aB (aB s (bAddr ((pr (r)).2.1))) (bLoad ((pr (r)).2.1))) (bLoad ((pr (r)).2.2))) ([ariO 2])) ([145])) 1 := hr.app (Nat.le_of_ble_eq_true rfl)
      refine g_aload_n (n := 335) hX dX0_writeRow_334 rfl rfl rfl ?_
      refine g_bipush (n := 337) (v := 84) hX dX0_writeRow_335 rfl rfl ?_
      refine g_pcallV (n := 340) (As := [.int 84]) (rest := []) hX hE hU hY dX0_writeRow_337 rfl yv_X0_u1 um_X0_126 (f_u1 _ _ K L f F B T (aB (aB (aB (aB (aB s (bAddr ((pr (r)).2.1))) (bLoad ((pr (r)).2.1))) (bLoad ((pr (r)).2.2))) ([ariO 2])) ([145])) 84 hF (hr.le (by decide))) ⟨rfl, rfl⟩ (rm_le hRm rfl rfl) rfl hF.1 fw_F rfl rfl rfl (Nat.le_of_ble_eq_true rfl) ⟨Nat.zero_le _, Nat.zero_le _⟩ (fun v0 w0 hq0 => ?_)
      obtain ⟨rfl, rfl⟩ := hq0
      show G Γ (va_pl L (fw K f F B T (aB (aB (aB (aB (aB (aB s (bAddr ((pr (r)).2.1))) (bLoad ((pr (r)).2.1))) (bLoad ((pr (r)).2.2))) ([ariO 2])) ([145])) ([84])))) 0 0 340 [(0, .ref F), (1, .ref (RO r)), (2, .int (nI (bg pr fr la r)))] []
      have hr : LB (aB (aB (aB (aB (aB (aB s (bAddr ((pr (r)).2.1))) (bLoad ((pr (r)).2.1))) (bLoad ((pr (r)).2.2))) ([ariO 2])) ([145])) ([84])) 0 := hr.app (Nat.le_of_ble_eq_true rfl)
      exact g_vret hX hR dX0_writeRow_340 ⟨rfl, by rw [bRow_2 hxe]; simp only [bAddr, bHand, bIx, bWords, ← aB_aB]⟩
    · have hxe : (pr (r)).1 = (3 : Int32) := sw_val (hkz ▸ hk1) (by decide)
      refine g_tableIn (n := 291) (off := 287) hX dX0_writeRow_4 (by rw [hxe]; decide) (by rw [hxe]; decide) (by rw [hxe]; rfl) (by decide) ?_
      refine g_aload_n (n := 292) hX dX0_writeRow_291 rfl rfl rfl ?_
      refine g_aload_n (n := 293) hX dX0_writeRow_292 rfl rfl rfl ?_
      refine g_pget (n := 296) ux_X4 rfl hX hU dX0_writeRow_293 rfl (hro (r) (by omega) (by omega)).1 ((fw_o (hro (r) (by omega) (by omega)).2.2.1).trans (hro (r) (by omega) (by omega)).2.1) 1 rfl uf_X0_174 rfl ?_
      refine g_pcallV (n := 299) (As := [.int ((pr (r)).2.1)]) (rest := []) hX hE hU hY dX0_writeRow_296 rfl yv_X0_address um_X0_177 (f_address _ _ K L f F B T s ((pr (r)).2.1) hF (hr.le (by decide))) ⟨rfl, rfl⟩ (rm_le hRm rfl rfl) rfl hF.1 fw_F rfl rfl rfl (Nat.le_of_ble_eq_true rfl) ⟨Nat.zero_le _, Nat.zero_le _⟩ (fun v0 w0 hq0 => ?_)
      obtain ⟨rfl, rfl⟩ := hq0
      show G Γ (va_pl L (fw K f F B T (aB s (bAddr ((pr (r)).2.1))))) 0 0 299 [(0, .ref F), (1, .ref (RO r)), (2, .int (nI (bg pr fr la r)))] []
      have hr : LB (aB s (bAddr ((pr (r)).2.1))) 15 := hr.app (Nat.le_of_ble_eq_true rfl)
      refine g_aload_n (n := 300) hX dX0_writeRow_299 rfl rfl rfl ?_
      refine g_aload_n (n := 301) hX dX0_writeRow_300 rfl rfl rfl ?_
      refine g_pget (n := 304) ux_X4 rfl hX hU dX0_writeRow_301 rfl (hro (r) (by omega) (by omega)).1 ((fw_o (hro (r) (by omega) (by omega)).2.2.1).trans (hro (r) (by omega) (by omega)).2.1) 1 rfl uf_X0_174 rfl ?_
      refine g_pcallV (n := 307) (As := [.int ((pr (r)).2.1)]) (rest := []) hX hE hU hY dX0_writeRow_304 rfl yv_X0_load um_X0_180 (f_load _ _ K L f F B T (aB s (bAddr ((pr (r)).2.1))) ((pr (r)).2.1) hF (hr.le (by decide))) ⟨rfl, rfl⟩ (rm_le hRm rfl rfl) rfl hF.1 fw_F rfl rfl rfl (Nat.le_of_ble_eq_true rfl) ⟨Nat.zero_le _, Nat.zero_le _⟩ (fun v0 w0 hq0 => ?_)
      obtain ⟨rfl, rfl⟩ := hq0
      show G Γ (va_pl L (fw K f F B T (aB (aB s (bAddr ((pr (r)).2.1))) (bLoad ((pr (r)).2.1))))) 0 0 307 [(0, .ref F), (1, .ref (RO r)), (2, .int (nI (bg pr fr la r)))] []
      have hr : LB (aB (aB s (bAddr ((pr (r)).2.1))) (bLoad ((pr (r)).2.1))) 9 := hr.app (Nat.le_of_ble_eq_true rfl)
      refine g_aload_n (n := 308) hX dX0_writeRow_307 rfl rfl rfl ?_
      refine g_aload_n (n := 309) hX dX0_writeRow_308 rfl rfl rfl ?_
      refine g_pget (n := 312) ux_X4 rfl hX hU dX0_writeRow_309 rfl (hro (r) (by omega) (by omega)).1 ((fw_o (hro (r) (by omega) (by omega)).2.2.1).trans (hro (r) (by omega) (by omega)).2.1) 2 rfl uf_X0_164 rfl ?_
      refine g_pcallV (n := 315) (As := [.int ((pr (r)).2.2)]) (rest := []) hX hE hU hY dX0_writeRow_312 rfl yv_X0_load um_X0_180 (f_load _ _ K L f F B T (aB (aB s (bAddr ((pr (r)).2.1))) (bLoad ((pr (r)).2.1))) ((pr (r)).2.2) hF (hr.le (by decide))) ⟨rfl, rfl⟩ (rm_le hRm rfl rfl) rfl hF.1 fw_F rfl rfl rfl (Nat.le_of_ble_eq_true rfl) ⟨Nat.zero_le _, Nat.zero_le _⟩ (fun v0 w0 hq0 => ?_)
      obtain ⟨rfl, rfl⟩ := hq0
      show G Γ (va_pl L (fw K f F B T (aB (aB (aB s (bAddr ((pr (r)).2.1))) (bLoad ((pr (r)).2.1))) (bLoad ((pr (r)).2.2))))) 0 0 315 [(0, .ref F), (1, .ref (RO r)), (2, .int (nI (bg pr fr la r)))] []
      have hr : LB (aB (aB (aB s (bAddr ((pr (r)).2.1))) (bLoad ((pr (r)).2.1))) (bLoad ((pr (r)).2.2))) 3 := hr.app (Nat.le_of_ble_eq_true rfl)
      refine g_aload_n (n := 316) hX dX0_writeRow_315 rfl rfl rfl ?_
      refine g_aload_n (n := 317) hX dX0_writeRow_316 rfl rfl rfl ?_
      refine g_aload_n (n := 318) hX dX0_writeRow_317 rfl rfl rfl ?_
      refine g_pget (n := 321) ux_X4 rfl hX hU dX0_writeRow_318 rfl (hro (r) (by omega) (by omega)).1 ((fw_o (hro (r) (by omega) (by omega)).2.2.1).trans (hro (r) (by omega) (by omega)).2.1) 0 rfl uf_X0_156 rfl ?_
      refine g_pcallV (n := 324) (As := [.int ((pr (r)).1)]) (rest := [.ref F]) hX hE hU hY dX0_writeRow_321 rfl yv_X0_arithmeticOf um_X0_189 (f_arithmeticOf _ _ K L f F B T (aB (aB (aB s (bAddr ((pr (r)).2.1))) (bLoad ((pr (r)).2.1))) (bLoad ((pr (r)).2.2))) (pr r).1 hF) ⟨rfl, rfl⟩ (rm_le hRm rfl rfl) rfl hF.1 fw_F rfl rfl rfl (Nat.le_of_ble_eq_true rfl) ⟨Nat.zero_le _, Nat.zero_le _⟩ (fun v0 w0 hq0 => ?_)
      obtain ⟨rfl, rfl⟩ := hq0; rw [hxe]
      show G Γ (va_pl L (fw K f F B T (aB (aB (aB s (bAddr ((pr (r)).2.1))) (bLoad ((pr (r)).2.1))) (bLoad ((pr (r)).2.2))))) 0 0 324 [(0, .ref F), (1, .ref (RO r)), (2, .int (nI (bg pr fr la r)))] [.int (ariO 3), .ref F]
      refine g_pcallV (n := 327) (As := [.int (ariO 3)]) (rest := []) hX hE hU hY dX0_writeRow_324 rfl yv_X0_u1 um_X0_126 (f_u1 _ _ K L f F B T (aB (aB (aB s (bAddr ((pr (r)).2.1))) (bLoad ((pr (r)).2.1))) (bLoad ((pr (r)).2.2))) (ariO 3) hF (hr.le (by decide))) ⟨rfl, rfl⟩ (rm_le hRm rfl rfl) rfl hF.1 fw_F rfl rfl rfl (Nat.le_of_ble_eq_true rfl) ⟨Nat.zero_le _, Nat.zero_le _⟩ (fun v0 w0 hq0 => ?_)
      obtain ⟨rfl, rfl⟩ := hq0
      show G Γ (va_pl L (fw K f F B T (aB (aB (aB (aB s (bAddr ((pr (r)).2.1))) (bLoad ((pr (r)).2.1))) (bLoad ((pr (r)).2.2))) ([ariO 3])))) 0 0 327 [(0, .ref F), (1, .ref (RO r)), (2, .int (nI (bg pr fr la r)))] []
      have hr : LB (aB (aB (aB (aB s (bAddr ((pr (r)).2.1))) (bLoad ((pr (r)).2.1))) (bLoad ((pr (r)).2.2))) ([ariO 3])) 2 := hr.app (Nat.le_of_ble_eq_true rfl)
      refine g_aload_n (n := 328) hX dX0_writeRow_327 rfl rfl rfl ?_
      refine g_sipush (n := 331) (v := 145) hX dX0_writeRow_328 rfl rfl ?_
      refine g_pcallV (n := 334) (As := [.int 145]) (rest := []) hX hE hU hY dX0_writeRow_331 rfl yv_X0_u1 um_X0_126 (f_u1 _ _ K L f F B T (aB (aB (aB (aB s (bAddr ((pr (r)).2.1))) (bLoad ((pr (r)).2.1))) (bLoad ((pr (r)).2.2))) ([ariO 3])) 145 hF (hr.le (by decide))) ⟨rfl, rfl⟩ (rm_le hRm rfl rfl) rfl hF.1 fw_F rfl rfl rfl (Nat.le_of_ble_eq_true rfl) ⟨Nat.zero_le _, Nat.zero_le _⟩ (fun v0 w0 hq0 => ?_)
      obtain ⟨rfl, rfl⟩ := hq0
      show G Γ (va_pl L (fw K f F B T (aB (aB (aB (aB (aB s (bAddr ((pr (r)).2.1))) (bLoad ((pr (r)).2.1))) (bLoad ((pr (r)).2.2))) ([ariO 3])) ([145])))) 0 0 334 [(0, .ref F), (1, .ref (RO r)), (2, .int (nI (bg pr fr la r)))] []
      have hr : LB (aB (aB (aB (aB (aB s (bAddr ((pr (r)).2.1))) (bLoad ((pr (r)).2.1))) (bLoad ((pr (r)).2.2))) ([ariO 3])) ([145])) 1 := hr.app (Nat.le_of_ble_eq_true rfl)
      refine g_aload_n (n := 335) hX dX0_writeRow_334 rfl rfl rfl ?_
      refine g_bipush (n := 337) (v := 84) hX dX0_writeRow_335 rfl rfl ?_
      refine g_pcallV (n := 340) (As := [.int 84]) (rest := []) hX hE hU hY dX0_writeRow_337 rfl yv_X0_u1 um_X0_126 (f_u1 _ _ K L f F B T (aB (aB (aB (aB (aB s (bAddr ((pr (r)).2.1))) (bLoad ((pr (r)).2.1))) (bLoad ((pr (r)).2.2))) ([ariO 3])) ([145])) 84 hF (hr.le (by decide))) ⟨rfl, rfl⟩ (rm_le hRm rfl rfl) rfl hF.1 fw_F rfl rfl rfl (Nat.le_of_ble_eq_true rfl) ⟨Nat.zero_le _, Nat.zero_le _⟩ (fun v0 w0 hq0 => ?_)
      obtain ⟨rfl, rfl⟩ := hq0
      show G Γ (va_pl L (fw K f F B T (aB (aB (aB (aB (aB (aB s (bAddr ((pr (r)).2.1))) (bLoad ((pr (r)).2.1))) (bLoad ((pr (r)).2.2))) ([ariO 3])) ([145])) ([84])))) 0 0 340 [(0, .ref F), (1, .ref (RO r)), (2, .int (nI (bg pr fr la r)))] []
      have hr : LB (aB (aB (aB (aB (aB (aB s (bAddr ((pr (r)).2.1))) (bLoad ((pr (r)).2.1))) (bLoad ((pr (r)).2.2))) ([ariO 3])) ([145])) ([84])) 0 := hr.app (Nat.le_of_ble_eq_true rfl)
      exact g_vret hX hR dX0_writeRow_340 ⟨rfl, by rw [bRow_3 hxe]; simp only [bAddr, bHand, bIx, bWords, ← aB_aB]⟩
    · have hxe : (pr (r)).1 = (4 : Int32) := sw_val (hkz ▸ hk1) (by decide)
      refine g_tableIn (n := 291) (off := 287) hX dX0_writeRow_4 (by rw [hxe]; decide) (by rw [hxe]; decide) (by rw [hxe]; rfl) (by decide) ?_
      refine g_aload_n (n := 292) hX dX0_writeRow_291 rfl rfl rfl ?_
      refine g_aload_n (n := 293) hX dX0_writeRow_292 rfl rfl rfl ?_
      refine g_pget (n := 296) ux_X4 rfl hX hU dX0_writeRow_293 rfl (hro (r) (by omega) (by omega)).1 ((fw_o (hro (r) (by omega) (by omega)).2.2.1).trans (hro (r) (by omega) (by omega)).2.1) 1 rfl uf_X0_174 rfl ?_
      refine g_pcallV (n := 299) (As := [.int ((pr (r)).2.1)]) (rest := []) hX hE hU hY dX0_writeRow_296 rfl yv_X0_address um_X0_177 (f_address _ _ K L f F B T s ((pr (r)).2.1) hF (hr.le (by decide))) ⟨rfl, rfl⟩ (rm_le hRm rfl rfl) rfl hF.1 fw_F rfl rfl rfl (Nat.le_of_ble_eq_true rfl) ⟨Nat.zero_le _, Nat.zero_le _⟩ (fun v0 w0 hq0 => ?_)
      obtain ⟨rfl, rfl⟩ := hq0
      show G Γ (va_pl L (fw K f F B T (aB s (bAddr ((pr (r)).2.1))))) 0 0 299 [(0, .ref F), (1, .ref (RO r)), (2, .int (nI (bg pr fr la r)))] []
      have hr : LB (aB s (bAddr ((pr (r)).2.1))) 15 := hr.app (Nat.le_of_ble_eq_true rfl)
      refine g_aload_n (n := 300) hX dX0_writeRow_299 rfl rfl rfl ?_
      refine g_aload_n (n := 301) hX dX0_writeRow_300 rfl rfl rfl ?_
      refine g_pget (n := 304) ux_X4 rfl hX hU dX0_writeRow_301 rfl (hro (r) (by omega) (by omega)).1 ((fw_o (hro (r) (by omega) (by omega)).2.2.1).trans (hro (r) (by omega) (by omega)).2.1) 1 rfl uf_X0_174 rfl ?_
      refine g_pcallV (n := 307) (As := [.int ((pr (r)).2.1)]) (rest := []) hX hE hU hY dX0_writeRow_304 rfl yv_X0_load um_X0_180 (f_load _ _ K L f F B T (aB s (bAddr ((pr (r)).2.1))) ((pr (r)).2.1) hF (hr.le (by decide))) ⟨rfl, rfl⟩ (rm_le hRm rfl rfl) rfl hF.1 fw_F rfl rfl rfl (Nat.le_of_ble_eq_true rfl) ⟨Nat.zero_le _, Nat.zero_le _⟩ (fun v0 w0 hq0 => ?_)
      obtain ⟨rfl, rfl⟩ := hq0
      show G Γ (va_pl L (fw K f F B T (aB (aB s (bAddr ((pr (r)).2.1))) (bLoad ((pr (r)).2.1))))) 0 0 307 [(0, .ref F), (1, .ref (RO r)), (2, .int (nI (bg pr fr la r)))] []
      have hr : LB (aB (aB s (bAddr ((pr (r)).2.1))) (bLoad ((pr (r)).2.1))) 9 := hr.app (Nat.le_of_ble_eq_true rfl)
      refine g_aload_n (n := 308) hX dX0_writeRow_307 rfl rfl rfl ?_
      refine g_aload_n (n := 309) hX dX0_writeRow_308 rfl rfl rfl ?_
      refine g_pget (n := 312) ux_X4 rfl hX hU dX0_writeRow_309 rfl (hro (r) (by omega) (by omega)).1 ((fw_o (hro (r) (by omega) (by omega)).2.2.1).trans (hro (r) (by omega) (by omega)).2.1) 2 rfl uf_X0_164 rfl ?_
      refine g_pcallV (n := 315) (As := [.int ((pr (r)).2.2)]) (rest := []) hX hE hU hY dX0_writeRow_312 rfl yv_X0_load um_X0_180 (f_load _ _ K L f F B T (aB (aB s (bAddr ((pr (r)).2.1))) (bLoad ((pr (r)).2.1))) ((pr (r)).2.2) hF (hr.le (by decide))) ⟨rfl, rfl⟩ (rm_le hRm rfl rfl) rfl hF.1 fw_F rfl rfl rfl (Nat.le_of_ble_eq_true rfl) ⟨Nat.zero_le _, Nat.zero_le _⟩ (fun v0 w0 hq0 => ?_)
      obtain ⟨rfl, rfl⟩ := hq0
      show G Γ (va_pl L (fw K f F B T (aB (aB (aB s (bAddr ((pr (r)).2.1))) (bLoad ((pr (r)).2.1))) (bLoad ((pr (r)).2.2))))) 0 0 315 [(0, .ref F), (1, .ref (RO r)), (2, .int (nI (bg pr fr la r)))] []
      have hr : LB (aB (aB (aB s (bAddr ((pr (r)).2.1))) (bLoad ((pr (r)).2.1))) (bLoad ((pr (r)).2.2))) 3 := hr.app (Nat.le_of_ble_eq_true rfl)
      refine g_aload_n (n := 316) hX dX0_writeRow_315 rfl rfl rfl ?_
      refine g_aload_n (n := 317) hX dX0_writeRow_316 rfl rfl rfl ?_
      refine g_aload_n (n := 318) hX dX0_writeRow_317 rfl rfl rfl ?_
      refine g_pget (n := 321) ux_X4 rfl hX hU dX0_writeRow_318 rfl (hro (r) (by omega) (by omega)).1 ((fw_o (hro (r) (by omega) (by omega)).2.2.1).trans (hro (r) (by omega) (by omega)).2.1) 0 rfl uf_X0_156 rfl ?_
      refine g_pcallV (n := 324) (As := [.int ((pr (r)).1)]) (rest := [.ref F]) hX hE hU hY dX0_writeRow_321 rfl yv_X0_arithmeticOf um_X0_189 (f_arithmeticOf _ _ K L f F B T (aB (aB (aB s (bAddr ((pr (r)).2.1))) (bLoad ((pr (r)).2.1))) (bLoad ((pr (r)).2.2))) (pr r).1 hF) ⟨rfl, rfl⟩ (rm_le hRm rfl rfl) rfl hF.1 fw_F rfl rfl rfl (Nat.le_of_ble_eq_true rfl) ⟨Nat.zero_le _, Nat.zero_le _⟩ (fun v0 w0 hq0 => ?_)
      obtain ⟨rfl, rfl⟩ := hq0; rw [hxe]
      show G Γ (va_pl L (fw K f F B T (aB (aB (aB s (bAddr ((pr (r)).2.1))) (bLoad ((pr (r)).2.1))) (bLoad ((pr (r)).2.2))))) 0 0 324 [(0, .ref F), (1, .ref (RO r)), (2, .int (nI (bg pr fr la r)))] [.int (ariO 4), .ref F]
      refine g_pcallV (n := 327) (As := [.int (ariO 4)]) (rest := []) hX hE hU hY dX0_writeRow_324 rfl yv_X0_u1 um_X0_126 (f_u1 _ _ K L f F B T (aB (aB (aB s (bAddr ((pr (r)).2.1))) (bLoad ((pr (r)).2.1))) (bLoad ((pr (r)).2.2))) (ariO 4) hF (hr.le (by decide))) ⟨rfl, rfl⟩ (rm_le hRm rfl rfl) rfl hF.1 fw_F rfl rfl rfl (Nat.le_of_ble_eq_true rfl) ⟨Nat.zero_le _, Nat.zero_le _⟩ (fun v0 w0 hq0 => ?_)
      obtain ⟨rfl, rfl⟩ := hq0
      show G Γ (va_pl L (fw K f F B T (aB (aB (aB (aB s (bAddr ((pr (r)).2.1))) (bLoad ((pr (r)).2.1))) (bLoad ((pr (r)).2.2))) ([ariO 4])))) 0 0 327 [(0, .ref F), (1, .ref (RO r)), (2, .int (nI (bg pr fr la r)))] []
      have hr : LB (aB (aB (aB (aB s (bAddr ((pr (r)).2.1))) (bLoad ((pr (r)).2.1))) (bLoad ((pr (r)).2.2))) ([ariO 4])) 2 := hr.app (Nat.le_of_ble_eq_true rfl)
      refine g_aload_n (n := 328) hX dX0_writeRow_327 rfl rfl rfl ?_
      refine g_sipush (n := 331) (v := 145) hX dX0_writeRow_328 rfl rfl ?_
      refine g_pcallV (n := 334) (As := [.int 145]) (rest := []) hX hE hU hY dX0_writeRow_331 rfl yv_X0_u1 um_X0_126 (f_u1 _ _ K L f F B T (aB (aB (aB (aB s (bAddr ((pr (r)).2.1))) (bLoad ((pr (r)).2.1))) (bLoad ((pr (r)).2.2))) ([ariO 4])) 145 hF (hr.le (by decide))) ⟨rfl, rfl⟩ (rm_le hRm rfl rfl) rfl hF.1 fw_F rfl rfl rfl (Nat.le_of_ble_eq_true rfl) ⟨Nat.zero_le _, Nat.zero_le _⟩ (fun v0 w0 hq0 => ?_)
      obtain ⟨rfl, rfl⟩ := hq0
      show G Γ (va_pl L (fw K f F B T (aB (aB (aB (aB (aB s (bAddr ((pr (r)).2.1))) (bLoad ((pr (r)).2.1))) (bLoad ((pr (r)).2.2))) ([ariO 4])) ([145])))) 0 0 334 [(0, .ref F), (1, .ref (RO r)), (2, .int (nI (bg pr fr la r)))] []
      have hr : LB (aB (aB (aB (aB (aB s (bAddr ((pr (r)).2.1))) (bLoad ((pr (r)).2.1))) (bLoad ((pr (r)).2.2))) ([ariO 4])) ([145])) 1 := hr.app (Nat.le_of_ble_eq_true rfl)
      refine g_aload_n (n := 335) hX dX0_writeRow_334 rfl rfl rfl ?_
      refine g_bipush (n := 337) (v := 84) hX dX0_writeRow_335 rfl rfl ?_
      refine g_pcallV (n := 340) (As := [.int 84]) (rest := []) hX hE hU hY dX0_writeRow_337 rfl yv_X0_u1 um_X0_126 (f_u1 _ _ K L f F B T (aB (aB (aB (aB (aB s (bAddr ((pr (r)).2.1))) (bLoad ((pr (r)).2.1))) (bLoad ((pr (r)).2.2))) ([ariO 4])) ([145])) 84 hF (hr.le (by decide))) ⟨rfl, rfl⟩ (rm_le hRm rfl rfl) rfl hF.1 fw_F rfl rfl rfl (Nat.le_of_ble_eq_true rfl) ⟨Nat.zero_le _, Nat.zero_le _⟩ (fun v0 w0 hq0 => ?_)
      obtain ⟨rfl, rfl⟩ := hq0
      show G Γ (va_pl L (fw K f F B T (aB (aB (aB (aB (aB (aB s (bAddr ((pr (r)).2.1))) (bLoad ((pr (r)).2.1))) (bLoad ((pr (r)).2.2))) ([ariO 4])) ([145])) ([84])))) 0 0 340 [(0, .ref F), (1, .ref (RO r)), (2, .int (nI (bg pr fr la r)))] []
      have hr : LB (aB (aB (aB (aB (aB (aB s (bAddr ((pr (r)).2.1))) (bLoad ((pr (r)).2.1))) (bLoad ((pr (r)).2.2))) ([ariO 4])) ([145])) ([84])) 0 := hr.app (Nat.le_of_ble_eq_true rfl)
      exact g_vret hX hR dX0_writeRow_340 ⟨rfl, by rw [bRow_4 hxe]; simp only [bAddr, bHand, bIx, bWords, ← aB_aB]⟩
    · have hxe : (pr (r)).1 = (5 : Int32) := sw_val (hkz ▸ hk1) (by decide)
      refine g_tableIn (n := 291) (off := 287) hX dX0_writeRow_4 (by rw [hxe]; decide) (by rw [hxe]; decide) (by rw [hxe]; rfl) (by decide) ?_
      refine g_aload_n (n := 292) hX dX0_writeRow_291 rfl rfl rfl ?_
      refine g_aload_n (n := 293) hX dX0_writeRow_292 rfl rfl rfl ?_
      refine g_pget (n := 296) ux_X4 rfl hX hU dX0_writeRow_293 rfl (hro (r) (by omega) (by omega)).1 ((fw_o (hro (r) (by omega) (by omega)).2.2.1).trans (hro (r) (by omega) (by omega)).2.1) 1 rfl uf_X0_174 rfl ?_
      refine g_pcallV (n := 299) (As := [.int ((pr (r)).2.1)]) (rest := []) hX hE hU hY dX0_writeRow_296 rfl yv_X0_address um_X0_177 (f_address _ _ K L f F B T s ((pr (r)).2.1) hF (hr.le (by decide))) ⟨rfl, rfl⟩ (rm_le hRm rfl rfl) rfl hF.1 fw_F rfl rfl rfl (Nat.le_of_ble_eq_true rfl) ⟨Nat.zero_le _, Nat.zero_le _⟩ (fun v0 w0 hq0 => ?_)
      obtain ⟨rfl, rfl⟩ := hq0
      show G Γ (va_pl L (fw K f F B T (aB s (bAddr ((pr (r)).2.1))))) 0 0 299 [(0, .ref F), (1, .ref (RO r)), (2, .int (nI (bg pr fr la r)))] []
      have hr : LB (aB s (bAddr ((pr (r)).2.1))) 15 := hr.app (Nat.le_of_ble_eq_true rfl)
      refine g_aload_n (n := 300) hX dX0_writeRow_299 rfl rfl rfl ?_
      refine g_aload_n (n := 301) hX dX0_writeRow_300 rfl rfl rfl ?_
      refine g_pget (n := 304) ux_X4 rfl hX hU dX0_writeRow_301 rfl (hro (r) (by omega) (by omega)).1 ((fw_o (hro (r) (by omega) (by omega)).2.2.1).trans (hro (r) (by omega) (by omega)).2.1) 1 rfl uf_X0_174 rfl ?_
      refine g_pcallV (n := 307) (As := [.int ((pr (r)).2.1)]) (rest := []) hX hE hU hY dX0_writeRow_304 rfl yv_X0_load um_X0_180 (f_load _ _ K L f F B T (aB s (bAddr ((pr (r)).2.1))) ((pr (r)).2.1) hF (hr.le (by decide))) ⟨rfl, rfl⟩ (rm_le hRm rfl rfl) rfl hF.1 fw_F rfl rfl rfl (Nat.le_of_ble_eq_true rfl) ⟨Nat.zero_le _, Nat.zero_le _⟩ (fun v0 w0 hq0 => ?_)
      obtain ⟨rfl, rfl⟩ := hq0
      show G Γ (va_pl L (fw K f F B T (aB (aB s (bAddr ((pr (r)).2.1))) (bLoad ((pr (r)).2.1))))) 0 0 307 [(0, .ref F), (1, .ref (RO r)), (2, .int (nI (bg pr fr la r)))] []
      have hr : LB (aB (aB s (bAddr ((pr (r)).2.1))) (bLoad ((pr (r)).2.1))) 9 := hr.app (Nat.le_of_ble_eq_true rfl)
      refine g_aload_n (n := 308) hX dX0_writeRow_307 rfl rfl rfl ?_
      refine g_aload_n (n := 309) hX dX0_writeRow_308 rfl rfl rfl ?_
      refine g_pget (n := 312) ux_X4 rfl hX hU dX0_writeRow_309 rfl (hro (r) (by omega) (by omega)).1 ((fw_o (hro (r) (by omega) (by omega)).2.2.1).trans (hro (r) (by omega) (by omega)).2.1) 2 rfl uf_X0_164 rfl ?_
      refine g_pcallV (n := 315) (As := [.int ((pr (r)).2.2)]) (rest := []) hX hE hU hY dX0_writeRow_312 rfl yv_X0_load um_X0_180 (f_load _ _ K L f F B T (aB (aB s (bAddr ((pr (r)).2.1))) (bLoad ((pr (r)).2.1))) ((pr (r)).2.2) hF (hr.le (by decide))) ⟨rfl, rfl⟩ (rm_le hRm rfl rfl) rfl hF.1 fw_F rfl rfl rfl (Nat.le_of_ble_eq_true rfl) ⟨Nat.zero_le _, Nat.zero_le _⟩ (fun v0 w0 hq0 => ?_)
      obtain ⟨rfl, rfl⟩ := hq0
      show G Γ (va_pl L (fw K f F B T (aB (aB (aB s (bAddr ((pr (r)).2.1))) (bLoad ((pr (r)).2.1))) (bLoad ((pr (r)).2.2))))) 0 0 315 [(0, .ref F), (1, .ref (RO r)), (2, .int (nI (bg pr fr la r)))] []
      have hr : LB (aB (aB (aB s (bAddr ((pr (r)).2.1))) (bLoad ((pr (r)).2.1))) (bLoad ((pr (r)).2.2))) 3 := hr.app (Nat.le_of_ble_eq_true rfl)
      refine g_aload_n (n := 316) hX dX0_writeRow_315 rfl rfl rfl ?_
      refine g_aload_n (n := 317) hX dX0_writeRow_316 rfl rfl rfl ?_
      refine g_aload_n (n := 318) hX dX0_writeRow_317 rfl rfl rfl ?_
      refine g_pget (n := 321) ux_X4 rfl hX hU dX0_writeRow_318 rfl (hro (r) (by omega) (by omega)).1 ((fw_o (hro (r) (by omega) (by omega)).2.2.1).trans (hro (r) (by omega) (by omega)).2.1) 0 rfl uf_X0_156 rfl ?_
      refine g_pcallV (n := 324) (As := [.int ((pr (r)).1)]) (rest := [.ref F]) hX hE hU hY dX0_writeRow_321 rfl yv_X0_arithmeticOf um_X0_189 (f_arithmeticOf _ _ K L f F B T (aB (aB (aB s (bAddr ((pr (r)).2.1))) (bLoad ((pr (r)).2.1))) (bLoad ((pr (r)).2.2))) (pr r).1 hF) ⟨rfl, rfl⟩ (rm_le hRm rfl rfl) rfl hF.1 fw_F rfl rfl rfl (Nat.le_of_ble_eq_true rfl) ⟨Nat.zero_le _, Nat.zero_le _⟩ (fun v0 w0 hq0 => ?_)
      obtain ⟨rfl, rfl⟩ := hq0; rw [hxe]
      show G Γ (va_pl L (fw K f F B T (aB (aB (aB s (bAddr ((pr (r)).2.1))) (bLoad ((pr (r)).2.1))) (bLoad ((pr (r)).2.2))))) 0 0 324 [(0, .ref F), (1, .ref (RO r)), (2, .int (nI (bg pr fr la r)))] [.int (ariO 5), .ref F]
      refine g_pcallV (n := 327) (As := [.int (ariO 5)]) (rest := []) hX hE hU hY dX0_writeRow_324 rfl yv_X0_u1 um_X0_126 (f_u1 _ _ K L f F B T (aB (aB (aB s (bAddr ((pr (r)).2.1))) (bLoad ((pr (r)).2.1))) (bLoad ((pr (r)).2.2))) (ariO 5) hF (hr.le (by decide))) ⟨rfl, rfl⟩ (rm_le hRm rfl rfl) rfl hF.1 fw_F rfl rfl rfl (Nat.le_of_ble_eq_true rfl) ⟨Nat.zero_le _, Nat.zero_le _⟩ (fun v0 w0 hq0 => ?_)
      obtain ⟨rfl, rfl⟩ := hq0
      show G Γ (va_pl L (fw K f F B T (aB (aB (aB (aB s (bAddr ((pr (r)).2.1))) (bLoad ((pr (r)).2.1))) (bLoad ((pr (r)).2.2))) ([ariO 5])))) 0 0 327 [(0, .ref F), (1, .ref (RO r)), (2, .int (nI (bg pr fr la r)))] []
      have hr : LB (aB (aB (aB (aB s (bAddr ((pr (r)).2.1))) (bLoad ((pr (r)).2.1))) (bLoad ((pr (r)).2.2))) ([ariO 5])) 2 := hr.app (Nat.le_of_ble_eq_true rfl)
      refine g_aload_n (n := 328) hX dX0_writeRow_327 rfl rfl rfl ?_
      refine g_sipush (n := 331) (v := 145) hX dX0_writeRow_328 rfl rfl ?_
      refine g_pcallV (n := 334) (As := [.int 145]) (rest := []) hX hE hU hY dX0_writeRow_331 rfl yv_X0_u1 um_X0_126 (f_u1 _ _ K L f F B T (aB (aB (aB (aB s (bAddr ((pr (r)).2.1))) (bLoad ((pr (r)).2.1))) (bLoad ((pr (r)).2.2))) ([ariO 5])) 145 hF (hr.le (by decide))) ⟨rfl, rfl⟩ (rm_le hRm rfl rfl) rfl hF.1 fw_F rfl rfl rfl (Nat.le_of_ble_eq_true rfl) ⟨Nat.zero_le _, Nat.zero_le _⟩ (fun v0 w0 hq0 => ?_)
      obtain ⟨rfl, rfl⟩ := hq0
      show G Γ (va_pl L (fw K f F B T (aB (aB (aB (aB (aB s (bAddr ((pr (r)).2.1))) (bLoad ((pr (r)).2.1))) (bLoad ((pr (r)).2.2))) ([ariO 5])) ([145])))) 0 0 334 [(0, .ref F), (1, .ref (RO r)), (2, .int (nI (bg pr fr la r)))] []
      have hr : LB (aB (aB (aB (aB (aB s (bAddr ((pr (r)).2.1))) (bLoad ((pr (r)).2.1))) (bLoad ((pr (r)).2.2))) ([ariO 5])) ([145])) 1 := hr.app (Nat.le_of_ble_eq_true rfl)
      refine g_aload_n (n := 335) hX dX0_writeRow_334 rfl rfl rfl ?_
      refine g_bipush (n := 337) (v := 84) hX dX0_writeRow_335 rfl rfl ?_
      refine g_pcallV (n := 340) (As := [.int 84]) (rest := []) hX hE hU hY dX0_writeRow_337 rfl yv_X0_u1 um_X0_126 (f_u1 _ _ K L f F B T (aB (aB (aB (aB (aB s (bAddr ((pr (r)).2.1))) (bLoad ((pr (r)).2.1))) (bLoad ((pr (r)).2.2))) ([ariO 5])) ([145])) 84 hF (hr.le (by decide))) ⟨rfl, rfl⟩ (rm_le hRm rfl rfl) rfl hF.1 fw_F rfl rfl rfl (Nat.le_of_ble_eq_true rfl) ⟨Nat.zero_le _, Nat.zero_le _⟩ (fun v0 w0 hq0 => ?_)
      obtain ⟨rfl, rfl⟩ := hq0
      show G Γ (va_pl L (fw K f F B T (aB (aB (aB (aB (aB (aB s (bAddr ((pr (r)).2.1))) (bLoad ((pr (r)).2.1))) (bLoad ((pr (r)).2.2))) ([ariO 5])) ([145])) ([84])))) 0 0 340 [(0, .ref F), (1, .ref (RO r)), (2, .int (nI (bg pr fr la r)))] []
      have hr : LB (aB (aB (aB (aB (aB (aB s (bAddr ((pr (r)).2.1))) (bLoad ((pr (r)).2.1))) (bLoad ((pr (r)).2.2))) ([ariO 5])) ([145])) ([84])) 0 := hr.app (Nat.le_of_ble_eq_true rfl)
      exact g_vret hX hR dX0_writeRow_340 ⟨rfl, by rw [bRow_5 hxe]; simp only [bAddr, bHand, bIx, bWords, ← aB_aB]⟩
    · have hxe : (pr (r)).1 = (6 : Int32) := sw_val (hkz ▸ hk1) (by decide)
      refine g_tableIn (n := 291) (off := 287) hX dX0_writeRow_4 (by rw [hxe]; decide) (by rw [hxe]; decide) (by rw [hxe]; rfl) (by decide) ?_
      refine g_aload_n (n := 292) hX dX0_writeRow_291 rfl rfl rfl ?_
      refine g_aload_n (n := 293) hX dX0_writeRow_292 rfl rfl rfl ?_
      refine g_pget (n := 296) ux_X4 rfl hX hU dX0_writeRow_293 rfl (hro (r) (by omega) (by omega)).1 ((fw_o (hro (r) (by omega) (by omega)).2.2.1).trans (hro (r) (by omega) (by omega)).2.1) 1 rfl uf_X0_174 rfl ?_
      refine g_pcallV (n := 299) (As := [.int ((pr (r)).2.1)]) (rest := []) hX hE hU hY dX0_writeRow_296 rfl yv_X0_address um_X0_177 (f_address _ _ K L f F B T s ((pr (r)).2.1) hF (hr.le (by decide))) ⟨rfl, rfl⟩ (rm_le hRm rfl rfl) rfl hF.1 fw_F rfl rfl rfl (Nat.le_of_ble_eq_true rfl) ⟨Nat.zero_le _, Nat.zero_le _⟩ (fun v0 w0 hq0 => ?_)
      obtain ⟨rfl, rfl⟩ := hq0
      show G Γ (va_pl L (fw K f F B T (aB s (bAddr ((pr (r)).2.1))))) 0 0 299 [(0, .ref F), (1, .ref (RO r)), (2, .int (nI (bg pr fr la r)))] []
      have hr : LB (aB s (bAddr ((pr (r)).2.1))) 15 := hr.app (Nat.le_of_ble_eq_true rfl)
      refine g_aload_n (n := 300) hX dX0_writeRow_299 rfl rfl rfl ?_
      refine g_aload_n (n := 301) hX dX0_writeRow_300 rfl rfl rfl ?_
      refine g_pget (n := 304) ux_X4 rfl hX hU dX0_writeRow_301 rfl (hro (r) (by omega) (by omega)).1 ((fw_o (hro (r) (by omega) (by omega)).2.2.1).trans (hro (r) (by omega) (by omega)).2.1) 1 rfl uf_X0_174 rfl ?_
      refine g_pcallV (n := 307) (As := [.int ((pr (r)).2.1)]) (rest := []) hX hE hU hY dX0_writeRow_304 rfl yv_X0_load um_X0_180 (f_load _ _ K L f F B T (aB s (bAddr ((pr (r)).2.1))) ((pr (r)).2.1) hF (hr.le (by decide))) ⟨rfl, rfl⟩ (rm_le hRm rfl rfl) rfl hF.1 fw_F rfl rfl rfl (Nat.le_of_ble_eq_true rfl) ⟨Nat.zero_le _, Nat.zero_le _⟩ (fun v0 w0 hq0 => ?_)
      obtain ⟨rfl, rfl⟩ := hq0
      show G Γ (va_pl L (fw K f F B T (aB (aB s (bAddr ((pr (r)).2.1))) (bLoad ((pr (r)).2.1))))) 0 0 307 [(0, .ref F), (1, .ref (RO r)), (2, .int (nI (bg pr fr la r)))] []
      have hr : LB (aB (aB s (bAddr ((pr (r)).2.1))) (bLoad ((pr (r)).2.1))) 9 := hr.app (Nat.le_of_ble_eq_true rfl)
      refine g_aload_n (n := 308) hX dX0_writeRow_307 rfl rfl rfl ?_
      refine g_aload_n (n := 309) hX dX0_writeRow_308 rfl rfl rfl ?_
      refine g_pget (n := 312) ux_X4 rfl hX hU dX0_writeRow_309 rfl (hro (r) (by omega) (by omega)).1 ((fw_o (hro (r) (by omega) (by omega)).2.2.1).trans (hro (r) (by omega) (by omega)).2.1) 2 rfl uf_X0_164 rfl ?_
      refine g_pcallV (n := 315) (As := [.int ((pr (r)).2.2)]) (rest := []) hX hE hU hY dX0_writeRow_312 rfl yv_X0_load um_X0_180 (f_load _ _ K L f F B T (aB (aB s (bAddr ((pr (r)).2.1))) (bLoad ((pr (r)).2.1))) ((pr (r)).2.2) hF (hr.le (by decide))) ⟨rfl, rfl⟩ (rm_le hRm rfl rfl) rfl hF.1 fw_F rfl rfl rfl (Nat.le_of_ble_eq_true rfl) ⟨Nat.zero_le _, Nat.zero_le _⟩ (fun v0 w0 hq0 => ?_)
      obtain ⟨rfl, rfl⟩ := hq0
      show G Γ (va_pl L (fw K f F B T (aB (aB (aB s (bAddr ((pr (r)).2.1))) (bLoad ((pr (r)).2.1))) (bLoad ((pr (r)).2.2))))) 0 0 315 [(0, .ref F), (1, .ref (RO r)), (2, .int (nI (bg pr fr la r)))] []
      have hr : LB (aB (aB (aB s (bAddr ((pr (r)).2.1))) (bLoad ((pr (r)).2.1))) (bLoad ((pr (r)).2.2))) 3 := hr.app (Nat.le_of_ble_eq_true rfl)
      refine g_aload_n (n := 316) hX dX0_writeRow_315 rfl rfl rfl ?_
      refine g_aload_n (n := 317) hX dX0_writeRow_316 rfl rfl rfl ?_
      refine g_aload_n (n := 318) hX dX0_writeRow_317 rfl rfl rfl ?_
      refine g_pget (n := 321) ux_X4 rfl hX hU dX0_writeRow_318 rfl (hro (r) (by omega) (by omega)).1 ((fw_o (hro (r) (by omega) (by omega)).2.2.1).trans (hro (r) (by omega) (by omega)).2.1) 0 rfl uf_X0_156 rfl ?_
      refine g_pcallV (n := 324) (As := [.int ((pr (r)).1)]) (rest := [.ref F]) hX hE hU hY dX0_writeRow_321 rfl yv_X0_arithmeticOf um_X0_189 (f_arithmeticOf _ _ K L f F B T (aB (aB (aB s (bAddr ((pr (r)).2.1))) (bLoad ((pr (r)).2.1))) (bLoad ((pr (r)).2.2))) (pr r).1 hF) ⟨rfl, rfl⟩ (rm_le hRm rfl rfl) rfl hF.1 fw_F rfl rfl rfl (Nat.le_of_ble_eq_true rfl) ⟨Nat.zero_le _, Nat.zero_le _⟩ (fun v0 w0 hq0 => ?_)
      obtain ⟨rfl, rfl⟩ := hq0; rw [hxe]
      show G Γ (va_pl L (fw K f F B T (aB (aB (aB s (bAddr ((pr (r)).2.1))) (bLoad ((pr (r)).2.1))) (bLoad ((pr (r)).2.2))))) 0 0 324 [(0, .ref F), (1, .ref (RO r)), (2, .int (nI (bg pr fr la r)))] [.int (ariO 6), .ref F]
      refine g_pcallV (n := 327) (As := [.int (ariO 6)]) (rest := []) hX hE hU hY dX0_writeRow_324 rfl yv_X0_u1 um_X0_126 (f_u1 _ _ K L f F B T (aB (aB (aB s (bAddr ((pr (r)).2.1))) (bLoad ((pr (r)).2.1))) (bLoad ((pr (r)).2.2))) (ariO 6) hF (hr.le (by decide))) ⟨rfl, rfl⟩ (rm_le hRm rfl rfl) rfl hF.1 fw_F rfl rfl rfl (Nat.le_of_ble_eq_true rfl) ⟨Nat.zero_le _, Nat.zero_le _⟩ (fun v0 w0 hq0 => ?_)
      obtain ⟨rfl, rfl⟩ := hq0
      show G Γ (va_pl L (fw K f F B T (aB (aB (aB (aB s (bAddr ((pr (r)).2.1))) (bLoad ((pr (r)).2.1))) (bLoad ((pr (r)).2.2))) ([ariO 6])))) 0 0 327 [(0, .ref F), (1, .ref (RO r)), (2, .int (nI (bg pr fr la r)))] []
      have hr : LB (aB (aB (aB (aB s (bAddr ((pr (r)).2.1))) (bLoad ((pr (r)).2.1))) (bLoad ((pr (r)).2.2))) ([ariO 6])) 2 := hr.app (Nat.le_of_ble_eq_true rfl)
      refine g_aload_n (n := 328) hX dX0_writeRow_327 rfl rfl rfl ?_
      refine g_sipush (n := 331) (v := 145) hX dX0_writeRow_328 rfl rfl ?_
      refine g_pcallV (n := 334) (As := [.int 145]) (rest := []) hX hE hU hY dX0_writeRow_331 rfl yv_X0_u1 um_X0_126 (f_u1 _ _ K L f F B T (aB (aB (aB (aB s (bAddr ((pr (r)).2.1))) (bLoad ((pr (r)).2.1))) (bLoad ((pr (r)).2.2))) ([ariO 6])) 145 hF (hr.le (by decide))) ⟨rfl, rfl⟩ (rm_le hRm rfl rfl) rfl hF.1 fw_F rfl rfl rfl (Nat.le_of_ble_eq_true rfl) ⟨Nat.zero_le _, Nat.zero_le _⟩ (fun v0 w0 hq0 => ?_)
      obtain ⟨rfl, rfl⟩ := hq0
      show G Γ (va_pl L (fw K f F B T (aB (aB (aB (aB (aB s (bAddr ((pr (r)).2.1))) (bLoad ((pr (r)).2.1))) (bLoad ((pr (r)).2.2))) ([ariO 6])) ([145])))) 0 0 334 [(0, .ref F), (1, .ref (RO r)), (2, .int (nI (bg pr fr la r)))] []
      have hr : LB (aB (aB (aB (aB (aB s (bAddr ((pr (r)).2.1))) (bLoad ((pr (r)).2.1))) (bLoad ((pr (r)).2.2))) ([ariO 6])) ([145])) 1 := hr.app (Nat.le_of_ble_eq_true rfl)
      refine g_aload_n (n := 335) hX dX0_writeRow_334 rfl rfl rfl ?_
      refine g_bipush (n := 337) (v := 84) hX dX0_writeRow_335 rfl rfl ?_
      refine g_pcallV (n := 340) (As := [.int 84]) (rest := []) hX hE hU hY dX0_writeRow_337 rfl yv_X0_u1 um_X0_126 (f_u1 _ _ K L f F B T (aB (aB (aB (aB (aB s (bAddr ((pr (r)).2.1))) (bLoad ((pr (r)).2.1))) (bLoad ((pr (r)).2.2))) ([ariO 6])) ([145])) 84 hF (hr.le (by decide))) ⟨rfl, rfl⟩ (rm_le hRm rfl rfl) rfl hF.1 fw_F rfl rfl rfl (Nat.le_of_ble_eq_true rfl) ⟨Nat.zero_le _, Nat.zero_le _⟩ (fun v0 w0 hq0 => ?_)
      obtain ⟨rfl, rfl⟩ := hq0
      show G Γ (va_pl L (fw K f F B T (aB (aB (aB (aB (aB (aB s (bAddr ((pr (r)).2.1))) (bLoad ((pr (r)).2.1))) (bLoad ((pr (r)).2.2))) ([ariO 6])) ([145])) ([84])))) 0 0 340 [(0, .ref F), (1, .ref (RO r)), (2, .int (nI (bg pr fr la r)))] []
      have hr : LB (aB (aB (aB (aB (aB (aB s (bAddr ((pr (r)).2.1))) (bLoad ((pr (r)).2.1))) (bLoad ((pr (r)).2.2))) ([ariO 6])) ([145])) ([84])) 0 := hr.app (Nat.le_of_ble_eq_true rfl)
      exact g_vret hX hR dX0_writeRow_340 ⟨rfl, by rw [bRow_6 hxe]; simp only [bAddr, bHand, bIx, bWords, ← aB_aB]⟩
    · have hxe : (pr (r)).1 = (7 : Int32) := sw_val (hkz ▸ hk1) (by decide)
      refine g_tableIn (n := 126) (off := 122) hX dX0_writeRow_4 (by rw [hxe]; decide) (by rw [hxe]; decide) (by rw [hxe]; rfl) (by decide) ?_
      refine g_aload_n (n := 127) hX dX0_writeRow_126 rfl rfl rfl ?_
      refine g_sipush (n := 130) (v := 178) hX dX0_writeRow_127 rfl rfl ?_
      refine g_bipush (n := 132) (v := 8) hX dX0_writeRow_130 rfl rfl ?_
      refine g_pcallV (n := 135) (As := [.int 178, .int 8]) (rest := []) hX hE hU hY dX0_writeRow_132 rfl yv_X0_withIndex um_X0_134 (f_withIndex _ _ K L f F B T s 178 8 hF (hr.le (by decide))) ⟨rfl, rfl⟩ (rm_le hRm rfl rfl) rfl hF.1 fw_F rfl rfl rfl (Nat.le_of_ble_eq_true rfl) ⟨Nat.zero_le _, Nat.zero_le _⟩ (fun v0 w0 hq0 => ?_)
      obtain ⟨rfl, rfl⟩ := hq0
      show G Γ (va_pl L (fw K f F B T (aB s (bIx 178 8)))) 0 0 135 [(0, .ref F), (1, .ref (RO r)), (2, .int (nI (bg pr fr la r)))] []
      have hr : LB (aB s (bIx 178 8)) 17 := hr.app (Nat.le_of_ble_eq_true rfl)
      refine g_aload_n (n := 136) hX dX0_writeRow_135 rfl rfl rfl ?_
      refine g_aload_n (n := 137) hX dX0_writeRow_136 rfl rfl rfl ?_
      refine g_pget (n := 140) ux_X4 rfl hX hU dX0_writeRow_137 rfl (hro (r) (by omega) (by omega)).1 ((fw_o (hro (r) (by omega) (by omega)).2.2.1).trans (hro (r) (by omega) (by omega)).2.1) 1 rfl uf_X0_174 rfl ?_
      refine g_pcallV (n := 143) (As := [.int ((pr (r)).2.1)]) (rest := []) hX hE hU hY dX0_writeRow_140 rfl yv_X0_load um_X0_180 (f_load _ _ K L f F B T (aB s (bIx 178 8)) ((pr (r)).2.1) hF (hr.le (by decide))) ⟨rfl, rfl⟩ (rm_le hRm rfl rfl) rfl hF.1 fw_F rfl rfl rfl (Nat.le_of_ble_eq_true rfl) ⟨Nat.zero_le _, Nat.zero_le _⟩ (fun v0 w0 hq0 => ?_)
      obtain ⟨rfl, rfl⟩ := hq0
      show G Γ (va_pl L (fw K f F B T (aB (aB s (bIx 178 8)) (bLoad ((pr (r)).2.1))))) 0 0 143 [(0, .ref F), (1, .ref (RO r)), (2, .int (nI (bg pr fr la r)))] []
      have hr : LB (aB (aB s (bIx 178 8)) (bLoad ((pr (r)).2.1))) 11 := hr.app (Nat.le_of_ble_eq_true rfl)
      refine g_aload_n (n := 144) hX dX0_writeRow_143 rfl rfl rfl ?_
      refine g_aload_n (n := 145) hX dX0_writeRow_144 rfl rfl rfl ?_
      refine g_pget (n := 148) ux_X4 rfl hX hU dX0_writeRow_145 rfl (hro (r) (by omega) (by omega)).1 ((fw_o (hro (r) (by omega) (by omega)).2.2.1).trans (hro (r) (by omega) (by omega)).2.1) 2 rfl uf_X0_164 rfl ?_
      refine g_pcallV (n := 151) (As := [.int ((pr (r)).2.2)]) (rest := []) hX hE hU hY dX0_writeRow_148 rfl yv_X0_load um_X0_180 (f_load _ _ K L f F B T (aB (aB s (bIx 178 8)) (bLoad ((pr (r)).2.1))) ((pr (r)).2.2) hF (hr.le (by decide))) ⟨rfl, rfl⟩ (rm_le hRm rfl rfl) rfl hF.1 fw_F rfl rfl rfl (Nat.le_of_ble_eq_true rfl) ⟨Nat.zero_le _, Nat.zero_le _⟩ (fun v0 w0 hq0 => ?_)
      obtain ⟨rfl, rfl⟩ := hq0
      show G Γ (va_pl L (fw K f F B T (aB (aB (aB s (bIx 178 8)) (bLoad ((pr (r)).2.1))) (bLoad ((pr (r)).2.2))))) 0 0 151 [(0, .ref F), (1, .ref (RO r)), (2, .int (nI (bg pr fr la r)))] []
      have hr : LB (aB (aB (aB s (bIx 178 8)) (bLoad ((pr (r)).2.1))) (bLoad ((pr (r)).2.2))) 5 := hr.app (Nat.le_of_ble_eq_true rfl)
      refine g_aload_n (n := 152) hX dX0_writeRow_151 rfl rfl rfl ?_
      refine g_bipush (n := 154) (v := 84) hX dX0_writeRow_152 rfl rfl ?_
      refine g_pcallV (n := 157) (As := [.int 84]) (rest := []) hX hE hU hY dX0_writeRow_154 rfl yv_X0_u1 um_X0_126 (f_u1 _ _ K L f F B T (aB (aB (aB s (bIx 178 8)) (bLoad ((pr (r)).2.1))) (bLoad ((pr (r)).2.2))) 84 hF (hr.le (by decide))) ⟨rfl, rfl⟩ (rm_le hRm rfl rfl) rfl hF.1 fw_F rfl rfl rfl (Nat.le_of_ble_eq_true rfl) ⟨Nat.zero_le _, Nat.zero_le _⟩ (fun v0 w0 hq0 => ?_)
      obtain ⟨rfl, rfl⟩ := hq0
      show G Γ (va_pl L (fw K f F B T (aB (aB (aB (aB s (bIx 178 8)) (bLoad ((pr (r)).2.1))) (bLoad ((pr (r)).2.2))) ([84])))) 0 0 157 [(0, .ref F), (1, .ref (RO r)), (2, .int (nI (bg pr fr la r)))] []
      have hr : LB (aB (aB (aB (aB s (bIx 178 8)) (bLoad ((pr (r)).2.1))) (bLoad ((pr (r)).2.2))) ([84])) 4 := hr.app (Nat.le_of_ble_eq_true rfl)
      refine g_goto (n := 340) hX dX0_writeRow_157 (by decide) ?_
      exact g_vret hX hR dX0_writeRow_340 ⟨rfl, by rw [bRow_7 hxe]; simp only [bAddr, bHand, bIx, bWords, ← aB_aB]⟩
    · have hxe : (pr (r)).1 = (8 : Int32) := sw_val (hkz ▸ hk1) (by decide)
      refine g_tableIn (n := 160) (off := 156) hX dX0_writeRow_4 (by rw [hxe]; decide) (by rw [hxe]; decide) (by rw [hxe]; rfl) (by decide) ?_
      refine g_aload_n (n := 161) hX dX0_writeRow_160 rfl rfl rfl ?_
      refine g_aload_n (n := 162) hX dX0_writeRow_161 rfl rfl rfl ?_
      refine g_pget (n := 165) ux_X4 rfl hX hU dX0_writeRow_162 rfl (hro (r) (by omega) (by omega)).1 ((fw_o (hro (r) (by omega) (by omega)).2.2.1).trans (hro (r) (by omega) (by omega)).2.1) 1 rfl uf_X0_174 rfl ?_
      refine g_pcallV (n := 168) (As := [.int ((pr (r)).2.1)]) (rest := []) hX hE hU hY dX0_writeRow_165 rfl yv_X0_load um_X0_180 (f_load _ _ K L f F B T s ((pr (r)).2.1) hF (hr.le (by decide))) ⟨rfl, rfl⟩ (rm_le hRm rfl rfl) rfl hF.1 fw_F rfl rfl rfl (Nat.le_of_ble_eq_true rfl) ⟨Nat.zero_le _, Nat.zero_le _⟩ (fun v0 w0 hq0 => ?_)
      obtain ⟨rfl, rfl⟩ := hq0
      show G Γ (va_pl L (fw K f F B T (aB s (bLoad ((pr (r)).2.1))))) 0 0 168 [(0, .ref F), (1, .ref (RO r)), (2, .int (nI (bg pr fr la r)))] []
      have hr : LB (aB s (bLoad ((pr (r)).2.1))) 14 := hr.app (Nat.le_of_ble_eq_true rfl)
      refine g_aload_n (n := 169) hX dX0_writeRow_168 rfl rfl rfl ?_
      refine g_sipush (n := 172) (v := 154) hX dX0_writeRow_169 rfl rfl ?_
      refine g_iconst (n := 173) (v := 3) hX dX0_writeRow_172 rfl rfl ?_
      refine g_aload_n (n := 174) hX dX0_writeRow_173 rfl rfl rfl ?_
      refine g_aload_n (n := 175) hX dX0_writeRow_174 rfl rfl rfl ?_
      refine g_pget (n := 178) ux_X4 rfl hX hU dX0_writeRow_175 rfl (hro (r) (by omega) (by omega)).1 ((fw_o (hro (r) (by omega) (by omega)).2.2.1).trans (hro (r) (by omega) (by omega)).2.1) 2 rfl uf_X0_164 rfl ?_
      refine g_pcallV (n := 181) (As := [.int ((pr (r)).2.2)]) (rest := [.int 3, .int 154, .ref F]) hX hE hU hY dX0_writeRow_178 rfl yv_X0_jumpLength um_X0_167 (f_jumpLength _ _ K L f F B T (aB s (bLoad ((pr (r)).2.1))) (pr r).2.2 hF) ⟨rfl, rfl⟩ (rm_le hRm rfl rfl) rfl hF.1 fw_F rfl rfl rfl (Nat.le_of_ble_eq_true rfl) ⟨Nat.zero_le _, Nat.zero_le _⟩ (fun v0 w0 hq0 => ?_)
      obtain ⟨rfl, rfl⟩ := hq0; rw [(ms_ap hs _).1, (ms_ap hs _).2.1]
      show G Γ (va_pl L (fw K f F B T (aB s (bLoad ((pr (r)).2.1))))) 0 0 181 [(0, .ref F), (1, .ref (RO r)), (2, .int (nI (bg pr fr la r)))] [.int (nI (goN (pr r).2.2 (nI fr) (nI la))), .int 3, .int 154, .ref F]
      refine g_iadd (n := 182) (v := nI (3 + goN (pr r).2.2 (nI fr) (nI la))) hX dX0_writeRow_181 rfl (nI_add 3 _) ?_
      refine g_pcallV (n := 185) (As := [.int 154, .int (nI (3 + goN (pr r).2.2 (nI fr) (nI la)))]) (rest := []) hX hE hU hY dX0_writeRow_182 rfl yv_X0_withIndex um_X0_134 (f_withIndex _ _ K L f F B T (aB s (bLoad ((pr (r)).2.1))) 154 (nI (3 + goN (pr r).2.2 (nI fr) (nI la))) hF (hr.le (by decide))) ⟨rfl, rfl⟩ (rm_le hRm rfl rfl) rfl hF.1 fw_F rfl rfl rfl (Nat.le_of_ble_eq_true rfl) ⟨Nat.zero_le _, Nat.zero_le _⟩ (fun v0 w0 hq0 => ?_)
      obtain ⟨rfl, rfl⟩ := hq0
      show G Γ (va_pl L (fw K f F B T (aB (aB s (bLoad ((pr (r)).2.1))) (bIx 154 (nI (3 + goN (pr r).2.2 (nI fr) (nI la))))))) 0 0 185 [(0, .ref F), (1, .ref (RO r)), (2, .int (nI (bg pr fr la r)))] []
      have hr : LB (aB (aB s (bLoad ((pr (r)).2.1))) (bIx 154 (nI (3 + goN (pr r).2.2 (nI fr) (nI la))))) 11 := hr.app (Nat.le_of_ble_eq_true rfl)
      refine g_aload_n (n := 186) hX dX0_writeRow_185 rfl rfl rfl ?_
      refine g_aload_n (n := 187) hX dX0_writeRow_186 rfl rfl rfl ?_
      refine g_pget (n := 190) ux_X4 rfl hX hU dX0_writeRow_187 rfl (hro (r) (by omega) (by omega)).1 ((fw_o (hro (r) (by omega) (by omega)).2.2.1).trans (hro (r) (by omega) (by omega)).2.1) 2 rfl uf_X0_164 rfl ?_
      refine g_iload_n (n := 191) hX dX0_writeRow_190 rfl rfl rfl ?_
      refine g_bipush (n := 193) (v := 6) hX dX0_writeRow_191 rfl rfl ?_
      refine g_iadd (n := 194) (v := nI (bg pr fr la r + 6)) hX dX0_writeRow_193 rfl (nI_add _ 6) ?_
      refine g_iconst (n := 195) (v := 3) hX dX0_writeRow_194 rfl rfl ?_
      refine g_iadd (n := 196) (v := nI (bg pr fr la r + 9)) hX dX0_writeRow_195 rfl (nI_add (bg pr fr la r + 6) 3) ?_
      refine g_pcallV (n := 199) (As := [.int ((pr (r)).2.2), .int (nI (bg pr fr la r + 9))]) (rest := []) hX hE hU hY dX0_writeRow_196 rfl yv_X0_jump um_X0_183 (f_jump _ _ K L f F B T (aB (aB s (bLoad ((pr (r)).2.1))) (bIx 154 (nI (3 + goN (pr r).2.2 (nI fr) (nI la))))) pr fr la (bg pr fr la r + 9) (pr r).2.2 hF (hr.le (by decide)) (ms_ap (ms_ap hs _) _) hl1 hl2 (by omega)) ⟨rfl, rfl⟩ (rm_le hRm rfl rfl) rfl hF.1 fw_F rfl rfl rfl (Nat.le_of_ble_eq_true rfl) ⟨Nat.zero_le _, Nat.zero_le _⟩ (fun v0 w0 hq0 => ?_)
      obtain ⟨rfl, rfl⟩ := hq0
      show G Γ (va_pl L (fw K f F B T (aB (aB (aB s (bLoad ((pr (r)).2.1))) (bIx 154 (nI (3 + goN (pr r).2.2 (nI fr) (nI la))))) (bGo pr fr la (pr r).2.2 (bg pr fr la r + 9))))) 0 0 199 [(0, .ref F), (1, .ref (RO r)), (2, .int (nI (bg pr fr la r)))] []
      have hr : LB (aB (aB (aB s (bLoad ((pr (r)).2.1))) (bIx 154 (nI (3 + goN (pr r).2.2 (nI fr) (nI la))))) (bGo pr fr la (pr r).2.2 (bg pr fr la r + 9))) 7 := hr.app (by rw [bGo_len]; have := (goN_le (pr r).2.2 (nI fr) (nI la)).2; omega)
      refine g_goto (n := 340) hX dX0_writeRow_199 (by decide) ?_
      exact g_vret hX hR dX0_writeRow_340 ⟨rfl, by rw [bRow_8 hxe]; simp only [bAddr, bHand, bIx, bWords, ← aB_aB]⟩
    · have hxe : (pr (r)).1 = (9 : Int32) := sw_val (hkz ▸ hk1) (by decide)
      refine g_tableIn (n := 202) (off := 198) hX dX0_writeRow_4 (by rw [hxe]; decide) (by rw [hxe]; decide) (by rw [hxe]; rfl) (by decide) ?_
      refine g_aload_n (n := 203) hX dX0_writeRow_202 rfl rfl rfl ?_
      refine g_aload_n (n := 204) hX dX0_writeRow_203 rfl rfl rfl ?_
      refine g_pget (n := 207) ux_X4 rfl hX hU dX0_writeRow_204 rfl (hro (r) (by omega) (by omega)).1 ((fw_o (hro (r) (by omega) (by omega)).2.2.1).trans (hro (r) (by omega) (by omega)).2.1) 2 rfl uf_X0_164 rfl ?_
      refine g_iload_n (n := 208) hX dX0_writeRow_207 rfl rfl rfl ?_
      refine g_pcallV (n := 211) (As := [.int ((pr (r)).2.2), .int (nI (bg pr fr la r))]) (rest := []) hX hE hU hY dX0_writeRow_208 rfl yv_X0_jump um_X0_183 (f_jump _ _ K L f F B T s pr fr la (bg pr fr la r) (pr r).2.2 hF (hr.le (by decide)) hs hl1 hl2 (by omega)) ⟨rfl, rfl⟩ (rm_le hRm rfl rfl) rfl hF.1 fw_F rfl rfl rfl (Nat.le_of_ble_eq_true rfl) ⟨Nat.zero_le _, Nat.zero_le _⟩ (fun v0 w0 hq0 => ?_)
      obtain ⟨rfl, rfl⟩ := hq0
      show G Γ (va_pl L (fw K f F B T (aB s (bGo pr fr la (pr r).2.2 (bg pr fr la r))))) 0 0 211 [(0, .ref F), (1, .ref (RO r)), (2, .int (nI (bg pr fr la r)))] []
      have hr : LB (aB s (bGo pr fr la (pr r).2.2 (bg pr fr la r))) 16 := hr.app (by rw [bGo_len]; have := (goN_le (pr r).2.2 (nI fr) (nI la)).2; omega)
      refine g_goto (n := 340) hX dX0_writeRow_211 (by decide) ?_
      exact g_vret hX hR dX0_writeRow_340 ⟨rfl, by rw [bRow_9 hxe]⟩
    · have hxe : (pr (r)).1 = (10 : Int32) := sw_val (hkz ▸ hk1) (by decide)
      refine g_tableIn (n := 214) (off := 210) hX dX0_writeRow_4 (by rw [hxe]; decide) (by rw [hxe]; decide) (by rw [hxe]; rfl) (by decide) ?_
      refine g_aload_n (n := 215) hX dX0_writeRow_214 rfl rfl rfl ?_
      refine g_aload_n (n := 216) hX dX0_writeRow_215 rfl rfl rfl ?_
      refine g_pget (n := 219) ux_X4 rfl hX hU dX0_writeRow_216 rfl (hro (r) (by omega) (by omega)).1 ((fw_o (hro (r) (by omega) (by omega)).2.2.1).trans (hro (r) (by omega) (by omega)).2.1) 1 rfl uf_X0_174 rfl ?_
      refine g_bipush (n := 221) (v := 14) hX dX0_writeRow_219 rfl rfl ?_
      refine g_pcallV (n := 224) (As := [.int ((pr (r)).2.1), .int 14]) (rest := []) hX hE hU hY dX0_writeRow_221 rfl yv_X0_hand um_X0_186 (f_hand _ _ K L f F B T s ((pr (r)).2.1) 14 hF (hr.le (by decide))) ⟨rfl, rfl⟩ (rm_le hRm rfl rfl) rfl hF.1 fw_F rfl rfl rfl (Nat.le_of_ble_eq_true rfl) ⟨Nat.zero_le _, Nat.zero_le _⟩ (fun v0 w0 hq0 => ?_)
      obtain ⟨rfl, rfl⟩ := hq0
      show G Γ (va_pl L (fw K f F B T (aB s (bHand ((pr (r)).2.1) 14)))) 0 0 224 [(0, .ref F), (1, .ref (RO r)), (2, .int (nI (bg pr fr la r)))] []
      have hr : LB (aB s (bHand ((pr (r)).2.1) 14)) 15 := hr.app (Nat.le_of_ble_eq_true rfl)
      refine g_goto (n := 340) hX dX0_writeRow_224 (by decide) ?_
      exact g_vret hX hR dX0_writeRow_340 ⟨rfl, by rw [bRow_10 hxe]; simp only [bAddr, bHand, bIx, bWords, ← aB_aB]⟩
    · have hxe : (pr (r)).1 = (11 : Int32) := sw_val (hkz ▸ hk1) (by decide)
      refine g_tableIn (n := 227) (off := 223) hX dX0_writeRow_4 (by rw [hxe]; decide) (by rw [hxe]; decide) (by rw [hxe]; rfl) (by decide) ?_
      refine g_aload_n (n := 228) hX dX0_writeRow_227 rfl rfl rfl ?_
      refine g_aload_n (n := 229) hX dX0_writeRow_228 rfl rfl rfl ?_
      refine g_pget (n := 232) ux_X4 rfl hX hU dX0_writeRow_229 rfl (hro (r) (by omega) (by omega)).1 ((fw_o (hro (r) (by omega) (by omega)).2.2.1).trans (hro (r) (by omega) (by omega)).2.1) 1 rfl uf_X0_174 rfl ?_
      refine g_bipush (n := 234) (v := 17) hX dX0_writeRow_232 rfl rfl ?_
      refine g_pcallV (n := 237) (As := [.int ((pr (r)).2.1), .int 17]) (rest := []) hX hE hU hY dX0_writeRow_234 rfl yv_X0_hand um_X0_186 (f_hand _ _ K L f F B T s ((pr (r)).2.1) 17 hF (hr.le (by decide))) ⟨rfl, rfl⟩ (rm_le hRm rfl rfl) rfl hF.1 fw_F rfl rfl rfl (Nat.le_of_ble_eq_true rfl) ⟨Nat.zero_le _, Nat.zero_le _⟩ (fun v0 w0 hq0 => ?_)
      obtain ⟨rfl, rfl⟩ := hq0
      show G Γ (va_pl L (fw K f F B T (aB s (bHand ((pr (r)).2.1) 17)))) 0 0 237 [(0, .ref F), (1, .ref (RO r)), (2, .int (nI (bg pr fr la r)))] []
      have hr : LB (aB s (bHand ((pr (r)).2.1) 17)) 15 := hr.app (Nat.le_of_ble_eq_true rfl)
      refine g_goto (n := 340) hX dX0_writeRow_237 (by decide) ?_
      exact g_vret hX hR dX0_writeRow_340 ⟨rfl, by rw [bRow_11 hxe]; simp only [bAddr, bHand, bIx, bWords, ← aB_aB]⟩
    · have hxe : (pr (r)).1 = (12 : Int32) := sw_val (hkz ▸ hk1) (by decide)
      refine g_tableIn (n := 240) (off := 236) hX dX0_writeRow_4 (by rw [hxe]; decide) (by rw [hxe]; decide) (by rw [hxe]; rfl) (by decide) ?_
      refine g_aload_n (n := 241) hX dX0_writeRow_240 rfl rfl rfl ?_
      refine g_aload_n (n := 242) hX dX0_writeRow_241 rfl rfl rfl ?_
      refine g_pget (n := 245) ux_X4 rfl hX hU dX0_writeRow_242 rfl (hro (r) (by omega) (by omega)).1 ((fw_o (hro (r) (by omega) (by omega)).2.2.1).trans (hro (r) (by omega) (by omega)).2.1) 1 rfl uf_X0_174 rfl ?_
      refine g_bipush (n := 247) (v := 20) hX dX0_writeRow_245 rfl rfl ?_
      refine g_pcallV (n := 250) (As := [.int ((pr (r)).2.1), .int 20]) (rest := []) hX hE hU hY dX0_writeRow_247 rfl yv_X0_hand um_X0_186 (f_hand _ _ K L f F B T s ((pr (r)).2.1) 20 hF (hr.le (by decide))) ⟨rfl, rfl⟩ (rm_le hRm rfl rfl) rfl hF.1 fw_F rfl rfl rfl (Nat.le_of_ble_eq_true rfl) ⟨Nat.zero_le _, Nat.zero_le _⟩ (fun v0 w0 hq0 => ?_)
      obtain ⟨rfl, rfl⟩ := hq0
      show G Γ (va_pl L (fw K f F B T (aB s (bHand ((pr (r)).2.1) 20)))) 0 0 250 [(0, .ref F), (1, .ref (RO r)), (2, .int (nI (bg pr fr la r)))] []
      have hr : LB (aB s (bHand ((pr (r)).2.1) 20)) 15 := hr.app (Nat.le_of_ble_eq_true rfl)
      refine g_goto (n := 340) hX dX0_writeRow_250 (by decide) ?_
      exact g_vret hX hR dX0_writeRow_340 ⟨rfl, by rw [bRow_12 hxe]; simp only [bAddr, bHand, bIx, bWords, ← aB_aB]⟩
    · have hxe : (pr (r)).1 = (13 : Int32) := sw_val (hkz ▸ hk1) (by decide)
      refine g_tableIn (n := 253) (off := 249) hX dX0_writeRow_4 (by rw [hxe]; decide) (by rw [hxe]; decide) (by rw [hxe]; rfl) (by decide) ?_
      refine g_aload_n (n := 254) hX dX0_writeRow_253 rfl rfl rfl ?_
      refine g_aload_n (n := 255) hX dX0_writeRow_254 rfl rfl rfl ?_
      refine g_pget (n := 258) ux_X4 rfl hX hU dX0_writeRow_255 rfl (hro (r) (by omega) (by omega)).1 ((fw_o (hro (r) (by omega) (by omega)).2.2.1).trans (hro (r) (by omega) (by omega)).2.1) 1 rfl uf_X0_174 rfl ?_
      refine g_pcallV (n := 261) (As := [.int ((pr (r)).2.1)]) (rest := []) hX hE hU hY dX0_writeRow_258 rfl yv_X0_load um_X0_180 (f_load _ _ K L f F B T s ((pr (r)).2.1) hF (hr.le (by decide))) ⟨rfl, rfl⟩ (rm_le hRm rfl rfl) rfl hF.1 fw_F rfl rfl rfl (Nat.le_of_ble_eq_true rfl) ⟨Nat.zero_le _, Nat.zero_le _⟩ (fun v0 w0 hq0 => ?_)
      obtain ⟨rfl, rfl⟩ := hq0
      show G Γ (va_pl L (fw K f F B T (aB s (bLoad ((pr (r)).2.1))))) 0 0 261 [(0, .ref F), (1, .ref (RO r)), (2, .int (nI (bg pr fr la r)))] []
      have hr : LB (aB s (bLoad ((pr (r)).2.1))) 14 := hr.app (Nat.le_of_ble_eq_true rfl)
      refine g_aload_n (n := 262) hX dX0_writeRow_261 rfl rfl rfl ?_
      refine g_aload_n (n := 263) hX dX0_writeRow_262 rfl rfl rfl ?_
      refine g_pget (n := 266) ux_X4 rfl hX hU dX0_writeRow_263 rfl (hro (r) (by omega) (by omega)).1 ((fw_o (hro (r) (by omega) (by omega)).2.2.1).trans (hro (r) (by omega) (by omega)).2.1) 2 rfl uf_X0_164 rfl ?_
      refine g_pcallV (n := 269) (As := [.int ((pr (r)).2.2)]) (rest := []) hX hE hU hY dX0_writeRow_266 rfl yv_X0_push um_X0_131 (f_push _ _ K L f F B T (aB s (bLoad ((pr (r)).2.1))) ((pr (r)).2.2) hF (hr.le (by decide))) ⟨rfl, rfl⟩ (rm_le hRm rfl rfl) rfl hF.1 fw_F rfl rfl rfl (Nat.le_of_ble_eq_true rfl) ⟨Nat.zero_le _, Nat.zero_le _⟩ (fun v0 w0 hq0 => ?_)
      obtain ⟨rfl, rfl⟩ := hq0
      show G Γ (va_pl L (fw K f F B T (aB (aB s (bLoad ((pr (r)).2.1))) (bPush ((pr (r)).2.2))))) 0 0 269 [(0, .ref F), (1, .ref (RO r)), (2, .int (nI (bg pr fr la r)))] []
      have hr : LB (aB (aB s (bLoad ((pr (r)).2.1))) (bPush ((pr (r)).2.2))) 12 := hr.app (Nat.le_of_ble_eq_true rfl)
      refine g_aload_n (n := 270) hX dX0_writeRow_269 rfl rfl rfl ?_
      refine g_sipush (n := 273) (v := 164) hX dX0_writeRow_270 rfl rfl ?_
      refine g_bipush (n := 275) (v := 8) hX dX0_writeRow_273 rfl rfl ?_
      refine g_pcallV (n := 278) (As := [.int 164, .int 8]) (rest := []) hX hE hU hY dX0_writeRow_275 rfl yv_X0_withIndex um_X0_134 (f_withIndex _ _ K L f F B T (aB (aB s (bLoad ((pr (r)).2.1))) (bPush ((pr (r)).2.2))) 164 8 hF (hr.le (by decide))) ⟨rfl, rfl⟩ (rm_le hRm rfl rfl) rfl hF.1 fw_F rfl rfl rfl (Nat.le_of_ble_eq_true rfl) ⟨Nat.zero_le _, Nat.zero_le _⟩ (fun v0 w0 hq0 => ?_)
      obtain ⟨rfl, rfl⟩ := hq0
      show G Γ (va_pl L (fw K f F B T (aB (aB (aB s (bLoad ((pr (r)).2.1))) (bPush ((pr (r)).2.2))) (bIx 164 8)))) 0 0 278 [(0, .ref F), (1, .ref (RO r)), (2, .int (nI (bg pr fr la r)))] []
      have hr : LB (aB (aB (aB s (bLoad ((pr (r)).2.1))) (bPush ((pr (r)).2.2))) (bIx 164 8)) 9 := hr.app (Nat.le_of_ble_eq_true rfl)
      refine g_aload_n (n := 279) hX dX0_writeRow_278 rfl rfl rfl ?_
      refine g_aload_n (n := 280) hX dX0_writeRow_279 rfl rfl rfl ?_
      refine g_pget (n := 283) ux_X4 rfl hX hU dX0_writeRow_280 rfl (hro (r) (by omega) (by omega)).1 ((fw_o (hro (r) (by omega) (by omega)).2.2.1).trans (hro (r) (by omega) (by omega)).2.1) 1 rfl uf_X0_174 rfl ?_
      refine g_bipush (n := 285) (v := 23) hX dX0_writeRow_283 rfl rfl ?_
      refine g_pcallV (n := 288) (As := [.int ((pr (r)).2.1), .int 23]) (rest := []) hX hE hU hY dX0_writeRow_285 rfl yv_X0_hand um_X0_186 (f_hand _ _ K L f F B T (aB (aB (aB s (bLoad ((pr (r)).2.1))) (bPush ((pr (r)).2.2))) (bIx 164 8)) ((pr (r)).2.1) 23 hF (hr.le (by decide))) ⟨rfl, rfl⟩ (rm_le hRm rfl rfl) rfl hF.1 fw_F rfl rfl rfl (Nat.le_of_ble_eq_true rfl) ⟨Nat.zero_le _, Nat.zero_le _⟩ (fun v0 w0 hq0 => ?_)
      obtain ⟨rfl, rfl⟩ := hq0
      show G Γ (va_pl L (fw K f F B T (aB (aB (aB (aB s (bLoad ((pr (r)).2.1))) (bPush ((pr (r)).2.2))) (bIx 164 8)) (bHand ((pr (r)).2.1) 23)))) 0 0 288 [(0, .ref F), (1, .ref (RO r)), (2, .int (nI (bg pr fr la r)))] []
      have hr : LB (aB (aB (aB (aB s (bLoad ((pr (r)).2.1))) (bPush ((pr (r)).2.2))) (bIx 164 8)) (bHand ((pr (r)).2.1) 23)) 4 := hr.app (Nat.le_of_ble_eq_true rfl)
      refine g_goto (n := 340) hX dX0_writeRow_288 (by decide) ?_
      exact g_vret hX hR dX0_writeRow_340 ⟨rfl, by rw [bRow_13 hxe]; simp only [bAddr, bHand, bIx, bWords, ← aB_aB]⟩

