/-! members -/
def ms (s : FS) (fr la : Nat) (pr : PR) : Prop := s.2.2.1 = nI fr ∧ s.2.2.2.1 = nI la ∧ ∀ i, fr + i ≤ la → s.2.2.2.2 i = nI (bg pr fr la (fr + i))
theorem ms_ap {s : FS} {fr la : Nat} {pr : PR} (h : ms s fr la pr) (bs : List Int32) : ms (aB s bs) fr la pr := by unfold ms; rw [aB_rest]; exact h
def fI (x : Int32) : Option Value := some (.int x)
theorem fI_e {x y : Int32} (h : x = y) : fI x = fI y := congrArg fI h
/-- a program in the pool, with its rows 1 to n -/
def prOk (K : Nat → ClassId) (L : List Nat) (f : Nat → va_E) (F B T P ra cnt : Nat) (p : Nat) (z sf : Int32) (g : Nat → Option Nat) (RO : Nat → Nat) (pr : PR) (n : Nat) : Prop :=
  P ∈ L ∧ f P = .inr (5, [.int (nI p), .int z, .int sf, .ref ra, .int (nI cnt)]) ∧ nf F B T P ∧ ra ∈ L ∧ f ra = .inl (K 5, 60, rE g) ∧ nf F B T ra ∧ cnt ≤ 60 ∧ n ≤ cnt ∧ (∀ r, 1 ≤ r → r ≤ n → g (r - 1) = some (RO r)) ∧ (∀ r, 1 ≤ r → r ≤ n → RO r ∈ L ∧ f (RO r) = .inr (6, [.int (pr r).1, .int (pr r).2.1, .int (pr r).2.2]) ∧ nf F B T (RO r) ∧ opOk (pr r).1)
theorem row_at {g : Nat → Option Nat} {RO : Nat → Nat} {n cnt r : Nat} (hg : ∀ r, 1 ≤ r → r ≤ n → g (r - 1) = some (RO r)) (h1 : 1 ≤ r) (h2 : r ≤ n) (hn : n ≤ cnt) (hc : cnt ≤ 60) : (if 1 ≤ nI r ∧ nI r ≤ nI cnt then g ((nI r).toNatClampNeg - 1) else none) = some (RO r) := by
  rw [if_pos ⟨nI_le (a := 1) (b := r) h1 (by omega), nI_le (a := r) (b := cnt) (by omega) (by omega)⟩, nI_clamp (by omega)]
  exact hg r h1 h2
def fxO (o : Int32) : Int32 := [8, 12, 20, 20, 20, 20, 20, 16, 9, 0, 5, 5, 5, 16].getD o.toNatClampNeg 0
theorem op_cs {o : Int32} (h : opOk o) : o = 0 ∨ o = 1 ∨ o = 2 ∨ o = 3 ∨ o = 4 ∨ o = 5 ∨ o = 6 ∨ o = 7 ∨ o = 8 ∨ o = 9 ∨ o = 10 ∨ o = 11 ∨ o = 12 ∨ o = 13 := by
  obtain ⟨h1, h2⟩ := h
  rcases (show o.toInt = 0 ∨ o.toInt = 1 ∨ o.toInt = 2 ∨ o.toInt = 3 ∨ o.toInt = 4 ∨ o.toInt = 5 ∨ o.toInt = 6 ∨ o.toInt = 7 ∨ o.toInt = 8 ∨ o.toInt = 9 ∨ o.toInt = 10 ∨ o.toInt = 11 ∨ o.toInt = 12 ∨ o.toInt = 13 by omega) with h | h | h | h | h | h | h | h | h | h | h | h | h | h
  · exact Or.inl (sw_val h rfl)
  · exact Or.inr (Or.inl (sw_val h rfl))
  · exact Or.inr (Or.inr (Or.inl (sw_val h rfl)))
  · exact Or.inr (Or.inr (Or.inr (Or.inl (sw_val h rfl))))
  · exact Or.inr (Or.inr (Or.inr (Or.inr (Or.inl (sw_val h rfl)))))
  · exact Or.inr (Or.inr (Or.inr (Or.inr (Or.inr (Or.inl (sw_val h rfl))))))
  · exact Or.inr (Or.inr (Or.inr (Or.inr (Or.inr (Or.inr (Or.inl (sw_val h rfl)))))))
  · exact Or.inr (Or.inr (Or.inr (Or.inr (Or.inr (Or.inr (Or.inr (Or.inl (sw_val h rfl))))))))
  · exact Or.inr (Or.inr (Or.inr (Or.inr (Or.inr (Or.inr (Or.inr (Or.inr (Or.inl (sw_val h rfl)))))))))
  · exact Or.inr (Or.inr (Or.inr (Or.inr (Or.inr (Or.inr (Or.inr (Or.inr (Or.inr (Or.inl (sw_val h rfl))))))))))
  · exact Or.inr (Or.inr (Or.inr (Or.inr (Or.inr (Or.inr (Or.inr (Or.inr (Or.inr (Or.inr (Or.inl (sw_val h rfl)))))))))))
  · exact Or.inr (Or.inr (Or.inr (Or.inr (Or.inr (Or.inr (Or.inr (Or.inr (Or.inr (Or.inr (Or.inr (Or.inl (sw_val h rfl))))))))))))
  · exact Or.inr (Or.inr (Or.inr (Or.inr (Or.inr (Or.inr (Or.inr (Or.inr (Or.inr (Or.inr (Or.inr (Or.inr (Or.inl (sw_val h rfl)))))))))))))
  · exact Or.inr (Or.inr (Or.inr (Or.inr (Or.inr (Or.inr (Or.inr (Or.inr (Or.inr (Or.inr (Or.inr (Or.inr (Or.inr ((sw_val h rfl))))))))))))))
theorem ln_j {o : Int32} (h : o = 8 ∨ o = 9) (b f l : Int32) : fxO o + nI (goN b f l) = nI (lnO o b f l) := by
  rcases h with rfl | rfl
  · exact (nI_add 9 (goN b f l)).trans (congrArg nI (by unfold lnO; rfl))
  · exact (nI_add 0 (goN b f l)).trans (congrArg nI ((Nat.zero_add _).trans (by unfold lnO; rfl)))
theorem ln_n {o : Int32} (ho : opOk o) (h8 : ¬ o = 8) (h9 : ¬ o = 9) (b f l : Int32) : fxO o = nI (lnO o b f l) := by
  rcases op_cs ho with rfl | rfl | rfl | rfl | rfl | rfl | rfl | rfl | rfl | rfl | rfl | rfl | rfl | rfl
  all_goals first | rfl | exact absurd rfl h8 | exact absurd rfl h9
set_option maxHeartbeats 4000000 in
set_option maxRecDepth 100000 in
theorem f_jump (l : Launch) (D : va_G) (K : Nat → ClassId) (L : List Nat) (f : Nat → va_E) (F B T : Nat) (s : FS) (pr : PR) (fr la pl : Nat) (b : Int32) (hF : fOk L F B T) (hr : LB s 4) (hs : ms s fr la pr) (hl1 : fr ≤ la) (hl2 : la ≤ fr + 9) (hl3 : la ≤ 60) : Mc l yX0_jump (wM yX0_jump cX0_jump 4 none) (rmL 2 0 0) D (yY K) [.ref F, .int b, .int (nI pl)] (va_pl L (fw K f F B T s)) (fun v w => v = none ∧ w = va_pl L (fw K f F B T (aB s (bGo pr fr la b pl)))) 0 0 := by
  refine m_start (lv := [(0, .ref F), (1, .int b), (2, .int (nI pl))]) rfl (Nat.le_of_ble_eq_true rfl) rfl (fun Γ hX hRm hnL hY hDD hLa hR hI hE => ?_)
  have hU : ∀ w ∈ wU, w ∈ wM yX0_jump cX0_jump 4 none := fun w h => wM_in h
  subst hLa
  subst hDD
  by_cases hin : nI fr ≤ b ∧ b ≤ nI la
  · obtain ⟨b1, hb1, hb2, rfl⟩ := in_nI (f := fr) (by omega) hin (by omega)
    refine g_iload_n (n := 1) hX dX0_jump_0 rfl rfl rfl ?_
    refine g_aload_n (n := 2) hX dX0_jump_1 rfl rfl rfl ?_
    refine g_fget (n := 5) 3 (v := .int (nI fr)) hX hU hF dX0_jump_2 rfl rfl uf_X0_52 (fI_e hs.1) ?_
    refine g_isub (n := 6) (v := nI (b1 - fr)) hX dX0_jump_5 rfl (pk_sub hb1) ?_
    refine g_istore_n (lv' := [(3, .int (nI (b1 - fr))), (0, .ref F), (1, .int (nI b1)), (2, .int (nI pl))]) (n := 7) hX dX0_jump_6 rfl rfl (by rw [hnL]; rfl) rfl ?_
    refine g_aload_n (n := 8) hX dX0_jump_7 rfl rfl rfl ?_
    refine g_iload_n (n := 9) hX dX0_jump_8 rfl rfl rfl ?_
    refine g_pcallV (n := 12) (As := [.int (nI b1)]) (rest := []) hX hE hU hY dX0_jump_9 rfl yv_X0_isInside um_X0_170 (f_isInside _ _ K L f F B T s (nI b1) hF) ⟨rfl, rfl⟩ (rm_le hRm rfl rfl) rfl hF.1 fw_F rfl rfl rfl (Nat.le_of_ble_eq_true rfl) ⟨Nat.zero_le _, Nat.zero_le _⟩ (fun v0 w0 hq0 => ?_)
    obtain ⟨rfl, rfl⟩ := hq0; rw [hs.1, hs.2.1]
    show G Γ (va_pl L (fw K f F B T s)) 0 0 12 [(3, .int (nI (b1 - fr))), (0, .ref F), (1, .int (nI b1)), (2, .int (nI pl))] [.int (bI (nI fr ≤ nI b1 ∧ nI b1 ≤ nI la))]
    refine g_if_eq (n := 15) (tgt := 46) hX dX0_jump_12 rfl (by decide) (fun c12 => absurd c12 (fun h9 => bI_z.mp h9 hin)) (fun c12 => ?_)
    refine g_iload_n (n := 16) hX dX0_jump_15 rfl rfl rfl ?_
    refine g_if_lt (n := 19) (tgt := 46) hX dX0_jump_16 rfl (by decide) (fun c16 => absurd c16 (nI_pos (by omega))) (fun c16 => ?_)
    refine g_iload_n (n := 20) hX dX0_jump_19 rfl rfl rfl ?_
    refine g_aload_n (n := 21) hX dX0_jump_20 rfl rfl rfl ?_
    refine g_fget (n := 24) 1 (v := .ref T) hX hU hF dX0_jump_21 rfl rfl uf_X0_15 rfl ?_
    refine g_flenT (n := 25) hX hY hF dX0_jump_24 rfl ?_
    refine g_icmp_ge (n := 28) (tgt := 46) hX dX0_jump_25 rfl (by decide) (fun c25 => absurd c25 (nI_ge (a := b1 - fr) (b := 11) (by omega) (by decide))) (fun c25 => ?_)
    refine g_aload_n (n := 29) hX dX0_jump_28 rfl rfl rfl ?_
    refine g_sipush (n := 32) (v := 167) hX dX0_jump_29 rfl rfl ?_
    refine g_aload_n (n := 33) hX dX0_jump_32 rfl rfl rfl ?_
    refine g_fget (n := 36) 1 (v := .ref T) hX hU hF dX0_jump_33 rfl rfl uf_X0_15 rfl ?_
    refine g_iload_n (n := 37) hX dX0_jump_36 rfl rfl rfl ?_
    refine g_fild (n := 38) (v := nI (bg pr fr la b1)) hX hY hF dX0_jump_37 rfl (vp_in_nI (by omega) (by decide)) (by rw [nI_clamp (by omega), hs.2.2 (b1 - fr) (by omega), show fr + (b1 - fr) = b1 by omega]) ?_
    refine g_iload_n (n := 39) hX dX0_jump_38 rfl rfl rfl ?_
    refine g_isub (n := 40) (v := (nI (bg pr fr la b1)) - (nI pl)) hX dX0_jump_39 rfl rfl ?_
    refine g_pcallV (n := 43) (As := [.int 167, .int ((nI (bg pr fr la b1)) - (nI pl))]) (rest := []) hX hE hU hY dX0_jump_40 rfl yv_X0_withIndex um_X0_134 (f_withIndex _ _ K L f F B T s 167 ((nI (bg pr fr la b1)) - (nI pl)) hF (hr.le (by decide))) ⟨rfl, rfl⟩ (rm_le hRm rfl rfl) rfl hF.1 fw_F rfl rfl rfl (Nat.le_of_ble_eq_true rfl) ⟨Nat.zero_le _, Nat.zero_le _⟩ (fun v0 w0 hq0 => ?_)
    obtain ⟨rfl, rfl⟩ := hq0
    show G Γ (va_pl L (fw K f F B T (aB s (bIx 167 ((nI (bg pr fr la b1)) - (nI pl)))))) 0 0 43 [(3, .int (nI (b1 - fr))), (0, .ref F), (1, .int (nI b1)), (2, .int (nI pl))] []
    have hr : LB (aB s (bIx 167 ((nI (bg pr fr la b1)) - (nI pl)))) 1 := hr.app (Nat.le_of_ble_eq_true rfl)
    refine g_goto (n := 60) hX dX0_jump_43 (by decide) ?_
    exact g_vret hX hR dX0_jump_60 ⟨rfl, by rw [bGo, if_pos hin, nI_clamp (by omega)]; rfl⟩
  · refine g_iload_n (n := 1) hX dX0_jump_0 rfl rfl rfl ?_
    refine g_aload_n (n := 2) hX dX0_jump_1 rfl rfl rfl ?_
    refine g_fget (n := 5) 3 (v := .int (nI fr)) hX hU hF dX0_jump_2 rfl rfl uf_X0_52 (fI_e hs.1) ?_
    refine g_isub (n := 6) (v := b - (nI fr)) hX dX0_jump_5 rfl rfl ?_
    refine g_istore_n (lv' := [(3, .int (b - (nI fr))), (0, .ref F), (1, .int b), (2, .int (nI pl))]) (n := 7) hX dX0_jump_6 rfl rfl (by rw [hnL]; rfl) rfl ?_
    refine g_aload_n (n := 8) hX dX0_jump_7 rfl rfl rfl ?_
    refine g_iload_n (n := 9) hX dX0_jump_8 rfl rfl rfl ?_
    refine g_pcallV (n := 12) (As := [.int b]) (rest := []) hX hE hU hY dX0_jump_9 rfl yv_X0_isInside um_X0_170 (f_isInside _ _ K L f F B T s b hF) ⟨rfl, rfl⟩ (rm_le hRm rfl rfl) rfl hF.1 fw_F rfl rfl rfl (Nat.le_of_ble_eq_true rfl) ⟨Nat.zero_le _, Nat.zero_le _⟩ (fun v0 w0 hq0 => ?_)
    obtain ⟨rfl, rfl⟩ := hq0; rw [hs.1, hs.2.1]
    show G Γ (va_pl L (fw K f F B T s)) 0 0 12 [(3, .int (b - (nI fr))), (0, .ref F), (1, .int b), (2, .int (nI pl))] [.int (bI (nI fr ≤ b ∧ b ≤ nI la))]
    refine g_if_eq (n := 15) (tgt := 46) hX dX0_jump_12 rfl (by decide) (fun c12 => ?_) (fun c12 => absurd (bI_z.mpr hin) c12)
    refine g_aload_n (n := 47) hX dX0_jump_46 rfl rfl rfl ?_
    refine g_bipush (n := 49) (v := 17) hX dX0_jump_47 rfl rfl ?_
    refine g_iload_n (n := 50) hX dX0_jump_49 rfl rfl rfl ?_
    refine g_pcallV (n := 53) (As := [.int 17, .int b]) (rest := []) hX hE hU hY dX0_jump_50 rfl yv_X0_withIndex um_X0_134 (f_withIndex _ _ K L f F B T s 17 b hF (hr.le (by decide))) ⟨rfl, rfl⟩ (rm_le hRm rfl rfl) rfl hF.1 fw_F rfl rfl rfl (Nat.le_of_ble_eq_true rfl) ⟨Nat.zero_le _, Nat.zero_le _⟩ (fun v0 w0 hq0 => ?_)
    obtain ⟨rfl, rfl⟩ := hq0
    show G Γ (va_pl L (fw K f F B T (aB s (bIx 17 b)))) 0 0 53 [(3, .int (b - (nI fr))), (0, .ref F), (1, .int b), (2, .int (nI pl))] []
    have hr : LB (aB s (bIx 17 b)) 1 := hr.app (Nat.le_of_ble_eq_true rfl)
    refine g_aload_n (n := 54) hX dX0_jump_53 rfl rfl rfl ?_
    refine g_sipush (n := 57) (v := 172) hX dX0_jump_54 rfl rfl ?_
    refine g_pcallV (n := 60) (As := [.int 172]) (rest := []) hX hE hU hY dX0_jump_57 rfl yv_X0_u1 um_X0_126 (f_u1 _ _ K L f F B T (aB s (bIx 17 b)) 172 hF (hr.le (by decide))) ⟨rfl, rfl⟩ (rm_le hRm rfl rfl) rfl hF.1 fw_F rfl rfl rfl (Nat.le_of_ble_eq_true rfl) ⟨Nat.zero_le _, Nat.zero_le _⟩ (fun v0 w0 hq0 => ?_)
    obtain ⟨rfl, rfl⟩ := hq0
    show G Γ (va_pl L (fw K f F B T (aB (aB s (bIx 17 b)) ([172])))) 0 0 60 [(3, .int (b - (nI fr))), (0, .ref F), (1, .int b), (2, .int (nI pl))] []
    have hr : LB (aB (aB s (bIx 17 b)) ([172])) 0 := hr.app (Nat.le_of_ble_eq_true rfl)
    exact g_vret hX hR dX0_jump_60 ⟨rfl, by rw [bGo, if_neg hin, aB_aB]; rfl⟩

theorem op_in {o : Int32} (ho : opOk o) : vp_in o 14 := by
  rcases op_cs ho with rfl | rfl | rfl | rfl | rfl | rfl | rfl | rfl | rfl | rfl | rfl | rfl | rfl | rfl
  all_goals exact vp_in_nI (by decide) (by decide)
set_option maxHeartbeats 4000000 in
set_option maxRecDepth 100000 in
theorem f_lengthOf (l : Launch) (D : va_G) (K : Nat → ClassId) (L : List Nat) (f : Nat → va_E) (F B T : Nat) (s : FS) (rw : Nat) (o a b : Int32) (hrm : rw ∈ L) (hre : f rw = .inr (6, [.int o, .int a, .int b])) (hrn : nf F B T rw) (ho : opOk o) (hF : fOk L F B T) : Mc l yX0_lengthOf (wM yX0_lengthOf cX0_lengthOf 4 (some .int)) (rmL 2 0 0) D (yY K) [.ref F, .ref rw] (va_pl L (fw K f F B T s)) (fun v w => v = some (.int (nI (lnO o b s.2.2.1 s.2.2.2.1))) ∧ w = va_pl L (fw K f F B T s)) 0 0 := by
  refine m_start (lv := [(0, .ref F), (1, .ref rw)]) rfl (Nat.le_of_ble_eq_true rfl) rfl (fun Γ hX hRm hnL hY hDD hLa hR hI hE => ?_)
  have hU : ∀ w ∈ wU, w ∈ wM yX0_lengthOf cX0_lengthOf 4 (some .int) := fun w h => wM_in h
  subst hLa
  subst hDD
  refine g_aload_n (n := 1) hX dX0_lengthOf_0 rfl rfl rfl ?_
  refine g_pget (n := 4) ux_X4 rfl hX hU dX0_lengthOf_1 rfl hrm ((fw_o hrn).trans hre) 0 rfl uf_X0_156 rfl ?_
  refine g_if_lt (n := 7) (tgt := 29) hX dX0_lengthOf_4 rfl (by decide) (fun c4 => absurd c4 (Int32.not_lt.mpr (Int32.le_iff_toInt_le.mpr ho.1))) (fun c4 => ?_)
  refine g_aload_n (n := 8) hX dX0_lengthOf_7 rfl rfl rfl ?_
  refine g_pget (n := 11) ux_X4 rfl hX hU dX0_lengthOf_8 rfl hrm ((fw_o hrn).trans hre) 0 rfl uf_X0_156 rfl ?_
  refine g_getsT (n := 14) hX hE hU dX0_lengthOf_11 rfl uf_X0_161 ?_
  refine g_tlenT (n := 15) hX hE dX0_lengthOf_14 rfl ?_
  refine g_icmp_ge (n := 18) (tgt := 29) hX dX0_lengthOf_15 rfl (by decide) (fun c15 => absurd c15 (Int32.not_le.mpr (Int32.lt_iff_toInt_lt.mpr (show o.toInt < 14 by have := ho.2; omega)))) (fun c15 => ?_)
  refine g_getsT (n := 21) hX hE hU dX0_lengthOf_18 rfl uf_X0_161 ?_
  refine g_aload_n (n := 22) hX dX0_lengthOf_21 rfl rfl rfl ?_
  refine g_pget (n := 25) ux_X4 rfl hX hU dX0_lengthOf_22 rfl hrm ((fw_o hrn).trans hre) 0 rfl uf_X0_156 rfl ?_
  refine g_tldT (n := 26) (v := fxO o) hX hE dX0_lengthOf_25 rfl (op_in ho) rfl ?_
  refine g_goto (n := 30) hX dX0_lengthOf_26 (by decide) ?_
  refine g_istore_n (lv' := [(2, .int (fxO o)), (0, .ref F), (1, .ref rw)]) (n := 31) hX dX0_lengthOf_30 rfl rfl (by rw [hnL]; rfl) rfl ?_
  refine g_aload_n (n := 32) hX dX0_lengthOf_31 rfl rfl rfl ?_
  refine g_pget (n := 35) ux_X4 rfl hX hU dX0_lengthOf_32 rfl hrm ((fw_o hrn).trans hre) 0 rfl uf_X0_156 rfl ?_
  refine g_bipush (n := 37) (v := 8) hX dX0_lengthOf_35 rfl rfl ?_
  refine g_icmp_eq (n := 40) (tgt := 49) hX dX0_lengthOf_37 rfl (by decide) (fun c37 => ?_) (fun c37 => ?_)
  · refine g_iconst (n := 50) (v := 1) hX dX0_lengthOf_49 rfl rfl ?_
    refine g_goto (n := 54) hX dX0_lengthOf_50 (by decide) ?_
    refine g_istore_n (lv' := [(3, .int 1), (2, .int (fxO o)), (0, .ref F), (1, .ref rw)]) (n := 55) hX dX0_lengthOf_54 rfl rfl (by rw [hnL]; rfl) rfl ?_
    refine g_iload_n (n := 56) hX dX0_lengthOf_55 rfl rfl rfl ?_
    refine g_if_eq (n := 59) (tgt := 72) hX dX0_lengthOf_56 rfl (by decide) (fun c56 => absurd c56 (by decide)) (fun c56 => ?_)
    refine g_iload_n (n := 60) hX dX0_lengthOf_59 rfl rfl rfl ?_
    refine g_aload_n (n := 61) hX dX0_lengthOf_60 rfl rfl rfl ?_
    refine g_aload_n (n := 62) hX dX0_lengthOf_61 rfl rfl rfl ?_
    refine g_pget (n := 65) ux_X4 rfl hX hU dX0_lengthOf_62 rfl hrm ((fw_o hrn).trans hre) 2 rfl uf_X0_164 rfl ?_
    refine g_pcallV (n := 68) (As := [.int b]) (rest := [.int (fxO o)]) hX hE hU hY dX0_lengthOf_65 rfl yv_X0_jumpLength um_X0_167 (f_jumpLength _ _ K L f F B T s b hF) ⟨rfl, rfl⟩ (rm_le hRm rfl rfl) rfl hF.1 fw_F rfl rfl rfl (Nat.le_of_ble_eq_true rfl) ⟨Nat.zero_le _, Nat.zero_le _⟩ (fun v0 w0 hq0 => ?_)
    obtain ⟨rfl, rfl⟩ := hq0
    show G Γ (va_pl L (fw K f F B T s)) 0 0 68 [(3, .int 1), (2, .int (fxO o)), (0, .ref F), (1, .ref rw)] [.int (nI (goN b s.2.2.1 s.2.2.2.1)), .int (fxO o)]
    refine g_iadd (n := 69) (v := (fxO o) + (nI (goN b s.2.2.1 s.2.2.2.1))) hX dX0_lengthOf_68 rfl rfl ?_
    refine g_goto (n := 73) hX dX0_lengthOf_69 (by decide) ?_
    exact g_iret hX hR dX0_lengthOf_73 ⟨by rw [ln_j (Or.inl c37)], rfl⟩
  · refine g_aload_n (n := 41) hX dX0_lengthOf_40 rfl rfl rfl ?_
    refine g_pget (n := 44) ux_X4 rfl hX hU dX0_lengthOf_41 rfl hrm ((fw_o hrn).trans hre) 0 rfl uf_X0_156 rfl ?_
    refine g_bipush (n := 46) (v := 9) hX dX0_lengthOf_44 rfl rfl ?_
    refine g_icmp_ne (n := 49) (tgt := 53) hX dX0_lengthOf_46 rfl (by decide) (fun c46 => ?_) (fun c46 => ?_)
    · refine g_iconst (n := 54) (v := 0) hX dX0_lengthOf_53 rfl rfl ?_
      refine g_istore_n (lv' := [(3, .int 0), (2, .int (fxO o)), (0, .ref F), (1, .ref rw)]) (n := 55) hX dX0_lengthOf_54 rfl rfl (by rw [hnL]; rfl) rfl ?_
      refine g_iload_n (n := 56) hX dX0_lengthOf_55 rfl rfl rfl ?_
      refine g_if_eq (n := 59) (tgt := 72) hX dX0_lengthOf_56 rfl (by decide) (fun c56 => ?_) (fun c56 => absurd rfl c56)
      refine g_iload_n (n := 73) hX dX0_lengthOf_72 rfl rfl rfl ?_
      exact g_iret hX hR dX0_lengthOf_73 ⟨by rw [ln_n ho c37 c46], rfl⟩
    · refine g_iconst (n := 50) (v := 1) hX dX0_lengthOf_49 rfl rfl ?_
      refine g_goto (n := 54) hX dX0_lengthOf_50 (by decide) ?_
      refine g_istore_n (lv' := [(3, .int 1), (2, .int (fxO o)), (0, .ref F), (1, .ref rw)]) (n := 55) hX dX0_lengthOf_54 rfl rfl (by rw [hnL]; rfl) rfl ?_
      refine g_iload_n (n := 56) hX dX0_lengthOf_55 rfl rfl rfl ?_
      refine g_if_eq (n := 59) (tgt := 72) hX dX0_lengthOf_56 rfl (by decide) (fun c56 => absurd c56 (by decide)) (fun c56 => ?_)
      refine g_iload_n (n := 60) hX dX0_lengthOf_59 rfl rfl rfl ?_
      refine g_aload_n (n := 61) hX dX0_lengthOf_60 rfl rfl rfl ?_
      refine g_aload_n (n := 62) hX dX0_lengthOf_61 rfl rfl rfl ?_
      refine g_pget (n := 65) ux_X4 rfl hX hU dX0_lengthOf_62 rfl hrm ((fw_o hrn).trans hre) 2 rfl uf_X0_164 rfl ?_
      refine g_pcallV (n := 68) (As := [.int b]) (rest := [.int (fxO o)]) hX hE hU hY dX0_lengthOf_65 rfl yv_X0_jumpLength um_X0_167 (f_jumpLength _ _ K L f F B T s b hF) ⟨rfl, rfl⟩ (rm_le hRm rfl rfl) rfl hF.1 fw_F rfl rfl rfl (Nat.le_of_ble_eq_true rfl) ⟨Nat.zero_le _, Nat.zero_le _⟩ (fun v0 w0 hq0 => ?_)
      obtain ⟨rfl, rfl⟩ := hq0
      show G Γ (va_pl L (fw K f F B T s)) 0 0 68 [(3, .int 1), (2, .int (fxO o)), (0, .ref F), (1, .ref rw)] [.int (nI (goN b s.2.2.1 s.2.2.2.1)), .int (fxO o)]
      refine g_iadd (n := 69) (v := (fxO o) + (nI (goN b s.2.2.1 s.2.2.2.1))) hX dX0_lengthOf_68 rfl rfl ?_
      refine g_goto (n := 73) hX dX0_lengthOf_69 (by decide) ?_
      exact g_iret hX hR dX0_lengthOf_73 ⟨by rw [ln_j (Or.inr c46)], rfl⟩

