theorem bNum_len (c n : Int32) : (bNum c n).length ≤ 6 := by
  unfold bNum
  split <;> split <;> simp [b2]
def bTx (i : Nat) : List Int32 := [1] ++ b2 (nI (sLen.getD i 0)) ++ sByt.getD i []
theorem drop_cons {l : List Int32} {k : Nat} (h : k < l.length) : l.drop k = l.getD k 0 :: l.drop (k + 1) := by
  rw [List.drop_eq_getElem_cons h]
  congr 1
  simp [h]
set_option maxHeartbeats 4000000 in
set_option maxRecDepth 100000 in
theorem lp_text {Γ : gT} {K : Nat → ClassId} {L : List Nat} {f : Nat → va_E} {F B T : Nat} (hX : gOk Γ cX0_text (wM yX0_text cX0_text 3 none) RX0) (hE : gEv Γ) (hRm : gRm Γ = rmL 4 0 0) (hnL : gnL Γ = 3) (hY : gY Γ = yY K) (hF : fOk L F B T) (i : Nat) (hi18 : Nat.blt i 18 = true) (q : Nat) : ∀ (j k : Nat) (s : FS), k + j = sLen.getD i 0 → LB s (j + q) → G Γ (va_pl L (fw K f F B T (aB s ((sByt.getD i []).drop k)))) 0 0 38 [(2, .int (nI (sLen.getD i 0))), (0, .ref F), (1, .ref (eK (gD Γ) i))] [] → G Γ (va_pl L (fw K f F B T s)) 0 0 15 [(2, .int (nI k)), (0, .ref F), (1, .ref (eK (gD Γ) i))] [] := by
  have hU : ∀ w ∈ wU, w ∈ wM yX0_text cX0_text 3 none := fun w h => wM_in h
  have hl20 := sTab_len i (Nat.blt_eq ▸ hi18)
  intro j
  induction j with
  | zero =>
    intro k s hk hr hk0
    have hkk : k = sLen.getD i 0 := by omega
    subst hkk
    rw [List.drop_of_length_le (by omega)] at hk0
    have hk0 : G Γ (va_pl L (fw K f F B T s)) 0 0 38 [(2, .int (nI (sLen.getD i 0))), (0, .ref F), (1, .ref (eK (gD Γ) i))] [] := hk0
    refine g_iload_n (n := 16) hX dX0_text_15 rfl rfl rfl ?_
    refine g_aload_n (n := 17) hX dX0_text_16 rfl rfl rfl ?_
    refine g_scallV (n := 20) (As := []) (rest := [.int (nI (sLen.getD i 0))]) i hi18 hX hE hU hY dX0_text_17 rfl yv_J0_length_8abf5 um_X0_192 (j_length _ _ K (va_pl L (fw K f F B T s)) i hi18) ⟨rfl, rfl⟩ (rm_le hRm rfl rfl) rfl rfl (Nat.le_of_ble_eq_true rfl) ⟨Nat.zero_le _, Nat.zero_le _⟩ (fun v0 w0 hq0 => ?_)
    obtain ⟨rfl, hw0⟩ := hq0; rw [hw0]
    show G Γ (va_pl L (fw K f F B T s)) 0 0 20 [(2, .int (nI (sLen.getD i 0))), (0, .ref F), (1, .ref (eK (gD Γ) i))] [.int (nI (sLen.getD i 0)), .int (nI (sLen.getD i 0))]
    refine g_icmp_ge (n := 23) (tgt := 38) hX dX0_text_20 rfl (by decide) (fun c20 => ?_) (fun c20 => absurd (nI_le (a := sLen.getD i 0) (b := sLen.getD i 0) (Nat.le_refl _) (by omega)) c20)
    exact hk0
  | succ j ih =>
    intro k s hk hr hk0
    refine g_iload_n (n := 16) hX dX0_text_15 rfl rfl rfl ?_
    refine g_aload_n (n := 17) hX dX0_text_16 rfl rfl rfl ?_
    refine g_scallV (n := 20) (As := []) (rest := [.int (nI k)]) i hi18 hX hE hU hY dX0_text_17 rfl yv_J0_length_8abf5 um_X0_192 (j_length _ _ K (va_pl L (fw K f F B T s)) i hi18) ⟨rfl, rfl⟩ (rm_le hRm rfl rfl) rfl rfl (Nat.le_of_ble_eq_true rfl) ⟨Nat.zero_le _, Nat.zero_le _⟩ (fun v0 w0 hq0 => ?_)
    obtain ⟨rfl, hw0⟩ := hq0; rw [hw0]
    show G Γ (va_pl L (fw K f F B T s)) 0 0 20 [(2, .int (nI k)), (0, .ref F), (1, .ref (eK (gD Γ) i))] [.int (nI (sLen.getD i 0)), .int (nI k)]
    refine g_icmp_ge (n := 23) (tgt := 38) hX dX0_text_20 rfl (by decide) (fun c20 => absurd c20 (nI_ge (a := k) (b := sLen.getD i 0) (by omega) (by omega))) (fun c20 => ?_)
    refine g_aload_n (n := 24) hX dX0_text_23 rfl rfl rfl ?_
    refine g_aload_n (n := 25) hX dX0_text_24 rfl rfl rfl ?_
    refine g_iload_n (n := 26) hX dX0_text_25 rfl rfl rfl ?_
    refine g_scallV (n := 29) (As := [.int (nI k)]) (rest := [.ref F]) i hi18 hX hE hU hY dX0_text_26 rfl yv_J0_charAt_5068e um_X0_197 (j_charAt _ _ K (va_pl L (fw K f F B T s)) i hi18 k (by omega)) ⟨rfl, rfl⟩ (rm_le hRm rfl rfl) rfl rfl (Nat.le_of_ble_eq_true rfl) ⟨Nat.zero_le _, Nat.zero_le _⟩ (fun v0 w0 hq0 => ?_)
    obtain ⟨rfl, hw0⟩ := hq0; rw [hw0]
    show G Γ (va_pl L (fw K f F B T s)) 0 0 29 [(2, .int (nI k)), (0, .ref F), (1, .ref (eK (gD Γ) i))] [.int ((sByt.getD i []).getD k 0), .ref F]
    refine g_pcallV (n := 32) (As := [.int ((sByt.getD i []).getD k 0)]) (rest := []) hX hE hU hY dX0_text_29 rfl yv_X0_u1 um_X0_126 (f_u1 _ _ K L f F B T s ((sByt.getD i []).getD k 0) hF (hr.le (by omega))) ⟨rfl, rfl⟩ (rm_le hRm rfl rfl) rfl hF.1 fw_F rfl rfl rfl (Nat.le_of_ble_eq_true rfl) ⟨Nat.zero_le _, Nat.zero_le _⟩ (fun v0 w0 hq0 => ?_)
    obtain ⟨rfl, rfl⟩ := hq0
    show G Γ (va_pl L (fw K f F B T (aB s [(sByt.getD i []).getD k 0]))) 0 0 32 [(2, .int (nI k)), (0, .ref F), (1, .ref (eK (gD Γ) i))] []
    have hr : LB (aB s [(sByt.getD i []).getD k 0]) (j + q) := hr.app (by show 1 + (j + q) ≤ j + 1 + q; omega)
    refine g_iinc (n := 35) (v := nI (k + 1)) (lv' := [(2, .int (nI (k + 1))), (0, .ref F), (1, .ref (eK (gD Γ) i))]) hX dX0_text_32 rfl rfl (nI_add k 1) (by rw [hnL]; rfl) rfl ?_
    refine g_goto (n := 15) hX dX0_text_35 (by decide) ?_
    refine g_pick (lv' := [(2, .int (nI (k + 1))), (0, .ref F), (1, .ref (eK (gD Γ) i))]) [0, 1, 2] rfl ?_
    refine ih (k + 1) _ (by omega) hr ?_
    rw [drop_cons (l := sByt.getD i []) (k := k) (by omega)] at hk0
    exact hk0
set_option maxHeartbeats 4000000 in
set_option maxRecDepth 100000 in
theorem f_text (l : Launch) (D : va_G) (K : Nat → ClassId) (L : List Nat) (f : Nat → va_E) (F B T : Nat) (s : FS) (i : Nat) (hi18 : Nat.blt i 18 = true) (hF : fOk L F B T) (hr : LB s (3 + sLen.getD i 0)) : Mc l yX0_text (wM yX0_text cX0_text 3 none) (rmL 4 0 0) D (yY K) [.ref F, .ref (eK D i)] (va_pl L (fw K f F B T s)) (fun v w => v = none ∧ w = va_pl L (fw K f F B T (aB s (bTx i)))) 0 0 := by
  refine m_start (lv := [(0, .ref F), (1, .ref (eK D i))]) rfl (Nat.le_of_ble_eq_true rfl) rfl (fun Γ hX hRm hnL hY hDD hLa hR hI hE => ?_)
  have hU : ∀ w ∈ wU, w ∈ wM yX0_text cX0_text 3 none := fun w h => wM_in h
  subst hLa
  subst hDD
  have hl20 := sTab_len i (Nat.blt_eq ▸ hi18)
  refine g_aload_n (n := 1) hX dX0_text_0 rfl rfl rfl ?_
  refine g_iconst (n := 2) (v := 1) hX dX0_text_1 rfl rfl ?_
  refine g_pcallV (n := 5) (As := [.int 1]) (rest := []) hX hE hU hY dX0_text_2 rfl yv_X0_u1 um_X0_126 (f_u1 _ _ K L f F B T s 1 hF (hr.le (by omega))) ⟨rfl, rfl⟩ (rm_le hRm rfl rfl) rfl hF.1 fw_F rfl rfl rfl (Nat.le_of_ble_eq_true rfl) ⟨Nat.zero_le _, Nat.zero_le _⟩ (fun v0 w0 hq0 => ?_)
  obtain ⟨rfl, rfl⟩ := hq0
  show G Γ (va_pl L (fw K f F B T (aB s ([1])))) 0 0 5 [(0, .ref F), (1, .ref (eK (gD Γ) i))] []
  have hr : LB (aB s ([1])) (2 + sLen.getD i 0) := hr.app (by show 1 + (2 + sLen.getD i 0) ≤ 3 + sLen.getD i 0; omega)
  refine g_aload_n (n := 6) hX dX0_text_5 rfl rfl rfl ?_
  refine g_aload_n (n := 7) hX dX0_text_6 rfl rfl rfl ?_
  refine g_scallV (n := 10) (As := []) (rest := [.ref F]) i hi18 hX hE hU hY dX0_text_7 rfl yv_J0_length_8abf5 um_X0_192 (j_length _ _ K (va_pl L (fw K f F B T (aB s ([1])))) i hi18) ⟨rfl, rfl⟩ (rm_le hRm rfl rfl) rfl rfl (Nat.le_of_ble_eq_true rfl) ⟨Nat.zero_le _, Nat.zero_le _⟩ (fun v0 w0 hq0 => ?_)
  obtain ⟨rfl, hw0⟩ := hq0; rw [hw0]
  show G Γ (va_pl L (fw K f F B T (aB s ([1])))) 0 0 10 [(0, .ref F), (1, .ref (eK (gD Γ) i))] [.int (nI (sLen.getD i 0)), .ref F]
  refine g_pcallV (n := 13) (As := [.int (nI (sLen.getD i 0))]) (rest := []) hX hE hU hY dX0_text_10 rfl yv_X0_u2 um_X0_68 (f_u2 _ _ K L f F B T (aB s ([1])) (nI (sLen.getD i 0)) hF (hr.le (by omega))) ⟨rfl, rfl⟩ (rm_le hRm rfl rfl) rfl hF.1 fw_F rfl rfl rfl (Nat.le_of_ble_eq_true rfl) ⟨Nat.zero_le _, Nat.zero_le _⟩ (fun v0 w0 hq0 => ?_)
  obtain ⟨rfl, rfl⟩ := hq0
  show G Γ (va_pl L (fw K f F B T (aB (aB s ([1])) (b2 (nI (sLen.getD i 0)))))) 0 0 13 [(0, .ref F), (1, .ref (eK (gD Γ) i))] []
  have hr : LB (aB (aB s ([1])) (b2 (nI (sLen.getD i 0)))) (sLen.getD i 0) := hr.app (by show 2 + sLen.getD i 0 ≤ 2 + sLen.getD i 0; omega)
  refine g_iconst (n := 14) (v := 0) hX dX0_text_13 rfl rfl ?_
  refine g_istore_n (lv' := [(2, .int 0), (0, .ref F), (1, .ref (eK (gD Γ) i))]) (n := 15) hX dX0_text_14 rfl rfl (by rw [hnL]; rfl) rfl ?_
  refine g_pick (lv' := [(2, .int 0), (0, .ref F), (1, .ref (eK (gD Γ) i))]) [0, 1, 2] rfl ?_
  refine lp_text hX hE hRm hnL hY hF i hi18 0 (sLen.getD i 0) 0 _ (by omega) (hr.le (by omega)) ?_
  exact g_vret hX hR dX0_text_38 ⟨rfl, by rw [bTx]; simp only [aB_aB, List.drop_zero]⟩

