set_option maxHeartbeats 4000000 in
set_option maxRecDepth 100000 in
theorem f_u1 (l : Launch) (D : va_G) (K : Nat → ClassId) (L : List Nat) (f : Nat → va_E) (F B T : Nat) (s : FS) (x : Int32) (hF : fOk L F B T) (hr : LB s 1) : Mc l yX0_u1 (wM yX0_u1 cX0_u1 2 none) (rmL 0 0 0) D (yY K) [.ref F, .int x] (va_pl L (fw K f F B T s)) (fun v w => v = none ∧ w = va_pl L (fw K f F B T (aB s ([x])))) 0 0 := by
  refine m_start (lv := [(0, .ref F), (1, .int x)]) rfl (Nat.le_of_ble_eq_true rfl) rfl (fun Γ hX hRm hnL hY hDD hLa hR hI hE => ?_)
  have hU : ∀ w ∈ wU, w ∈ wM yX0_u1 cX0_u1 2 none := fun w h => wM_in h
  subst hLa
  subst hDD
  refine g_aload_n (n := 1) hX dX0_u1_0 rfl rfl rfl ?_
  refine g_fget (n := 4) 2 (v := .int (nI s.1)) hX hU hF dX0_u1_1 rfl rfl uf_X0_28 rfl ?_
  refine g_if_lt (n := 7) (tgt := 40) hX dX0_u1_4 rfl (by decide) (fun c4 => absurd c4 (nI_pos (by unfold LB at hr; omega))) (fun c4 => ?_)
  refine g_aload_n (n := 8) hX dX0_u1_7 rfl rfl rfl ?_
  refine g_fget (n := 11) 2 (v := .int (nI s.1)) hX hU hF dX0_u1_8 rfl rfl uf_X0_28 rfl ?_
  refine g_aload_n (n := 12) hX dX0_u1_11 rfl rfl rfl ?_
  refine g_fget (n := 15) 0 (v := .ref B) hX hU hF dX0_u1_12 rfl rfl uf_X0_11 rfl ?_
  refine g_flenB (n := 16) hX hY hF dX0_u1_15 rfl ?_
  refine g_icmp_ge (n := 19) (tgt := 40) hX dX0_u1_16 rfl (by decide) (fun c16 => absurd c16 (nI_ge (a := s.1) (b := 2048) (by unfold LB at hr; omega) (by decide))) (fun c16 => ?_)
  refine g_aload_n (n := 20) hX dX0_u1_19 rfl rfl rfl ?_
  refine g_fget (n := 23) 0 (v := .ref B) hX hU hF dX0_u1_20 rfl rfl uf_X0_11 rfl ?_
  refine g_aload_n (n := 24) hX dX0_u1_23 rfl rfl rfl ?_
  refine g_fget (n := 27) 2 (v := .int (nI s.1)) hX hU hF dX0_u1_24 rfl rfl uf_X0_28 rfl ?_
  refine g_iload_n (n := 28) hX dX0_u1_27 rfl rfl rfl ?_
  refine g_i2b (n := 29) (v := x.toInt8.toInt32) hX dX0_u1_28 rfl rfl ?_
  refine g_fbst (n := 30) (i0 := s.1) (y := x.toInt8.toInt32) hX hY hF dX0_u1_29 rfl (vp_in_nI (by unfold LB at hr; omega) (by decide)) (nI_clamp (by unfold LB at hr; omega)) (pk_vb _) ?_
  refine g_aload_n (n := 31) hX dX0_u1_30 rfl rfl rfl ?_
  refine g_dup (n := 32) hX dX0_u1_31 rfl rfl ?_
  refine g_fget (n := 35) 2 (v := .int (nI (s.1, upd s.2.1 s.1 x.toInt8.toInt32, s.2.2).1)) hX hU hF dX0_u1_32 rfl rfl uf_X0_28 rfl ?_
  refine g_iconst (n := 36) (v := 1) hX dX0_u1_35 rfl rfl ?_
  refine g_iadd (n := 37) (v := nI (s.1 + 1)) hX dX0_u1_36 rfl (nI_add s.1 1) ?_
  refine g_fput (n := 40) 2 (wB s x) hX hU hF dX0_u1_37 rfl rfl uf_X0_28 rfl rfl rfl rfl rfl ?_
  exact g_vret hX hR dX0_u1_40 ⟨rfl, rfl⟩

set_option maxHeartbeats 4000000 in
set_option maxRecDepth 100000 in
theorem f_u2 (l : Launch) (D : va_G) (K : Nat → ClassId) (L : List Nat) (f : Nat → va_E) (F B T : Nat) (s : FS) (x : Int32) (hF : fOk L F B T) (hr : LB s 2) : Mc l yX0_u2 (wM yX0_u2 cX0_u2 2 none) (rmL 1 0 0) D (yY K) [.ref F, .int x] (va_pl L (fw K f F B T s)) (fun v w => v = none ∧ w = va_pl L (fw K f F B T (aB s (b2 x)))) 0 0 := by
  refine m_start (lv := [(0, .ref F), (1, .int x)]) rfl (Nat.le_of_ble_eq_true rfl) rfl (fun Γ hX hRm hnL hY hDD hLa hR hI hE => ?_)
  have hU : ∀ w ∈ wU, w ∈ wM yX0_u2 cX0_u2 2 none := fun w h => wM_in h
  subst hLa
  subst hDD
  refine g_aload_n (n := 1) hX dX0_u2_0 rfl rfl rfl ?_
  refine g_iload_n (n := 2) hX dX0_u2_1 rfl rfl rfl ?_
  refine g_bipush (n := 4) (v := 8) hX dX0_u2_2 rfl rfl ?_
  refine g_ishr (n := 5) (v := x >>> (8 &&& 31)) hX dX0_u2_4 rfl rfl ?_
  refine g_pcallV (n := 8) (As := [.int (x >>> (8 &&& 31))]) (rest := []) hX hE hU hY dX0_u2_5 rfl yv_X0_u1 um_X0_126 (f_u1 _ _ K L f F B T s (x >>> (8 &&& 31)) hF (hr.le (by decide))) ⟨rfl, rfl⟩ (rm_le hRm rfl rfl) rfl hF.1 fw_F rfl rfl rfl (Nat.le_of_ble_eq_true rfl) ⟨Nat.zero_le _, Nat.zero_le _⟩ (fun v0 w0 hq0 => ?_)
  obtain ⟨rfl, rfl⟩ := hq0
  show G Γ (va_pl L (fw K f F B T (aB s ([x >>> (8 &&& 31)])))) 0 0 8 [(0, .ref F), (1, .int x)] []
  have hr : LB (aB s ([x >>> (8 &&& 31)])) 1 := hr.app (Nat.le_of_ble_eq_true rfl)
  refine g_aload_n (n := 9) hX dX0_u2_8 rfl rfl rfl ?_
  refine g_iload_n (n := 10) hX dX0_u2_9 rfl rfl rfl ?_
  refine g_pcallV (n := 13) (As := [.int x]) (rest := []) hX hE hU hY dX0_u2_10 rfl yv_X0_u1 um_X0_126 (f_u1 _ _ K L f F B T (aB s ([x >>> (8 &&& 31)])) x hF (hr.le (by decide))) ⟨rfl, rfl⟩ (rm_le hRm rfl rfl) rfl hF.1 fw_F rfl rfl rfl (Nat.le_of_ble_eq_true rfl) ⟨Nat.zero_le _, Nat.zero_le _⟩ (fun v0 w0 hq0 => ?_)
  obtain ⟨rfl, rfl⟩ := hq0
  show G Γ (va_pl L (fw K f F B T (aB (aB s ([x >>> (8 &&& 31)])) ([x])))) 0 0 13 [(0, .ref F), (1, .int x)] []
  have hr : LB (aB (aB s ([x >>> (8 &&& 31)])) ([x])) 0 := hr.app (Nat.le_of_ble_eq_true rfl)
  exact g_vret hX hR dX0_u2_13 ⟨rfl, by simp only [aB_aB] <;> rfl⟩

set_option maxHeartbeats 4000000 in
set_option maxRecDepth 100000 in
theorem f_u4 (l : Launch) (D : va_G) (K : Nat → ClassId) (L : List Nat) (f : Nat → va_E) (F B T : Nat) (s : FS) (x : Int32) (hF : fOk L F B T) (hr : LB s 4) : Mc l yX0_u4 (wM yX0_u4 cX0_u4 2 none) (rmL 2 0 0) D (yY K) [.ref F, .int x] (va_pl L (fw K f F B T s)) (fun v w => v = none ∧ w = va_pl L (fw K f F B T (aB s (b4 x)))) 0 0 := by
  refine m_start (lv := [(0, .ref F), (1, .int x)]) rfl (Nat.le_of_ble_eq_true rfl) rfl (fun Γ hX hRm hnL hY hDD hLa hR hI hE => ?_)
  have hU : ∀ w ∈ wU, w ∈ wM yX0_u4 cX0_u4 2 none := fun w h => wM_in h
  subst hLa
  subst hDD
  refine g_aload_n (n := 1) hX dX0_u4_0 rfl rfl rfl ?_
  refine g_iload_n (n := 2) hX dX0_u4_1 rfl rfl rfl ?_
  refine g_bipush (n := 4) (v := 16) hX dX0_u4_2 rfl rfl ?_
  refine g_ishr (n := 5) (v := x >>> (16 &&& 31)) hX dX0_u4_4 rfl rfl ?_
  refine g_pcallV (n := 8) (As := [.int (x >>> (16 &&& 31))]) (rest := []) hX hE hU hY dX0_u4_5 rfl yv_X0_u2 um_X0_68 (f_u2 _ _ K L f F B T s (x >>> (16 &&& 31)) hF (hr.le (by decide))) ⟨rfl, rfl⟩ (rm_le hRm rfl rfl) rfl hF.1 fw_F rfl rfl rfl (Nat.le_of_ble_eq_true rfl) ⟨Nat.zero_le _, Nat.zero_le _⟩ (fun v0 w0 hq0 => ?_)
  obtain ⟨rfl, rfl⟩ := hq0
  show G Γ (va_pl L (fw K f F B T (aB s (b2 (x >>> (16 &&& 31)))))) 0 0 8 [(0, .ref F), (1, .int x)] []
  have hr : LB (aB s (b2 (x >>> (16 &&& 31)))) 2 := hr.app (Nat.le_of_ble_eq_true rfl)
  refine g_aload_n (n := 9) hX dX0_u4_8 rfl rfl rfl ?_
  refine g_iload_n (n := 10) hX dX0_u4_9 rfl rfl rfl ?_
  refine g_pcallV (n := 13) (As := [.int x]) (rest := []) hX hE hU hY dX0_u4_10 rfl yv_X0_u2 um_X0_68 (f_u2 _ _ K L f F B T (aB s (b2 (x >>> (16 &&& 31)))) x hF (hr.le (by decide))) ⟨rfl, rfl⟩ (rm_le hRm rfl rfl) rfl hF.1 fw_F rfl rfl rfl (Nat.le_of_ble_eq_true rfl) ⟨Nat.zero_le _, Nat.zero_le _⟩ (fun v0 w0 hq0 => ?_)
  obtain ⟨rfl, rfl⟩ := hq0
  show G Γ (va_pl L (fw K f F B T (aB (aB s (b2 (x >>> (16 &&& 31)))) (b2 x)))) 0 0 13 [(0, .ref F), (1, .int x)] []
  have hr : LB (aB (aB s (b2 (x >>> (16 &&& 31)))) (b2 x)) 0 := hr.app (Nat.le_of_ble_eq_true rfl)
  exact g_vret hX hR dX0_u4_13 ⟨rfl, by simp only [aB_aB] <;> rfl⟩

set_option maxHeartbeats 4000000 in
set_option maxRecDepth 100000 in
theorem f_pair (l : Launch) (D : va_G) (K : Nat → ClassId) (L : List Nat) (f : Nat → va_E) (F B T : Nat) (s : FS) (t a b : Int32) (hF : fOk L F B T) (hr : LB s 5) : Mc l yX0_pair (wM yX0_pair cX0_pair 4 none) (rmL 2 0 0) D (yY K) [.ref F, .int t, .int a, .int b] (va_pl L (fw K f F B T s)) (fun v w => v = none ∧ w = va_pl L (fw K f F B T (aB s (bPair t a b)))) 0 0 := by
  refine m_start (lv := [(0, .ref F), (1, .int t), (2, .int a), (3, .int b)]) rfl (Nat.le_of_ble_eq_true rfl) rfl (fun Γ hX hRm hnL hY hDD hLa hR hI hE => ?_)
  have hU : ∀ w ∈ wU, w ∈ wM yX0_pair cX0_pair 4 none := fun w h => wM_in h
  subst hLa
  subst hDD
  refine g_aload_n (n := 1) hX dX0_pair_0 rfl rfl rfl ?_
  refine g_iload_n (n := 2) hX dX0_pair_1 rfl rfl rfl ?_
  refine g_pcallV (n := 5) (As := [.int t]) (rest := []) hX hE hU hY dX0_pair_2 rfl yv_X0_u1 um_X0_126 (f_u1 _ _ K L f F B T s t hF (hr.le (by decide))) ⟨rfl, rfl⟩ (rm_le hRm rfl rfl) rfl hF.1 fw_F rfl rfl rfl (Nat.le_of_ble_eq_true rfl) ⟨Nat.zero_le _, Nat.zero_le _⟩ (fun v0 w0 hq0 => ?_)
  obtain ⟨rfl, rfl⟩ := hq0
  show G Γ (va_pl L (fw K f F B T (aB s ([t])))) 0 0 5 [(0, .ref F), (1, .int t), (2, .int a), (3, .int b)] []
  have hr : LB (aB s ([t])) 4 := hr.app (Nat.le_of_ble_eq_true rfl)
  refine g_aload_n (n := 6) hX dX0_pair_5 rfl rfl rfl ?_
  refine g_iload_n (n := 7) hX dX0_pair_6 rfl rfl rfl ?_
  refine g_pcallV (n := 10) (As := [.int a]) (rest := []) hX hE hU hY dX0_pair_7 rfl yv_X0_u2 um_X0_68 (f_u2 _ _ K L f F B T (aB s ([t])) a hF (hr.le (by decide))) ⟨rfl, rfl⟩ (rm_le hRm rfl rfl) rfl hF.1 fw_F rfl rfl rfl (Nat.le_of_ble_eq_true rfl) ⟨Nat.zero_le _, Nat.zero_le _⟩ (fun v0 w0 hq0 => ?_)
  obtain ⟨rfl, rfl⟩ := hq0
  show G Γ (va_pl L (fw K f F B T (aB (aB s ([t])) (b2 a)))) 0 0 10 [(0, .ref F), (1, .int t), (2, .int a), (3, .int b)] []
  have hr : LB (aB (aB s ([t])) (b2 a)) 2 := hr.app (Nat.le_of_ble_eq_true rfl)
  refine g_aload_n (n := 11) hX dX0_pair_10 rfl rfl rfl ?_
  refine g_iload_n (n := 12) hX dX0_pair_11 rfl rfl rfl ?_
  refine g_pcallV (n := 15) (As := [.int b]) (rest := []) hX hE hU hY dX0_pair_12 rfl yv_X0_u2 um_X0_68 (f_u2 _ _ K L f F B T (aB (aB s ([t])) (b2 a)) b hF (hr.le (by decide))) ⟨rfl, rfl⟩ (rm_le hRm rfl rfl) rfl hF.1 fw_F rfl rfl rfl (Nat.le_of_ble_eq_true rfl) ⟨Nat.zero_le _, Nat.zero_le _⟩ (fun v0 w0 hq0 => ?_)
  obtain ⟨rfl, rfl⟩ := hq0
  show G Γ (va_pl L (fw K f F B T (aB (aB (aB s ([t])) (b2 a)) (b2 b)))) 0 0 15 [(0, .ref F), (1, .int t), (2, .int a), (3, .int b)] []
  have hr : LB (aB (aB (aB s ([t])) (b2 a)) (b2 b)) 0 := hr.app (Nat.le_of_ble_eq_true rfl)
  exact g_vret hX hR dX0_pair_15 ⟨rfl, by simp only [aB_aB] <;> rfl⟩

set_option maxHeartbeats 4000000 in
set_option maxRecDepth 100000 in
theorem f_classConstant (l : Launch) (D : va_G) (K : Nat → ClassId) (L : List Nat) (f : Nat → va_E) (F B T : Nat) (s : FS) (a : Int32) (hF : fOk L F B T) (hr : LB s 3) : Mc l yX0_classConstant (wM yX0_classConstant cX0_classConstant 2 none) (rmL 2 0 0) D (yY K) [.ref F, .int a] (va_pl L (fw K f F B T s)) (fun v w => v = none ∧ w = va_pl L (fw K f F B T (aB s (bClassed a)))) 0 0 := by
  refine m_start (lv := [(0, .ref F), (1, .int a)]) rfl (Nat.le_of_ble_eq_true rfl) rfl (fun Γ hX hRm hnL hY hDD hLa hR hI hE => ?_)
  have hU : ∀ w ∈ wU, w ∈ wM yX0_classConstant cX0_classConstant 2 none := fun w h => wM_in h
  subst hLa
  subst hDD
  refine g_aload_n (n := 1) hX dX0_classConstant_0 rfl rfl rfl ?_
  refine g_bipush (n := 3) (v := 7) hX dX0_classConstant_1 rfl rfl ?_
  refine g_pcallV (n := 6) (As := [.int 7]) (rest := []) hX hE hU hY dX0_classConstant_3 rfl yv_X0_u1 um_X0_126 (f_u1 _ _ K L f F B T s 7 hF (hr.le (by decide))) ⟨rfl, rfl⟩ (rm_le hRm rfl rfl) rfl hF.1 fw_F rfl rfl rfl (Nat.le_of_ble_eq_true rfl) ⟨Nat.zero_le _, Nat.zero_le _⟩ (fun v0 w0 hq0 => ?_)
  obtain ⟨rfl, rfl⟩ := hq0
  show G Γ (va_pl L (fw K f F B T (aB s ([7])))) 0 0 6 [(0, .ref F), (1, .int a)] []
  have hr : LB (aB s ([7])) 2 := hr.app (Nat.le_of_ble_eq_true rfl)
  refine g_aload_n (n := 7) hX dX0_classConstant_6 rfl rfl rfl ?_
  refine g_iload_n (n := 8) hX dX0_classConstant_7 rfl rfl rfl ?_
  refine g_pcallV (n := 11) (As := [.int a]) (rest := []) hX hE hU hY dX0_classConstant_8 rfl yv_X0_u2 um_X0_68 (f_u2 _ _ K L f F B T (aB s ([7])) a hF (hr.le (by decide))) ⟨rfl, rfl⟩ (rm_le hRm rfl rfl) rfl hF.1 fw_F rfl rfl rfl (Nat.le_of_ble_eq_true rfl) ⟨Nat.zero_le _, Nat.zero_le _⟩ (fun v0 w0 hq0 => ?_)
  obtain ⟨rfl, rfl⟩ := hq0
  show G Γ (va_pl L (fw K f F B T (aB (aB s ([7])) (b2 a)))) 0 0 11 [(0, .ref F), (1, .int a)] []
  have hr : LB (aB (aB s ([7])) (b2 a)) 0 := hr.app (Nat.le_of_ble_eq_true rfl)
  exact g_vret hX hR dX0_classConstant_11 ⟨rfl, by simp only [aB_aB] <;> rfl⟩

def bIx (i x : Int32) : List Int32 := [i] ++ b2 x
def bHand (x m : Int32) : List Int32 := bPush x ++ bIx 184 m
def bNum (c n : Int32) : List Int32 := [1] ++ b2 (if 10 ≤ n then 3 else 2) ++ [c] ++ (if n < 10 then [] else [48 + n / 10]) ++ [48 + (n - n / 10 * 10)]
set_option maxHeartbeats 4000000 in
set_option maxRecDepth 100000 in
theorem f_methodEnd (l : Launch) (D : va_G) (K : Nat → ClassId) (L : List Nat) (f : Nat → va_E) (F B T : Nat) (s : FS)  (hF : fOk L F B T) (hr : LB s 4) : Mc l yX0_methodEnd (wM yX0_methodEnd cX0_methodEnd 1 none) (rmL 2 0 0) D (yY K) [.ref F] (va_pl L (fw K f F B T s)) (fun v w => v = none ∧ w = va_pl L (fw K f F B T (aB s (b2 0 ++ b2 0)))) 0 0 := by
  refine m_start (lv := [(0, .ref F)]) rfl (Nat.le_of_ble_eq_true rfl) rfl (fun Γ hX hRm hnL hY hDD hLa hR hI hE => ?_)
  have hU : ∀ w ∈ wU, w ∈ wM yX0_methodEnd cX0_methodEnd 1 none := fun w h => wM_in h
  subst hLa
  subst hDD
  refine g_aload_n (n := 1) hX dX0_methodEnd_0 rfl rfl rfl ?_
  refine g_iconst (n := 2) (v := 0) hX dX0_methodEnd_1 rfl rfl ?_
  refine g_pcallV (n := 5) (As := [.int 0]) (rest := []) hX hE hU hY dX0_methodEnd_2 rfl yv_X0_u2 um_X0_68 (f_u2 _ _ K L f F B T s 0 hF (hr.le (by decide))) ⟨rfl, rfl⟩ (rm_le hRm rfl rfl) rfl hF.1 fw_F rfl rfl rfl (Nat.le_of_ble_eq_true rfl) ⟨Nat.zero_le _, Nat.zero_le _⟩ (fun v0 w0 hq0 => ?_)
  obtain ⟨rfl, rfl⟩ := hq0
  show G Γ (va_pl L (fw K f F B T (aB s (b2 0)))) 0 0 5 [(0, .ref F)] []
  have hr : LB (aB s (b2 0)) 2 := hr.app (Nat.le_of_ble_eq_true rfl)
  refine g_aload_n (n := 6) hX dX0_methodEnd_5 rfl rfl rfl ?_
  refine g_iconst (n := 7) (v := 0) hX dX0_methodEnd_6 rfl rfl ?_
  refine g_pcallV (n := 10) (As := [.int 0]) (rest := []) hX hE hU hY dX0_methodEnd_7 rfl yv_X0_u2 um_X0_68 (f_u2 _ _ K L f F B T (aB s (b2 0)) 0 hF (hr.le (by decide))) ⟨rfl, rfl⟩ (rm_le hRm rfl rfl) rfl hF.1 fw_F rfl rfl rfl (Nat.le_of_ble_eq_true rfl) ⟨Nat.zero_le _, Nat.zero_le _⟩ (fun v0 w0 hq0 => ?_)
  obtain ⟨rfl, rfl⟩ := hq0
  show G Γ (va_pl L (fw K f F B T (aB (aB s (b2 0)) (b2 0)))) 0 0 10 [(0, .ref F)] []
  have hr : LB (aB (aB s (b2 0)) (b2 0)) 0 := hr.app (Nat.le_of_ble_eq_true rfl)
  exact g_vret hX hR dX0_methodEnd_10 ⟨rfl, by simp only [aB_aB] <;> rfl⟩

set_option maxHeartbeats 4000000 in
set_option maxRecDepth 100000 in
theorem f_methodHead (l : Launch) (D : va_G) (K : Nat → ClassId) (L : List Nat) (f : Nat → va_E) (F B T : Nat) (s : FS) (a b c d x : Int32) (hF : fOk L F B T) (hr : LB s 22) : Mc l yX0_methodHead (wM yX0_methodHead cX0_methodHead 6 none) (rmL 3 0 0) D (yY K) [.ref F, .int a, .int b, .int c, .int d, .int x] (va_pl L (fw K f F B T s)) (fun v w => v = none ∧ w = va_pl L (fw K f F B T (aB s (bMethod a b c d x)))) 0 0 := by
  refine m_start (lv := [(0, .ref F), (1, .int a), (2, .int b), (3, .int c), (4, .int d), (5, .int x)]) rfl (Nat.le_of_ble_eq_true rfl) rfl (fun Γ hX hRm hnL hY hDD hLa hR hI hE => ?_)
  have hU : ∀ w ∈ wU, w ∈ wM yX0_methodHead cX0_methodHead 6 none := fun w h => wM_in h
  subst hLa
  subst hDD
  refine g_aload_n (n := 1) hX dX0_methodHead_0 rfl rfl rfl ?_
  refine g_bipush (n := 3) (v := 8) hX dX0_methodHead_1 rfl rfl ?_
  refine g_pcallV (n := 6) (As := [.int 8]) (rest := []) hX hE hU hY dX0_methodHead_3 rfl yv_X0_u2 um_X0_68 (f_u2 _ _ K L f F B T s 8 hF (hr.le (by decide))) ⟨rfl, rfl⟩ (rm_le hRm rfl rfl) rfl hF.1 fw_F rfl rfl rfl (Nat.le_of_ble_eq_true rfl) ⟨Nat.zero_le _, Nat.zero_le _⟩ (fun v0 w0 hq0 => ?_)
  obtain ⟨rfl, rfl⟩ := hq0
  show G Γ (va_pl L (fw K f F B T (aB s (b2 8)))) 0 0 6 [(0, .ref F), (1, .int a), (2, .int b), (3, .int c), (4, .int d), (5, .int x)] []
  have hr : LB (aB s (b2 8)) 20 := hr.app (Nat.le_of_ble_eq_true rfl)
  refine g_aload_n (n := 7) hX dX0_methodHead_6 rfl rfl rfl ?_
  refine g_iload_n (n := 8) hX dX0_methodHead_7 rfl rfl rfl ?_
  refine g_pcallV (n := 11) (As := [.int a]) (rest := []) hX hE hU hY dX0_methodHead_8 rfl yv_X0_u2 um_X0_68 (f_u2 _ _ K L f F B T (aB s (b2 8)) a hF (hr.le (by decide))) ⟨rfl, rfl⟩ (rm_le hRm rfl rfl) rfl hF.1 fw_F rfl rfl rfl (Nat.le_of_ble_eq_true rfl) ⟨Nat.zero_le _, Nat.zero_le _⟩ (fun v0 w0 hq0 => ?_)
  obtain ⟨rfl, rfl⟩ := hq0
  show G Γ (va_pl L (fw K f F B T (aB (aB s (b2 8)) (b2 a)))) 0 0 11 [(0, .ref F), (1, .int a), (2, .int b), (3, .int c), (4, .int d), (5, .int x)] []
  have hr : LB (aB (aB s (b2 8)) (b2 a)) 18 := hr.app (Nat.le_of_ble_eq_true rfl)
  refine g_aload_n (n := 12) hX dX0_methodHead_11 rfl rfl rfl ?_
  refine g_iload_n (n := 13) hX dX0_methodHead_12 rfl rfl rfl ?_
  refine g_pcallV (n := 16) (As := [.int b]) (rest := []) hX hE hU hY dX0_methodHead_13 rfl yv_X0_u2 um_X0_68 (f_u2 _ _ K L f F B T (aB (aB s (b2 8)) (b2 a)) b hF (hr.le (by decide))) ⟨rfl, rfl⟩ (rm_le hRm rfl rfl) rfl hF.1 fw_F rfl rfl rfl (Nat.le_of_ble_eq_true rfl) ⟨Nat.zero_le _, Nat.zero_le _⟩ (fun v0 w0 hq0 => ?_)
  obtain ⟨rfl, rfl⟩ := hq0
  show G Γ (va_pl L (fw K f F B T (aB (aB (aB s (b2 8)) (b2 a)) (b2 b)))) 0 0 16 [(0, .ref F), (1, .int a), (2, .int b), (3, .int c), (4, .int d), (5, .int x)] []
  have hr : LB (aB (aB (aB s (b2 8)) (b2 a)) (b2 b)) 16 := hr.app (Nat.le_of_ble_eq_true rfl)
  refine g_aload_n (n := 17) hX dX0_methodHead_16 rfl rfl rfl ?_
  refine g_iconst (n := 18) (v := 1) hX dX0_methodHead_17 rfl rfl ?_
  refine g_pcallV (n := 21) (As := [.int 1]) (rest := []) hX hE hU hY dX0_methodHead_18 rfl yv_X0_u2 um_X0_68 (f_u2 _ _ K L f F B T (aB (aB (aB s (b2 8)) (b2 a)) (b2 b)) 1 hF (hr.le (by decide))) ⟨rfl, rfl⟩ (rm_le hRm rfl rfl) rfl hF.1 fw_F rfl rfl rfl (Nat.le_of_ble_eq_true rfl) ⟨Nat.zero_le _, Nat.zero_le _⟩ (fun v0 w0 hq0 => ?_)
  obtain ⟨rfl, rfl⟩ := hq0
  show G Γ (va_pl L (fw K f F B T (aB (aB (aB (aB s (b2 8)) (b2 a)) (b2 b)) (b2 1)))) 0 0 21 [(0, .ref F), (1, .int a), (2, .int b), (3, .int c), (4, .int d), (5, .int x)] []
  have hr : LB (aB (aB (aB (aB s (b2 8)) (b2 a)) (b2 b)) (b2 1)) 14 := hr.app (Nat.le_of_ble_eq_true rfl)
  refine g_aload_n (n := 22) hX dX0_methodHead_21 rfl rfl rfl ?_
  refine g_bipush (n := 24) (v := 24) hX dX0_methodHead_22 rfl rfl ?_
  refine g_pcallV (n := 27) (As := [.int 24]) (rest := []) hX hE hU hY dX0_methodHead_24 rfl yv_X0_u2 um_X0_68 (f_u2 _ _ K L f F B T (aB (aB (aB (aB s (b2 8)) (b2 a)) (b2 b)) (b2 1)) 24 hF (hr.le (by decide))) ⟨rfl, rfl⟩ (rm_le hRm rfl rfl) rfl hF.1 fw_F rfl rfl rfl (Nat.le_of_ble_eq_true rfl) ⟨Nat.zero_le _, Nat.zero_le _⟩ (fun v0 w0 hq0 => ?_)
  obtain ⟨rfl, rfl⟩ := hq0
  show G Γ (va_pl L (fw K f F B T (aB (aB (aB (aB (aB s (b2 8)) (b2 a)) (b2 b)) (b2 1)) (b2 24)))) 0 0 27 [(0, .ref F), (1, .int a), (2, .int b), (3, .int c), (4, .int d), (5, .int x)] []
  have hr : LB (aB (aB (aB (aB (aB s (b2 8)) (b2 a)) (b2 b)) (b2 1)) (b2 24)) 12 := hr.app (Nat.le_of_ble_eq_true rfl)
  refine g_aload_n (n := 28) hX dX0_methodHead_27 rfl rfl rfl ?_
  refine g_bipush (n := 30) (v := 12) hX dX0_methodHead_28 rfl rfl ?_
  refine g_iload (n := 32) hX dX0_methodHead_30 rfl rfl ?_
  refine g_iadd (n := 33) (v := 12 + x) hX dX0_methodHead_32 rfl rfl ?_
  refine g_pcallV (n := 36) (As := [.int (12 + x)]) (rest := []) hX hE hU hY dX0_methodHead_33 rfl yv_X0_u4 um_X0_78 (f_u4 _ _ K L f F B T (aB (aB (aB (aB (aB s (b2 8)) (b2 a)) (b2 b)) (b2 1)) (b2 24)) (12 + x) hF (hr.le (by decide))) ⟨rfl, rfl⟩ (rm_le hRm rfl rfl) rfl hF.1 fw_F rfl rfl rfl (Nat.le_of_ble_eq_true rfl) ⟨Nat.zero_le _, Nat.zero_le _⟩ (fun v0 w0 hq0 => ?_)
  obtain ⟨rfl, rfl⟩ := hq0
  show G Γ (va_pl L (fw K f F B T (aB (aB (aB (aB (aB (aB s (b2 8)) (b2 a)) (b2 b)) (b2 1)) (b2 24)) (b4 (12 + x))))) 0 0 36 [(0, .ref F), (1, .int a), (2, .int b), (3, .int c), (4, .int d), (5, .int x)] []
  have hr : LB (aB (aB (aB (aB (aB (aB s (b2 8)) (b2 a)) (b2 b)) (b2 1)) (b2 24)) (b4 (12 + x))) 8 := hr.app (Nat.le_of_ble_eq_true rfl)
  refine g_aload_n (n := 37) hX dX0_methodHead_36 rfl rfl rfl ?_
  refine g_iload_n (n := 38) hX dX0_methodHead_37 rfl rfl rfl ?_
  refine g_pcallV (n := 41) (As := [.int c]) (rest := []) hX hE hU hY dX0_methodHead_38 rfl yv_X0_u2 um_X0_68 (f_u2 _ _ K L f F B T (aB (aB (aB (aB (aB (aB s (b2 8)) (b2 a)) (b2 b)) (b2 1)) (b2 24)) (b4 (12 + x))) c hF (hr.le (by decide))) ⟨rfl, rfl⟩ (rm_le hRm rfl rfl) rfl hF.1 fw_F rfl rfl rfl (Nat.le_of_ble_eq_true rfl) ⟨Nat.zero_le _, Nat.zero_le _⟩ (fun v0 w0 hq0 => ?_)
  obtain ⟨rfl, rfl⟩ := hq0
  show G Γ (va_pl L (fw K f F B T (aB (aB (aB (aB (aB (aB (aB s (b2 8)) (b2 a)) (b2 b)) (b2 1)) (b2 24)) (b4 (12 + x))) (b2 c)))) 0 0 41 [(0, .ref F), (1, .int a), (2, .int b), (3, .int c), (4, .int d), (5, .int x)] []
  have hr : LB (aB (aB (aB (aB (aB (aB (aB s (b2 8)) (b2 a)) (b2 b)) (b2 1)) (b2 24)) (b4 (12 + x))) (b2 c)) 6 := hr.app (Nat.le_of_ble_eq_true rfl)
  refine g_aload_n (n := 42) hX dX0_methodHead_41 rfl rfl rfl ?_
  refine g_iload (n := 44) hX dX0_methodHead_42 rfl rfl ?_
  refine g_pcallV (n := 47) (As := [.int d]) (rest := []) hX hE hU hY dX0_methodHead_44 rfl yv_X0_u2 um_X0_68 (f_u2 _ _ K L f F B T (aB (aB (aB (aB (aB (aB (aB s (b2 8)) (b2 a)) (b2 b)) (b2 1)) (b2 24)) (b4 (12 + x))) (b2 c)) d hF (hr.le (by decide))) ⟨rfl, rfl⟩ (rm_le hRm rfl rfl) rfl hF.1 fw_F rfl rfl rfl (Nat.le_of_ble_eq_true rfl) ⟨Nat.zero_le _, Nat.zero_le _⟩ (fun v0 w0 hq0 => ?_)
  obtain ⟨rfl, rfl⟩ := hq0
  show G Γ (va_pl L (fw K f F B T (aB (aB (aB (aB (aB (aB (aB (aB s (b2 8)) (b2 a)) (b2 b)) (b2 1)) (b2 24)) (b4 (12 + x))) (b2 c)) (b2 d)))) 0 0 47 [(0, .ref F), (1, .int a), (2, .int b), (3, .int c), (4, .int d), (5, .int x)] []
  have hr : LB (aB (aB (aB (aB (aB (aB (aB (aB s (b2 8)) (b2 a)) (b2 b)) (b2 1)) (b2 24)) (b4 (12 + x))) (b2 c)) (b2 d)) 4 := hr.app (Nat.le_of_ble_eq_true rfl)
  refine g_aload_n (n := 48) hX dX0_methodHead_47 rfl rfl rfl ?_
  refine g_iload (n := 50) hX dX0_methodHead_48 rfl rfl ?_
  refine g_pcallV (n := 53) (As := [.int x]) (rest := []) hX hE hU hY dX0_methodHead_50 rfl yv_X0_u4 um_X0_78 (f_u4 _ _ K L f F B T (aB (aB (aB (aB (aB (aB (aB (aB s (b2 8)) (b2 a)) (b2 b)) (b2 1)) (b2 24)) (b4 (12 + x))) (b2 c)) (b2 d)) x hF (hr.le (by decide))) ⟨rfl, rfl⟩ (rm_le hRm rfl rfl) rfl hF.1 fw_F rfl rfl rfl (Nat.le_of_ble_eq_true rfl) ⟨Nat.zero_le _, Nat.zero_le _⟩ (fun v0 w0 hq0 => ?_)
  obtain ⟨rfl, rfl⟩ := hq0
  show G Γ (va_pl L (fw K f F B T (aB (aB (aB (aB (aB (aB (aB (aB (aB s (b2 8)) (b2 a)) (b2 b)) (b2 1)) (b2 24)) (b4 (12 + x))) (b2 c)) (b2 d)) (b4 x)))) 0 0 53 [(0, .ref F), (1, .int a), (2, .int b), (3, .int c), (4, .int d), (5, .int x)] []
  have hr : LB (aB (aB (aB (aB (aB (aB (aB (aB (aB s (b2 8)) (b2 a)) (b2 b)) (b2 1)) (b2 24)) (b4 (12 + x))) (b2 c)) (b2 d)) (b4 x)) 0 := hr.app (Nat.le_of_ble_eq_true rfl)
  exact g_vret hX hR dX0_methodHead_53 ⟨rfl, by simp only [aB_aB] <;> rfl⟩

set_option maxHeartbeats 4000000 in
set_option maxRecDepth 100000 in
theorem f_withIndex (l : Launch) (D : va_G) (K : Nat → ClassId) (L : List Nat) (f : Nat → va_E) (F B T : Nat) (s : FS) (i x : Int32) (hF : fOk L F B T) (hr : LB s 3) : Mc l yX0_withIndex (wM yX0_withIndex cX0_withIndex 3 none) (rmL 1 0 0) D (yY K) [.ref F, .int i, .int x] (va_pl L (fw K f F B T s)) (fun v w => v = none ∧ w = va_pl L (fw K f F B T (aB s (bIx i x)))) 0 0 := by
  refine m_start (lv := [(0, .ref F), (1, .int i), (2, .int x)]) rfl (Nat.le_of_ble_eq_true rfl) rfl (fun Γ hX hRm hnL hY hDD hLa hR hI hE => ?_)
  have hU : ∀ w ∈ wU, w ∈ wM yX0_withIndex cX0_withIndex 3 none := fun w h => wM_in h
  subst hLa
  subst hDD
  refine g_aload_n (n := 1) hX dX0_withIndex_0 rfl rfl rfl ?_
  refine g_iload_n (n := 2) hX dX0_withIndex_1 rfl rfl rfl ?_
  refine g_pcallV (n := 5) (As := [.int i]) (rest := []) hX hE hU hY dX0_withIndex_2 rfl yv_X0_u1 um_X0_126 (f_u1 _ _ K L f F B T s i hF (hr.le (by decide))) ⟨rfl, rfl⟩ (rm_le hRm rfl rfl) rfl hF.1 fw_F rfl rfl rfl (Nat.le_of_ble_eq_true rfl) ⟨Nat.zero_le _, Nat.zero_le _⟩ (fun v0 w0 hq0 => ?_)
  obtain ⟨rfl, rfl⟩ := hq0
  show G Γ (va_pl L (fw K f F B T (aB s ([i])))) 0 0 5 [(0, .ref F), (1, .int i), (2, .int x)] []
  have hr : LB (aB s ([i])) 2 := hr.app (Nat.le_of_ble_eq_true rfl)
  refine g_aload_n (n := 6) hX dX0_withIndex_5 rfl rfl rfl ?_
  refine g_iload_n (n := 7) hX dX0_withIndex_6 rfl rfl rfl ?_
  refine g_bipush (n := 9) (v := 8) hX dX0_withIndex_7 rfl rfl ?_
  refine g_ishr (n := 10) (v := x >>> (8 &&& 31)) hX dX0_withIndex_9 rfl rfl ?_
  refine g_pcallV (n := 13) (As := [.int (x >>> (8 &&& 31))]) (rest := []) hX hE hU hY dX0_withIndex_10 rfl yv_X0_u1 um_X0_126 (f_u1 _ _ K L f F B T (aB s ([i])) (x >>> (8 &&& 31)) hF (hr.le (by decide))) ⟨rfl, rfl⟩ (rm_le hRm rfl rfl) rfl hF.1 fw_F rfl rfl rfl (Nat.le_of_ble_eq_true rfl) ⟨Nat.zero_le _, Nat.zero_le _⟩ (fun v0 w0 hq0 => ?_)
  obtain ⟨rfl, rfl⟩ := hq0
  show G Γ (va_pl L (fw K f F B T (aB (aB s ([i])) ([x >>> (8 &&& 31)])))) 0 0 13 [(0, .ref F), (1, .int i), (2, .int x)] []
  have hr : LB (aB (aB s ([i])) ([x >>> (8 &&& 31)])) 1 := hr.app (Nat.le_of_ble_eq_true rfl)
  refine g_aload_n (n := 14) hX dX0_withIndex_13 rfl rfl rfl ?_
  refine g_iload_n (n := 15) hX dX0_withIndex_14 rfl rfl rfl ?_
  refine g_pcallV (n := 18) (As := [.int x]) (rest := []) hX hE hU hY dX0_withIndex_15 rfl yv_X0_u1 um_X0_126 (f_u1 _ _ K L f F B T (aB (aB s ([i])) ([x >>> (8 &&& 31)])) x hF (hr.le (by decide))) ⟨rfl, rfl⟩ (rm_le hRm rfl rfl) rfl hF.1 fw_F rfl rfl rfl (Nat.le_of_ble_eq_true rfl) ⟨Nat.zero_le _, Nat.zero_le _⟩ (fun v0 w0 hq0 => ?_)
  obtain ⟨rfl, rfl⟩ := hq0
  show G Γ (va_pl L (fw K f F B T (aB (aB (aB s ([i])) ([x >>> (8 &&& 31)])) ([x])))) 0 0 18 [(0, .ref F), (1, .int i), (2, .int x)] []
  have hr : LB (aB (aB (aB s ([i])) ([x >>> (8 &&& 31)])) ([x])) 0 := hr.app (Nat.le_of_ble_eq_true rfl)
  exact g_vret hX hR dX0_withIndex_18 ⟨rfl, by simp only [aB_aB] <;> rfl⟩

set_option maxHeartbeats 4000000 in
set_option maxRecDepth 100000 in
theorem f_push (l : Launch) (D : va_G) (K : Nat → ClassId) (L : List Nat) (f : Nat → va_E) (F B T : Nat) (s : FS) (x : Int32) (hF : fOk L F B T) (hr : LB s 2) : Mc l yX0_push (wM yX0_push cX0_push 2 none) (rmL 1 0 0) D (yY K) [.ref F, .int x] (va_pl L (fw K f F B T s)) (fun v w => v = none ∧ w = va_pl L (fw K f F B T (aB s (bPush x)))) 0 0 := by
  refine m_start (lv := [(0, .ref F), (1, .int x)]) rfl (Nat.le_of_ble_eq_true rfl) rfl (fun Γ hX hRm hnL hY hDD hLa hR hI hE => ?_)
  have hU : ∀ w ∈ wU, w ∈ wM yX0_push cX0_push 2 none := fun w h => wM_in h
  subst hLa
  subst hDD
  refine g_aload_n (n := 1) hX dX0_push_0 rfl rfl rfl ?_
  refine g_bipush (n := 3) (v := 16) hX dX0_push_1 rfl rfl ?_
  refine g_pcallV (n := 6) (As := [.int 16]) (rest := []) hX hE hU hY dX0_push_3 rfl yv_X0_u1 um_X0_126 (f_u1 _ _ K L f F B T s 16 hF (hr.le (by decide))) ⟨rfl, rfl⟩ (rm_le hRm rfl rfl) rfl hF.1 fw_F rfl rfl rfl (Nat.le_of_ble_eq_true rfl) ⟨Nat.zero_le _, Nat.zero_le _⟩ (fun v0 w0 hq0 => ?_)
  obtain ⟨rfl, rfl⟩ := hq0
  show G Γ (va_pl L (fw K f F B T (aB s ([16])))) 0 0 6 [(0, .ref F), (1, .int x)] []
  have hr : LB (aB s ([16])) 1 := hr.app (Nat.le_of_ble_eq_true rfl)
  refine g_aload_n (n := 7) hX dX0_push_6 rfl rfl rfl ?_
  refine g_iload_n (n := 8) hX dX0_push_7 rfl rfl rfl ?_
  refine g_pcallV (n := 11) (As := [.int x]) (rest := []) hX hE hU hY dX0_push_8 rfl yv_X0_u1 um_X0_126 (f_u1 _ _ K L f F B T (aB s ([16])) x hF (hr.le (by decide))) ⟨rfl, rfl⟩ (rm_le hRm rfl rfl) rfl hF.1 fw_F rfl rfl rfl (Nat.le_of_ble_eq_true rfl) ⟨Nat.zero_le _, Nat.zero_le _⟩ (fun v0 w0 hq0 => ?_)
  obtain ⟨rfl, rfl⟩ := hq0
  show G Γ (va_pl L (fw K f F B T (aB (aB s ([16])) ([x])))) 0 0 11 [(0, .ref F), (1, .int x)] []
  have hr : LB (aB (aB s ([16])) ([x])) 0 := hr.app (Nat.le_of_ble_eq_true rfl)
  exact g_vret hX hR dX0_push_11 ⟨rfl, by simp only [aB_aB] <;> rfl⟩

set_option maxHeartbeats 4000000 in
set_option maxRecDepth 100000 in
theorem f_hand (l : Launch) (D : va_G) (K : Nat → ClassId) (L : List Nat) (f : Nat → va_E) (F B T : Nat) (s : FS) (x m : Int32) (hF : fOk L F B T) (hr : LB s 5) : Mc l yX0_hand (wM yX0_hand cX0_hand 3 none) (rmL 2 0 0) D (yY K) [.ref F, .int x, .int m] (va_pl L (fw K f F B T s)) (fun v w => v = none ∧ w = va_pl L (fw K f F B T (aB s (bHand x m)))) 0 0 := by
  refine m_start (lv := [(0, .ref F), (1, .int x), (2, .int m)]) rfl (Nat.le_of_ble_eq_true rfl) rfl (fun Γ hX hRm hnL hY hDD hLa hR hI hE => ?_)
  have hU : ∀ w ∈ wU, w ∈ wM yX0_hand cX0_hand 3 none := fun w h => wM_in h
  subst hLa
  subst hDD
  refine g_aload_n (n := 1) hX dX0_hand_0 rfl rfl rfl ?_
  refine g_iload_n (n := 2) hX dX0_hand_1 rfl rfl rfl ?_
  refine g_pcallV (n := 5) (As := [.int x]) (rest := []) hX hE hU hY dX0_hand_2 rfl yv_X0_push um_X0_131 (f_push _ _ K L f F B T s x hF (hr.le (by decide))) ⟨rfl, rfl⟩ (rm_le hRm rfl rfl) rfl hF.1 fw_F rfl rfl rfl (Nat.le_of_ble_eq_true rfl) ⟨Nat.zero_le _, Nat.zero_le _⟩ (fun v0 w0 hq0 => ?_)
  obtain ⟨rfl, rfl⟩ := hq0
  show G Γ (va_pl L (fw K f F B T (aB s (bPush x)))) 0 0 5 [(0, .ref F), (1, .int x), (2, .int m)] []
  have hr : LB (aB s (bPush x)) 3 := hr.app (Nat.le_of_ble_eq_true rfl)
  refine g_aload_n (n := 6) hX dX0_hand_5 rfl rfl rfl ?_
  refine g_sipush (n := 9) (v := 184) hX dX0_hand_6 rfl rfl ?_
  refine g_iload_n (n := 10) hX dX0_hand_9 rfl rfl rfl ?_
  refine g_pcallV (n := 13) (As := [.int 184, .int m]) (rest := []) hX hE hU hY dX0_hand_10 rfl yv_X0_withIndex um_X0_134 (f_withIndex _ _ K L f F B T (aB s (bPush x)) 184 m hF (hr.le (by decide))) ⟨rfl, rfl⟩ (rm_le hRm rfl rfl) rfl hF.1 fw_F rfl rfl rfl (Nat.le_of_ble_eq_true rfl) ⟨Nat.zero_le _, Nat.zero_le _⟩ (fun v0 w0 hq0 => ?_)
  obtain ⟨rfl, rfl⟩ := hq0
  show G Γ (va_pl L (fw K f F B T (aB (aB s (bPush x)) (bIx 184 m)))) 0 0 13 [(0, .ref F), (1, .int x), (2, .int m)] []
  have hr : LB (aB (aB s (bPush x)) (bIx 184 m)) 0 := hr.app (Nat.le_of_ble_eq_true rfl)
  exact g_vret hX hR dX0_hand_13 ⟨rfl, by simp only [aB_aB] <;> rfl⟩

set_option maxHeartbeats 4000000 in
set_option maxRecDepth 100000 in
theorem f_load (l : Launch) (D : va_G) (K : Nat → ClassId) (L : List Nat) (f : Nat → va_E) (F B T : Nat) (s : FS) (x : Int32) (hF : fOk L F B T) (hr : LB s 6) : Mc l yX0_load (wM yX0_load cX0_load 2 none) (rmL 2 0 0) D (yY K) [.ref F, .int x] (va_pl L (fw K f F B T s)) (fun v w => v = none ∧ w = va_pl L (fw K f F B T (aB s (bLoad x)))) 0 0 := by
  refine m_start (lv := [(0, .ref F), (1, .int x)]) rfl (Nat.le_of_ble_eq_true rfl) rfl (fun Γ hX hRm hnL hY hDD hLa hR hI hE => ?_)
  have hU : ∀ w ∈ wU, w ∈ wM yX0_load cX0_load 2 none := fun w h => wM_in h
  subst hLa
  subst hDD
  refine g_aload_n (n := 1) hX dX0_load_0 rfl rfl rfl ?_
  refine g_sipush (n := 4) (v := 178) hX dX0_load_1 rfl rfl ?_
  refine g_bipush (n := 6) (v := 8) hX dX0_load_4 rfl rfl ?_
  refine g_pcallV (n := 9) (As := [.int 178, .int 8]) (rest := []) hX hE hU hY dX0_load_6 rfl yv_X0_withIndex um_X0_134 (f_withIndex _ _ K L f F B T s 178 8 hF (hr.le (by decide))) ⟨rfl, rfl⟩ (rm_le hRm rfl rfl) rfl hF.1 fw_F rfl rfl rfl (Nat.le_of_ble_eq_true rfl) ⟨Nat.zero_le _, Nat.zero_le _⟩ (fun v0 w0 hq0 => ?_)
  obtain ⟨rfl, rfl⟩ := hq0
  show G Γ (va_pl L (fw K f F B T (aB s (bIx 178 8)))) 0 0 9 [(0, .ref F), (1, .int x)] []
  have hr : LB (aB s (bIx 178 8)) 3 := hr.app (Nat.le_of_ble_eq_true rfl)
  refine g_aload_n (n := 10) hX dX0_load_9 rfl rfl rfl ?_
  refine g_iload_n (n := 11) hX dX0_load_10 rfl rfl rfl ?_
  refine g_pcallV (n := 14) (As := [.int x]) (rest := []) hX hE hU hY dX0_load_11 rfl yv_X0_push um_X0_131 (f_push _ _ K L f F B T (aB s (bIx 178 8)) x hF (hr.le (by decide))) ⟨rfl, rfl⟩ (rm_le hRm rfl rfl) rfl hF.1 fw_F rfl rfl rfl (Nat.le_of_ble_eq_true rfl) ⟨Nat.zero_le _, Nat.zero_le _⟩ (fun v0 w0 hq0 => ?_)
  obtain ⟨rfl, rfl⟩ := hq0
  show G Γ (va_pl L (fw K f F B T (aB (aB s (bIx 178 8)) (bPush x)))) 0 0 14 [(0, .ref F), (1, .int x)] []
  have hr : LB (aB (aB s (bIx 178 8)) (bPush x)) 1 := hr.app (Nat.le_of_ble_eq_true rfl)
  refine g_aload_n (n := 15) hX dX0_load_14 rfl rfl rfl ?_
  refine g_bipush (n := 17) (v := 51) hX dX0_load_15 rfl rfl ?_
  refine g_pcallV (n := 20) (As := [.int 51]) (rest := []) hX hE hU hY dX0_load_17 rfl yv_X0_u1 um_X0_126 (f_u1 _ _ K L f F B T (aB (aB s (bIx 178 8)) (bPush x)) 51 hF (hr.le (by decide))) ⟨rfl, rfl⟩ (rm_le hRm rfl rfl) rfl hF.1 fw_F rfl rfl rfl (Nat.le_of_ble_eq_true rfl) ⟨Nat.zero_le _, Nat.zero_le _⟩ (fun v0 w0 hq0 => ?_)
  obtain ⟨rfl, rfl⟩ := hq0
  show G Γ (va_pl L (fw K f F B T (aB (aB (aB s (bIx 178 8)) (bPush x)) ([51])))) 0 0 20 [(0, .ref F), (1, .int x)] []
  have hr : LB (aB (aB (aB s (bIx 178 8)) (bPush x)) ([51])) 0 := hr.app (Nat.le_of_ble_eq_true rfl)
  exact g_vret hX hR dX0_load_20 ⟨rfl, by simp only [aB_aB] <;> rfl⟩

def bAddr (x : Int32) : List Int32 := bWords ++ bPush x
set_option maxHeartbeats 4000000 in
set_option maxRecDepth 100000 in
theorem f_address (l : Launch) (D : va_G) (K : Nat → ClassId) (L : List Nat) (f : Nat → va_E) (F B T : Nat) (s : FS) (x : Int32) (hF : fOk L F B T) (hr : LB s 5) : Mc l yX0_address (wM yX0_address cX0_address 2 none) (rmL 2 0 0) D (yY K) [.ref F, .int x] (va_pl L (fw K f F B T s)) (fun v w => v = none ∧ w = va_pl L (fw K f F B T (aB s (bAddr x)))) 0 0 := by
  refine m_start (lv := [(0, .ref F), (1, .int x)]) rfl (Nat.le_of_ble_eq_true rfl) rfl (fun Γ hX hRm hnL hY hDD hLa hR hI hE => ?_)
  have hU : ∀ w ∈ wU, w ∈ wM yX0_address cX0_address 2 none := fun w h => wM_in h
  subst hLa
  subst hDD
  refine g_aload_n (n := 1) hX dX0_address_0 rfl rfl rfl ?_
  refine g_sipush (n := 4) (v := 178) hX dX0_address_1 rfl rfl ?_
  refine g_bipush (n := 6) (v := 8) hX dX0_address_4 rfl rfl ?_
  refine g_pcallV (n := 9) (As := [.int 178, .int 8]) (rest := []) hX hE hU hY dX0_address_6 rfl yv_X0_withIndex um_X0_134 (f_withIndex _ _ K L f F B T s 178 8 hF (hr.le (by decide))) ⟨rfl, rfl⟩ (rm_le hRm rfl rfl) rfl hF.1 fw_F rfl rfl rfl (Nat.le_of_ble_eq_true rfl) ⟨Nat.zero_le _, Nat.zero_le _⟩ (fun v0 w0 hq0 => ?_)
  obtain ⟨rfl, rfl⟩ := hq0
  show G Γ (va_pl L (fw K f F B T (aB s (bIx 178 8)))) 0 0 9 [(0, .ref F), (1, .int x)] []
  have hr : LB (aB s (bIx 178 8)) 2 := hr.app (Nat.le_of_ble_eq_true rfl)
  refine g_aload_n (n := 10) hX dX0_address_9 rfl rfl rfl ?_
  refine g_iload_n (n := 11) hX dX0_address_10 rfl rfl rfl ?_
  refine g_pcallV (n := 14) (As := [.int x]) (rest := []) hX hE hU hY dX0_address_11 rfl yv_X0_push um_X0_131 (f_push _ _ K L f F B T (aB s (bIx 178 8)) x hF (hr.le (by decide))) ⟨rfl, rfl⟩ (rm_le hRm rfl rfl) rfl hF.1 fw_F rfl rfl rfl (Nat.le_of_ble_eq_true rfl) ⟨Nat.zero_le _, Nat.zero_le _⟩ (fun v0 w0 hq0 => ?_)
  obtain ⟨rfl, rfl⟩ := hq0
  show G Γ (va_pl L (fw K f F B T (aB (aB s (bIx 178 8)) (bPush x)))) 0 0 14 [(0, .ref F), (1, .int x)] []
  have hr : LB (aB (aB s (bIx 178 8)) (bPush x)) 0 := hr.app (Nat.le_of_ble_eq_true rfl)
  exact g_vret hX hR dX0_address_14 ⟨rfl, by simp only [aB_aB] <;> rfl⟩

set_option maxHeartbeats 4000000 in
set_option maxRecDepth 100000 in
theorem f_numberedText (l : Launch) (D : va_G) (K : Nat → ClassId) (L : List Nat) (f : Nat → va_E) (F B T : Nat) (s : FS) (c x : Int32) (hF : fOk L F B T) (hr : LB s 6) : Mc l yX0_numberedText (wM yX0_numberedText cX0_numberedText 3 none) (rmL 2 0 0) D (yY K) [.ref F, .int c, .int x] (va_pl L (fw K f F B T s)) (fun v w => v = none ∧ w = va_pl L (fw K f F B T (aB s (bNum c x)))) 0 0 := by
  refine m_start (lv := [(0, .ref F), (1, .int c), (2, .int x)]) rfl (Nat.le_of_ble_eq_true rfl) rfl (fun Γ hX hRm hnL hY hDD hLa hR hI hE => ?_)
  have hU : ∀ w ∈ wU, w ∈ wM yX0_numberedText cX0_numberedText 3 none := fun w h => wM_in h
  subst hLa
  subst hDD
  by_cases hx : x < 10
  · refine g_aload_n (n := 1) hX dX0_numberedText_0 rfl rfl rfl ?_
    refine g_iconst (n := 2) (v := 1) hX dX0_numberedText_1 rfl rfl ?_
    refine g_pcallV (n := 5) (As := [.int 1]) (rest := []) hX hE hU hY dX0_numberedText_2 rfl yv_X0_u1 um_X0_126 (f_u1 _ _ K L f F B T s 1 hF (hr.le (by decide))) ⟨rfl, rfl⟩ (rm_le hRm rfl rfl) rfl hF.1 fw_F rfl rfl rfl (Nat.le_of_ble_eq_true rfl) ⟨Nat.zero_le _, Nat.zero_le _⟩ (fun v0 w0 hq0 => ?_)
    obtain ⟨rfl, rfl⟩ := hq0
    show G Γ (va_pl L (fw K f F B T (aB s ([1])))) 0 0 5 [(0, .ref F), (1, .int c), (2, .int x)] []
    have hr : LB (aB s ([1])) 5 := hr.app (Nat.le_of_ble_eq_true rfl)
    refine g_aload_n (n := 6) hX dX0_numberedText_5 rfl rfl rfl ?_
    refine g_iload_n (n := 7) hX dX0_numberedText_6 rfl rfl rfl ?_
    refine g_bipush (n := 9) (v := 10) hX dX0_numberedText_7 rfl rfl ?_
    refine g_icmp_ge (n := 12) (tgt := 16) hX dX0_numberedText_9 rfl (by decide) (fun c9 => absurd c9 (Int32.not_le.mpr hx)) (fun c9 => ?_)
    refine g_iconst (n := 13) (v := 2) hX dX0_numberedText_12 rfl rfl ?_
    refine g_goto (n := 17) hX dX0_numberedText_13 (by decide) ?_
    refine g_pcallV (n := 20) (As := [.int 2]) (rest := []) hX hE hU hY dX0_numberedText_17 rfl yv_X0_u2 um_X0_68 (f_u2 _ _ K L f F B T (aB s ([1])) 2 hF (hr.le (by decide))) ⟨rfl, rfl⟩ (rm_le hRm rfl rfl) rfl hF.1 fw_F rfl rfl rfl (Nat.le_of_ble_eq_true rfl) ⟨Nat.zero_le _, Nat.zero_le _⟩ (fun v0 w0 hq0 => ?_)
    obtain ⟨rfl, rfl⟩ := hq0
    show G Γ (va_pl L (fw K f F B T (aB (aB s ([1])) (b2 2)))) 0 0 20 [(0, .ref F), (1, .int c), (2, .int x)] []
    have hr : LB (aB (aB s ([1])) (b2 2)) 3 := hr.app (Nat.le_of_ble_eq_true rfl)
    refine g_aload_n (n := 21) hX dX0_numberedText_20 rfl rfl rfl ?_
    refine g_iload_n (n := 22) hX dX0_numberedText_21 rfl rfl rfl ?_
    refine g_pcallV (n := 25) (As := [.int c]) (rest := []) hX hE hU hY dX0_numberedText_22 rfl yv_X0_u1 um_X0_126 (f_u1 _ _ K L f F B T (aB (aB s ([1])) (b2 2)) c hF (hr.le (by decide))) ⟨rfl, rfl⟩ (rm_le hRm rfl rfl) rfl hF.1 fw_F rfl rfl rfl (Nat.le_of_ble_eq_true rfl) ⟨Nat.zero_le _, Nat.zero_le _⟩ (fun v0 w0 hq0 => ?_)
    obtain ⟨rfl, rfl⟩ := hq0
    show G Γ (va_pl L (fw K f F B T (aB (aB (aB s ([1])) (b2 2)) ([c])))) 0 0 25 [(0, .ref F), (1, .int c), (2, .int x)] []
    have hr : LB (aB (aB (aB s ([1])) (b2 2)) ([c])) 2 := hr.app (Nat.le_of_ble_eq_true rfl)
    refine g_iload_n (n := 26) hX dX0_numberedText_25 rfl rfl rfl ?_
    refine g_bipush (n := 28) (v := 10) hX dX0_numberedText_26 rfl rfl ?_
    refine g_icmp_lt (n := 31) (tgt := 42) hX dX0_numberedText_28 rfl (by decide) (fun c28 => ?_) (fun c28 => absurd hx c28)
    refine g_aload_n (n := 43) hX dX0_numberedText_42 rfl rfl rfl ?_
    refine g_bipush (n := 45) (v := 48) hX dX0_numberedText_43 rfl rfl ?_
    refine g_iload_n (n := 46) hX dX0_numberedText_45 rfl rfl rfl ?_
    refine g_bipush (n := 48) (v := 10) hX dX0_numberedText_46 rfl rfl ?_
    refine g_irem (n := 49) (v := x - x / 10 * 10) hX dX0_numberedText_48 rfl (by decide) rfl ?_
    refine g_iadd (n := 50) (v := 48 + (x - x / 10 * 10)) hX dX0_numberedText_49 rfl rfl ?_
    refine g_pcallV (n := 53) (As := [.int (48 + (x - x / 10 * 10))]) (rest := []) hX hE hU hY dX0_numberedText_50 rfl yv_X0_u1 um_X0_126 (f_u1 _ _ K L f F B T (aB (aB (aB s ([1])) (b2 2)) ([c])) (48 + (x - x / 10 * 10)) hF (hr.le (by decide))) ⟨rfl, rfl⟩ (rm_le hRm rfl rfl) rfl hF.1 fw_F rfl rfl rfl (Nat.le_of_ble_eq_true rfl) ⟨Nat.zero_le _, Nat.zero_le _⟩ (fun v0 w0 hq0 => ?_)
    obtain ⟨rfl, rfl⟩ := hq0
    show G Γ (va_pl L (fw K f F B T (aB (aB (aB (aB s ([1])) (b2 2)) ([c])) ([48 + (x - x / 10 * 10)])))) 0 0 53 [(0, .ref F), (1, .int c), (2, .int x)] []
    have hr : LB (aB (aB (aB (aB s ([1])) (b2 2)) ([c])) ([48 + (x - x / 10 * 10)])) 1 := hr.app (Nat.le_of_ble_eq_true rfl)
    exact g_vret hX hR dX0_numberedText_53 ⟨rfl, by rw [bNum, if_neg (Int32.not_le.mpr hx), if_pos hx]; simp only [aB_aB, List.append_assoc, List.nil_append]⟩
  · refine g_aload_n (n := 1) hX dX0_numberedText_0 rfl rfl rfl ?_
    refine g_iconst (n := 2) (v := 1) hX dX0_numberedText_1 rfl rfl ?_
    refine g_pcallV (n := 5) (As := [.int 1]) (rest := []) hX hE hU hY dX0_numberedText_2 rfl yv_X0_u1 um_X0_126 (f_u1 _ _ K L f F B T s 1 hF (hr.le (by decide))) ⟨rfl, rfl⟩ (rm_le hRm rfl rfl) rfl hF.1 fw_F rfl rfl rfl (Nat.le_of_ble_eq_true rfl) ⟨Nat.zero_le _, Nat.zero_le _⟩ (fun v0 w0 hq0 => ?_)
    obtain ⟨rfl, rfl⟩ := hq0
    show G Γ (va_pl L (fw K f F B T (aB s ([1])))) 0 0 5 [(0, .ref F), (1, .int c), (2, .int x)] []
    have hr : LB (aB s ([1])) 5 := hr.app (Nat.le_of_ble_eq_true rfl)
    refine g_aload_n (n := 6) hX dX0_numberedText_5 rfl rfl rfl ?_
    refine g_iload_n (n := 7) hX dX0_numberedText_6 rfl rfl rfl ?_
    refine g_bipush (n := 9) (v := 10) hX dX0_numberedText_7 rfl rfl ?_
    refine g_icmp_ge (n := 12) (tgt := 16) hX dX0_numberedText_9 rfl (by decide) (fun c9 => ?_) (fun c9 => absurd (Int32.not_lt.mp hx) c9)
    refine g_iconst (n := 17) (v := 3) hX dX0_numberedText_16 rfl rfl ?_
    refine g_pcallV (n := 20) (As := [.int 3]) (rest := []) hX hE hU hY dX0_numberedText_17 rfl yv_X0_u2 um_X0_68 (f_u2 _ _ K L f F B T (aB s ([1])) 3 hF (hr.le (by decide))) ⟨rfl, rfl⟩ (rm_le hRm rfl rfl) rfl hF.1 fw_F rfl rfl rfl (Nat.le_of_ble_eq_true rfl) ⟨Nat.zero_le _, Nat.zero_le _⟩ (fun v0 w0 hq0 => ?_)
    obtain ⟨rfl, rfl⟩ := hq0
    show G Γ (va_pl L (fw K f F B T (aB (aB s ([1])) (b2 3)))) 0 0 20 [(0, .ref F), (1, .int c), (2, .int x)] []
    have hr : LB (aB (aB s ([1])) (b2 3)) 3 := hr.app (Nat.le_of_ble_eq_true rfl)
    refine g_aload_n (n := 21) hX dX0_numberedText_20 rfl rfl rfl ?_
    refine g_iload_n (n := 22) hX dX0_numberedText_21 rfl rfl rfl ?_
    refine g_pcallV (n := 25) (As := [.int c]) (rest := []) hX hE hU hY dX0_numberedText_22 rfl yv_X0_u1 um_X0_126 (f_u1 _ _ K L f F B T (aB (aB s ([1])) (b2 3)) c hF (hr.le (by decide))) ⟨rfl, rfl⟩ (rm_le hRm rfl rfl) rfl hF.1 fw_F rfl rfl rfl (Nat.le_of_ble_eq_true rfl) ⟨Nat.zero_le _, Nat.zero_le _⟩ (fun v0 w0 hq0 => ?_)
    obtain ⟨rfl, rfl⟩ := hq0
    show G Γ (va_pl L (fw K f F B T (aB (aB (aB s ([1])) (b2 3)) ([c])))) 0 0 25 [(0, .ref F), (1, .int c), (2, .int x)] []
    have hr : LB (aB (aB (aB s ([1])) (b2 3)) ([c])) 2 := hr.app (Nat.le_of_ble_eq_true rfl)
    refine g_iload_n (n := 26) hX dX0_numberedText_25 rfl rfl rfl ?_
    refine g_bipush (n := 28) (v := 10) hX dX0_numberedText_26 rfl rfl ?_
    refine g_icmp_lt (n := 31) (tgt := 42) hX dX0_numberedText_28 rfl (by decide) (fun c28 => absurd c28 hx) (fun c28 => ?_)
    refine g_aload_n (n := 32) hX dX0_numberedText_31 rfl rfl rfl ?_
    refine g_bipush (n := 34) (v := 48) hX dX0_numberedText_32 rfl rfl ?_
    refine g_iload_n (n := 35) hX dX0_numberedText_34 rfl rfl rfl ?_
    refine g_bipush (n := 37) (v := 10) hX dX0_numberedText_35 rfl rfl ?_
    refine g_idiv (n := 38) (v := x / 10) hX dX0_numberedText_37 rfl (by decide) rfl ?_
    refine g_iadd (n := 39) (v := 48 + (x / 10)) hX dX0_numberedText_38 rfl rfl ?_
    refine g_pcallV (n := 42) (As := [.int (48 + (x / 10))]) (rest := []) hX hE hU hY dX0_numberedText_39 rfl yv_X0_u1 um_X0_126 (f_u1 _ _ K L f F B T (aB (aB (aB s ([1])) (b2 3)) ([c])) (48 + (x / 10)) hF (hr.le (by decide))) ⟨rfl, rfl⟩ (rm_le hRm rfl rfl) rfl hF.1 fw_F rfl rfl rfl (Nat.le_of_ble_eq_true rfl) ⟨Nat.zero_le _, Nat.zero_le _⟩ (fun v0 w0 hq0 => ?_)
    obtain ⟨rfl, rfl⟩ := hq0
    show G Γ (va_pl L (fw K f F B T (aB (aB (aB (aB s ([1])) (b2 3)) ([c])) ([48 + (x / 10)])))) 0 0 42 [(0, .ref F), (1, .int c), (2, .int x)] []
    have hr : LB (aB (aB (aB (aB s ([1])) (b2 3)) ([c])) ([48 + (x / 10)])) 1 := hr.app (Nat.le_of_ble_eq_true rfl)
    refine g_aload_n (n := 43) hX dX0_numberedText_42 rfl rfl rfl ?_
    refine g_bipush (n := 45) (v := 48) hX dX0_numberedText_43 rfl rfl ?_
    refine g_iload_n (n := 46) hX dX0_numberedText_45 rfl rfl rfl ?_
    refine g_bipush (n := 48) (v := 10) hX dX0_numberedText_46 rfl rfl ?_
    refine g_irem (n := 49) (v := x - x / 10 * 10) hX dX0_numberedText_48 rfl (by decide) rfl ?_
    refine g_iadd (n := 50) (v := 48 + (x - x / 10 * 10)) hX dX0_numberedText_49 rfl rfl ?_
    refine g_pcallV (n := 53) (As := [.int (48 + (x - x / 10 * 10))]) (rest := []) hX hE hU hY dX0_numberedText_50 rfl yv_X0_u1 um_X0_126 (f_u1 _ _ K L f F B T (aB (aB (aB (aB s ([1])) (b2 3)) ([c])) ([48 + (x / 10)])) (48 + (x - x / 10 * 10)) hF (hr.le (by decide))) ⟨rfl, rfl⟩ (rm_le hRm rfl rfl) rfl hF.1 fw_F rfl rfl rfl (Nat.le_of_ble_eq_true rfl) ⟨Nat.zero_le _, Nat.zero_le _⟩ (fun v0 w0 hq0 => ?_)
    obtain ⟨rfl, rfl⟩ := hq0
    show G Γ (va_pl L (fw K f F B T (aB (aB (aB (aB (aB s ([1])) (b2 3)) ([c])) ([48 + (x / 10)])) ([48 + (x - x / 10 * 10)])))) 0 0 53 [(0, .ref F), (1, .int c), (2, .int x)] []
    have hr : LB (aB (aB (aB (aB (aB s ([1])) (b2 3)) ([c])) ([48 + (x / 10)])) ([48 + (x - x / 10 * 10)])) 0 := hr.app (Nat.le_of_ble_eq_true rfl)
    exact g_vret hX hR dX0_numberedText_53 ⟨rfl, by rw [bNum, if_pos (Int32.not_lt.mp hx), if_neg hx]; simp only [aB_aB, List.append_assoc, List.nil_append]⟩

set_option maxHeartbeats 4000000 in
set_option maxRecDepth 100000 in
theorem f_isInside (l : Launch) (D : va_G) (K : Nat → ClassId) (L : List Nat) (f : Nat → va_E) (F B T : Nat) (s : FS) (i : Int32) (hF : fOk L F B T) : Mc l yX0_isInside (wM yX0_isInside cX0_isInside 2 (some .boolean)) (rmL 0 0 0) D (yY K) [.ref F, .int i] (va_pl L (fw K f F B T s)) (fun v w => v = some (.int (bI (s.2.2.1 ≤ i ∧ i ≤ s.2.2.2.1))) ∧ w = va_pl L (fw K f F B T s)) 0 0 := by
  refine m_start (lv := [(0, .ref F), (1, .int i)]) rfl (Nat.le_of_ble_eq_true rfl) rfl (fun Γ hX hRm hnL hY hDD hLa hR hI hE => ?_)
  have hU : ∀ w ∈ wU, w ∈ wM yX0_isInside cX0_isInside 2 (some .boolean) := fun w h => wM_in h
  subst hLa
  subst hDD
  refine g_iload_n (n := 1) hX dX0_isInside_0 rfl rfl rfl ?_
  refine g_aload_n (n := 2) hX dX0_isInside_1 rfl rfl rfl ?_
  refine g_fget (n := 5) 3 (v := .int s.2.2.1) hX hU hF dX0_isInside_2 rfl rfl uf_X0_52 rfl ?_
  refine g_icmp_lt (n := 8) (tgt := 20) hX dX0_isInside_5 rfl (by decide) (fun c5 => ?_) (fun c5 => ?_)
  · refine g_iconst (n := 21) (v := 0) hX dX0_isInside_20 rfl rfl ?_
    exact g_zret hX hR dX0_isInside_21 rfl ⟨by rw [bI_f (fun h9 => Int32.not_lt.mpr h9.1 c5)], rfl⟩
  · refine g_iload_n (n := 9) hX dX0_isInside_8 rfl rfl rfl ?_
    refine g_aload_n (n := 10) hX dX0_isInside_9 rfl rfl rfl ?_
    refine g_fget (n := 13) 4 (v := .int s.2.2.2.1) hX hU hF dX0_isInside_10 rfl rfl uf_X0_61 rfl ?_
    refine g_icmp_gt (n := 16) (tgt := 20) hX dX0_isInside_13 rfl (by decide) (fun c13 => ?_) (fun c13 => ?_)
    · refine g_iconst (n := 21) (v := 0) hX dX0_isInside_20 rfl rfl ?_
      exact g_zret hX hR dX0_isInside_21 rfl ⟨by rw [bI_f (fun h9 => Int32.not_lt.mpr h9.2 c13)], rfl⟩
    · refine g_iconst (n := 17) (v := 1) hX dX0_isInside_16 rfl rfl ?_
      refine g_goto (n := 21) hX dX0_isInside_17 (by decide) ?_
      exact g_zret hX hR dX0_isInside_21 rfl ⟨by rw [bI_t ⟨Int32.not_lt.mp c5, Int32.not_lt.mp c13⟩], rfl⟩

set_option maxHeartbeats 4000000 in
set_option maxRecDepth 100000 in
theorem f_jumpLength (l : Launch) (D : va_G) (K : Nat → ClassId) (L : List Nat) (f : Nat → va_E) (F B T : Nat) (s : FS) (i : Int32) (hF : fOk L F B T) : Mc l yX0_jumpLength (wM yX0_jumpLength cX0_jumpLength 2 (some .int)) (rmL 1 0 0) D (yY K) [.ref F, .int i] (va_pl L (fw K f F B T s)) (fun v w => v = some (.int (nI (goN i s.2.2.1 s.2.2.2.1))) ∧ w = va_pl L (fw K f F B T s)) 0 0 := by
  refine m_start (lv := [(0, .ref F), (1, .int i)]) rfl (Nat.le_of_ble_eq_true rfl) rfl (fun Γ hX hRm hnL hY hDD hLa hR hI hE => ?_)
  have hU : ∀ w ∈ wU, w ∈ wM yX0_jumpLength cX0_jumpLength 2 (some .int) := fun w h => wM_in h
  subst hLa
  subst hDD
  refine g_aload_n (n := 1) hX dX0_jumpLength_0 rfl rfl rfl ?_
  refine g_iload_n (n := 2) hX dX0_jumpLength_1 rfl rfl rfl ?_
  refine g_pcallV (n := 5) (As := [.int i]) (rest := []) hX hE hU hY dX0_jumpLength_2 rfl yv_X0_isInside um_X0_170 (f_isInside _ _ K L f F B T s i hF) ⟨rfl, rfl⟩ (rm_le hRm rfl rfl) rfl hF.1 fw_F rfl rfl rfl (Nat.le_of_ble_eq_true rfl) ⟨Nat.zero_le _, Nat.zero_le _⟩ (fun v0 w0 hq0 => ?_)
  obtain ⟨rfl, rfl⟩ := hq0
  show G Γ (va_pl L (fw K f F B T s)) 0 0 5 [(0, .ref F), (1, .int i)] [.int (bI (s.2.2.1 ≤ i ∧ i ≤ s.2.2.2.1))]
  refine g_if_eq (n := 8) (tgt := 12) hX dX0_jumpLength_5 rfl (by decide) (fun c5 => ?_) (fun c5 => ?_)
  · have c5 := bI_z.mp c5
    refine g_iconst (n := 13) (v := 4) hX dX0_jumpLength_12 rfl rfl ?_
    exact g_iret hX hR dX0_jumpLength_13 ⟨by rw [goN, if_neg c5]; rfl, rfl⟩
  · have c5 := fun h9 => c5 (bI_z.mpr h9)
    refine g_iconst (n := 9) (v := 3) hX dX0_jumpLength_8 rfl rfl ?_
    refine g_goto (n := 13) hX dX0_jumpLength_9 (by decide) ?_
    exact g_iret hX hR dX0_jumpLength_13 ⟨by rw [goN, if_pos (Decidable.of_not_not c5)]; rfl, rfl⟩

def ariO (o : Int32) : Int32 := if o = 2 then 96 else if o = 3 then 100 else if o = 4 then 104 else if o = 5 then 108 else 112
set_option maxHeartbeats 4000000 in
set_option maxRecDepth 100000 in
theorem f_arithmeticOf (l : Launch) (D : va_G) (K : Nat → ClassId) (L : List Nat) (f : Nat → va_E) (F B T : Nat) (s : FS) (x : Int32) (hF : fOk L F B T) : Mc l yX0_arithmeticOf (wM yX0_arithmeticOf cX0_arithmeticOf 2 (some .int)) (rmL 0 0 0) D (yY K) [.ref F, .int x] (va_pl L (fw K f F B T s)) (fun v w => v = some (.int (ariO x)) ∧ w = va_pl L (fw K f F B T s)) 0 0 := by
  refine m_start (lv := [(0, .ref F), (1, .int x)]) rfl (Nat.le_of_ble_eq_true rfl) rfl (fun Γ hX hRm hnL hY hDD hLa hR hI hE => ?_)
  have hU : ∀ w ∈ wU, w ∈ wM yX0_arithmeticOf cX0_arithmeticOf 2 (some .int) := fun w h => wM_in h
  subst hLa
  subst hDD
  refine g_iload_n (n := 1) hX dX0_arithmeticOf_0 rfl rfl rfl ?_
  rcases sw_split x (2) (5) with hsw | hsw
  · refine g_tableOut (n := 44) hX dX0_arithmeticOf_1 hsw (by decide) ?_
    have hno : ∀ q : Int32, (2 ≤ q.toInt ∧ q.toInt ≤ 5) → ¬ x = q := fun q hq h9 => by rw [h9] at hsw; omega
    refine g_bipush (n := 46) (v := 112) hX dX0_arithmeticOf_44 rfl rfl ?_
    exact g_iret hX hR dX0_arithmeticOf_46 ⟨by rw [ariO, if_neg (hno 2 (by decide)), if_neg (hno 3 (by decide)), if_neg (hno 4 (by decide)), if_neg (hno 5 (by decide))], rfl⟩
  · obtain ⟨kz, hk1, hk2⟩ := hsw
    rcases (show kz = (2 : Int) ∨ kz = (3 : Int) ∨ kz = (4 : Int) ∨ kz = (5 : Int) by omega) with hkz | hkz | hkz | hkz
    · have hxe : x = (2 : Int32) := sw_val (hkz ▸ hk1) (by decide)
      refine g_tableIn (n := 32) (off := 31) hX dX0_arithmeticOf_1 (by rw [hxe]; decide) (by rw [hxe]; decide) (by rw [hxe]; rfl) (by decide) ?_
      refine g_bipush (n := 34) (v := 96) hX dX0_arithmeticOf_32 rfl rfl ?_
      exact g_iret hX hR dX0_arithmeticOf_34 ⟨by rw [ariO, if_pos hxe], rfl⟩
    · have hxe : x = (3 : Int32) := sw_val (hkz ▸ hk1) (by decide)
      refine g_tableIn (n := 35) (off := 34) hX dX0_arithmeticOf_1 (by rw [hxe]; decide) (by rw [hxe]; decide) (by rw [hxe]; rfl) (by decide) ?_
      refine g_bipush (n := 37) (v := 100) hX dX0_arithmeticOf_35 rfl rfl ?_
      exact g_iret hX hR dX0_arithmeticOf_37 ⟨by rw [ariO, if_neg (by rw [hxe]; decide), if_pos hxe], rfl⟩
    · have hxe : x = (4 : Int32) := sw_val (hkz ▸ hk1) (by decide)
      refine g_tableIn (n := 38) (off := 37) hX dX0_arithmeticOf_1 (by rw [hxe]; decide) (by rw [hxe]; decide) (by rw [hxe]; rfl) (by decide) ?_
      refine g_bipush (n := 40) (v := 104) hX dX0_arithmeticOf_38 rfl rfl ?_
      exact g_iret hX hR dX0_arithmeticOf_40 ⟨by rw [ariO, if_neg (by rw [hxe]; decide), if_neg (by rw [hxe]; decide), if_pos hxe], rfl⟩
    · have hxe : x = (5 : Int32) := sw_val (hkz ▸ hk1) (by decide)
      refine g_tableIn (n := 41) (off := 40) hX dX0_arithmeticOf_1 (by rw [hxe]; decide) (by rw [hxe]; decide) (by rw [hxe]; rfl) (by decide) ?_
      refine g_bipush (n := 43) (v := 108) hX dX0_arithmeticOf_41 rfl rfl ?_
      exact g_iret hX hR dX0_arithmeticOf_43 ⟨by rw [ariO, if_neg (by rw [hxe]; decide), if_neg (by rw [hxe]; decide), if_neg (by rw [hxe]; decide), if_pos hxe], rfl⟩

