theorem aB_congr (s : FS) : ∀ (a b : List Int32), a.map Int32.toInt8 = b.map Int32.toInt8 → aB s a = aB s b := by
  intro a
  induction a generalizing s with
  | nil =>
    intro b h
    cases b with
    | nil => rfl
    | cons y b => exact absurd h (by simp)
  | cons x a ih =>
    intro b h
    cases b with
    | nil => exact absurd h (by simp)
    | cons y b =>
      rw [List.map_cons, List.map_cons, List.cons.injEq] at h
      have e : wB s x = wB s y := by unfold wB; rw [h.1]
      show aB (wB s x) a = aB (wB s y) b
      rw [e]
      exact ih _ b h.2
def bTU : List (Int64 × Int64) := [(7665538200540832110, 7435248793922397044), (87, 0), (23362, 0), (75, 0), (1667329132, 0), (675883350, 0), (1835102827, 0), (1937010544, 0), (1936292453, 0), (1131373669, 0), (675883337, 0), (4351440865049801790, 0), (2632022, 0)]
theorem tx_all : ∀ i : Nat, i < 13 → (bTx i).map Int32.toInt8 = (bUtf (bTU.getD i (0, 0)).1 (bTU.getD i (0, 0)).2).map Int32.toInt8 := by decide +kernel
theorem nm_80 : ∀ n : Nat, n ≤ 12 → (bNum 80 (nI n)).map Int32.toInt8 = (bNm 80 n).map Int32.toInt8 := by decide +kernel
theorem nm_109 : ∀ n : Nat, n ≤ 12 → (bNum 109 (nI n)).map Int32.toInt8 = (bNm 109 n).map Int32.toInt8 := by decide +kernel
theorem nm_80l (n : Nat) (h : n ≤ 12) : (bNm 80 n).length ≤ 6 := by
  have := congrArg List.length (nm_80 n h)
  rw [List.length_map, List.length_map] at this
  rw [← this]; exact bNum_len _ _
theorem nm_109l (n : Nat) (h : n ≤ 12) : (bNm 109 n).length ≤ 6 := by
  have := congrArg List.length (nm_109 n h)
  rw [List.length_map, List.length_map] at this
  rw [← this]; exact bNum_len _ _
set_option maxHeartbeats 4000000 in
set_option maxRecDepth 100000 in
theorem f_writeFace (l : Launch) (D : va_G) (K : Nat → ClassId) (L : List Nat) (f : Nat → va_E) (F B T : Nat) (s : FS) (mem : Nat) (hF : fOk L F B T) (hr : LB s 20) : Mc l yX0_writeFace (wM yX0_writeFace cX0_writeFace 2 none) (rmL 2 0 0) D (yY K) [.ref F, .int (nI mem)] (va_pl L (fw K f F B T s)) (fun v w => v = none ∧ w = va_pl L (fw K f F B T (aB s (bFace mem)))) 0 0 := by
  refine m_start (lv := [(0, .ref F), (1, .int (nI mem))]) rfl (Nat.le_of_ble_eq_true rfl) rfl (fun Γ hX hRm hnL hY hDD hLa hR hI hE => ?_)
  have hU : ∀ w ∈ wU, w ∈ wM yX0_writeFace cX0_writeFace 2 none := fun w h => wM_in h
  subst hLa
  subst hDD
  refine g_aload_n (n := 1) hX dX0_writeFace_0 rfl rfl rfl ?_
  refine g_bipush (n := 3) (v := 33) hX dX0_writeFace_1 rfl rfl ?_
  refine g_pcallV (n := 6) (As := [.int 33]) (rest := []) hX hE hU hY dX0_writeFace_3 rfl yv_X0_u2 um_X0_68 (f_u2 _ _ K L f F B T s 33 hF (hr.le (by decide))) ⟨rfl, rfl⟩ (rm_le hRm rfl rfl) rfl hF.1 fw_F rfl rfl rfl (Nat.le_of_ble_eq_true rfl) ⟨Nat.zero_le _, Nat.zero_le _⟩ (fun v0 w0 hq0 => ?_)
  obtain ⟨rfl, rfl⟩ := hq0
  show G Γ (va_pl L (fw K f F B T (aB s (b2 33)))) 0 0 6 [(0, .ref F), (1, .int (nI mem))] []
  have hr : LB (aB s (b2 33)) 18 := hr.app (Nat.le_of_ble_eq_true rfl)
  refine g_aload_n (n := 7) hX dX0_writeFace_6 rfl rfl rfl ?_
  refine g_iconst (n := 8) (v := 2) hX dX0_writeFace_7 rfl rfl ?_
  refine g_pcallV (n := 11) (As := [.int 2]) (rest := []) hX hE hU hY dX0_writeFace_8 rfl yv_X0_u2 um_X0_68 (f_u2 _ _ K L f F B T (aB s (b2 33)) 2 hF (hr.le (by decide))) ⟨rfl, rfl⟩ (rm_le hRm rfl rfl) rfl hF.1 fw_F rfl rfl rfl (Nat.le_of_ble_eq_true rfl) ⟨Nat.zero_le _, Nat.zero_le _⟩ (fun v0 w0 hq0 => ?_)
  obtain ⟨rfl, rfl⟩ := hq0
  show G Γ (va_pl L (fw K f F B T (aB (aB s (b2 33)) (b2 2)))) 0 0 11 [(0, .ref F), (1, .int (nI mem))] []
  have hr : LB (aB (aB s (b2 33)) (b2 2)) 16 := hr.app (Nat.le_of_ble_eq_true rfl)
  refine g_aload_n (n := 12) hX dX0_writeFace_11 rfl rfl rfl ?_
  refine g_iconst (n := 13) (v := 4) hX dX0_writeFace_12 rfl rfl ?_
  refine g_pcallV (n := 16) (As := [.int 4]) (rest := []) hX hE hU hY dX0_writeFace_13 rfl yv_X0_u2 um_X0_68 (f_u2 _ _ K L f F B T (aB (aB s (b2 33)) (b2 2)) 4 hF (hr.le (by decide))) ⟨rfl, rfl⟩ (rm_le hRm rfl rfl) rfl hF.1 fw_F rfl rfl rfl (Nat.le_of_ble_eq_true rfl) ⟨Nat.zero_le _, Nat.zero_le _⟩ (fun v0 w0 hq0 => ?_)
  obtain ⟨rfl, rfl⟩ := hq0
  show G Γ (va_pl L (fw K f F B T (aB (aB (aB s (b2 33)) (b2 2)) (b2 4)))) 0 0 16 [(0, .ref F), (1, .int (nI mem))] []
  have hr : LB (aB (aB (aB s (b2 33)) (b2 2)) (b2 4)) 14 := hr.app (Nat.le_of_ble_eq_true rfl)
  refine g_aload_n (n := 17) hX dX0_writeFace_16 rfl rfl rfl ?_
  refine g_iconst (n := 18) (v := 0) hX dX0_writeFace_17 rfl rfl ?_
  refine g_pcallV (n := 21) (As := [.int 0]) (rest := []) hX hE hU hY dX0_writeFace_18 rfl yv_X0_u2 um_X0_68 (f_u2 _ _ K L f F B T (aB (aB (aB s (b2 33)) (b2 2)) (b2 4)) 0 hF (hr.le (by decide))) ⟨rfl, rfl⟩ (rm_le hRm rfl rfl) rfl hF.1 fw_F rfl rfl rfl (Nat.le_of_ble_eq_true rfl) ⟨Nat.zero_le _, Nat.zero_le _⟩ (fun v0 w0 hq0 => ?_)
  obtain ⟨rfl, rfl⟩ := hq0
  show G Γ (va_pl L (fw K f F B T (aB (aB (aB (aB s (b2 33)) (b2 2)) (b2 4)) (b2 0)))) 0 0 21 [(0, .ref F), (1, .int (nI mem))] []
  have hr : LB (aB (aB (aB (aB s (b2 33)) (b2 2)) (b2 4)) (b2 0)) 12 := hr.app (Nat.le_of_ble_eq_true rfl)
  refine g_aload_n (n := 22) hX dX0_writeFace_21 rfl rfl rfl ?_
  refine g_iconst (n := 23) (v := 1) hX dX0_writeFace_22 rfl rfl ?_
  refine g_pcallV (n := 26) (As := [.int 1]) (rest := []) hX hE hU hY dX0_writeFace_23 rfl yv_X0_u2 um_X0_68 (f_u2 _ _ K L f F B T (aB (aB (aB (aB s (b2 33)) (b2 2)) (b2 4)) (b2 0)) 1 hF (hr.le (by decide))) ⟨rfl, rfl⟩ (rm_le hRm rfl rfl) rfl hF.1 fw_F rfl rfl rfl (Nat.le_of_ble_eq_true rfl) ⟨Nat.zero_le _, Nat.zero_le _⟩ (fun v0 w0 hq0 => ?_)
  obtain ⟨rfl, rfl⟩ := hq0
  show G Γ (va_pl L (fw K f F B T (aB (aB (aB (aB (aB s (b2 33)) (b2 2)) (b2 4)) (b2 0)) (b2 1)))) 0 0 26 [(0, .ref F), (1, .int (nI mem))] []
  have hr : LB (aB (aB (aB (aB (aB s (b2 33)) (b2 2)) (b2 4)) (b2 0)) (b2 1)) 10 := hr.app (Nat.le_of_ble_eq_true rfl)
  refine g_aload_n (n := 27) hX dX0_writeFace_26 rfl rfl rfl ?_
  refine g_bipush (n := 29) (v := 8) hX dX0_writeFace_27 rfl rfl ?_
  refine g_pcallV (n := 32) (As := [.int 8]) (rest := []) hX hE hU hY dX0_writeFace_29 rfl yv_X0_u2 um_X0_68 (f_u2 _ _ K L f F B T (aB (aB (aB (aB (aB s (b2 33)) (b2 2)) (b2 4)) (b2 0)) (b2 1)) 8 hF (hr.le (by decide))) ⟨rfl, rfl⟩ (rm_le hRm rfl rfl) rfl hF.1 fw_F rfl rfl rfl (Nat.le_of_ble_eq_true rfl) ⟨Nat.zero_le _, Nat.zero_le _⟩ (fun v0 w0 hq0 => ?_)
  obtain ⟨rfl, rfl⟩ := hq0
  show G Γ (va_pl L (fw K f F B T (aB (aB (aB (aB (aB (aB s (b2 33)) (b2 2)) (b2 4)) (b2 0)) (b2 1)) (b2 8)))) 0 0 32 [(0, .ref F), (1, .int (nI mem))] []
  have hr : LB (aB (aB (aB (aB (aB (aB s (b2 33)) (b2 2)) (b2 4)) (b2 0)) (b2 1)) (b2 8)) 8 := hr.app (Nat.le_of_ble_eq_true rfl)
  refine g_aload_n (n := 33) hX dX0_writeFace_32 rfl rfl rfl ?_
  refine g_iconst (n := 34) (v := 5) hX dX0_writeFace_33 rfl rfl ?_
  refine g_pcallV (n := 37) (As := [.int 5]) (rest := []) hX hE hU hY dX0_writeFace_34 rfl yv_X0_u2 um_X0_68 (f_u2 _ _ K L f F B T (aB (aB (aB (aB (aB (aB s (b2 33)) (b2 2)) (b2 4)) (b2 0)) (b2 1)) (b2 8)) 5 hF (hr.le (by decide))) ⟨rfl, rfl⟩ (rm_le hRm rfl rfl) rfl hF.1 fw_F rfl rfl rfl (Nat.le_of_ble_eq_true rfl) ⟨Nat.zero_le _, Nat.zero_le _⟩ (fun v0 w0 hq0 => ?_)
  obtain ⟨rfl, rfl⟩ := hq0
  show G Γ (va_pl L (fw K f F B T (aB (aB (aB (aB (aB (aB (aB s (b2 33)) (b2 2)) (b2 4)) (b2 0)) (b2 1)) (b2 8)) (b2 5)))) 0 0 37 [(0, .ref F), (1, .int (nI mem))] []
  have hr : LB (aB (aB (aB (aB (aB (aB (aB s (b2 33)) (b2 2)) (b2 4)) (b2 0)) (b2 1)) (b2 8)) (b2 5)) 6 := hr.app (Nat.le_of_ble_eq_true rfl)
  refine g_aload_n (n := 38) hX dX0_writeFace_37 rfl rfl rfl ?_
  refine g_bipush (n := 40) (v := 6) hX dX0_writeFace_38 rfl rfl ?_
  refine g_pcallV (n := 43) (As := [.int 6]) (rest := []) hX hE hU hY dX0_writeFace_40 rfl yv_X0_u2 um_X0_68 (f_u2 _ _ K L f F B T (aB (aB (aB (aB (aB (aB (aB s (b2 33)) (b2 2)) (b2 4)) (b2 0)) (b2 1)) (b2 8)) (b2 5)) 6 hF (hr.le (by decide))) ⟨rfl, rfl⟩ (rm_le hRm rfl rfl) rfl hF.1 fw_F rfl rfl rfl (Nat.le_of_ble_eq_true rfl) ⟨Nat.zero_le _, Nat.zero_le _⟩ (fun v0 w0 hq0 => ?_)
  obtain ⟨rfl, rfl⟩ := hq0
  show G Γ (va_pl L (fw K f F B T (aB (aB (aB (aB (aB (aB (aB (aB s (b2 33)) (b2 2)) (b2 4)) (b2 0)) (b2 1)) (b2 8)) (b2 5)) (b2 6)))) 0 0 43 [(0, .ref F), (1, .int (nI mem))] []
  have hr : LB (aB (aB (aB (aB (aB (aB (aB (aB s (b2 33)) (b2 2)) (b2 4)) (b2 0)) (b2 1)) (b2 8)) (b2 5)) (b2 6)) 4 := hr.app (Nat.le_of_ble_eq_true rfl)
  refine g_aload_n (n := 44) hX dX0_writeFace_43 rfl rfl rfl ?_
  refine g_iconst (n := 45) (v := 0) hX dX0_writeFace_44 rfl rfl ?_
  refine g_pcallV (n := 48) (As := [.int 0]) (rest := []) hX hE hU hY dX0_writeFace_45 rfl yv_X0_u2 um_X0_68 (f_u2 _ _ K L f F B T (aB (aB (aB (aB (aB (aB (aB (aB s (b2 33)) (b2 2)) (b2 4)) (b2 0)) (b2 1)) (b2 8)) (b2 5)) (b2 6)) 0 hF (hr.le (by decide))) ⟨rfl, rfl⟩ (rm_le hRm rfl rfl) rfl hF.1 fw_F rfl rfl rfl (Nat.le_of_ble_eq_true rfl) ⟨Nat.zero_le _, Nat.zero_le _⟩ (fun v0 w0 hq0 => ?_)
  obtain ⟨rfl, rfl⟩ := hq0
  show G Γ (va_pl L (fw K f F B T (aB (aB (aB (aB (aB (aB (aB (aB (aB s (b2 33)) (b2 2)) (b2 4)) (b2 0)) (b2 1)) (b2 8)) (b2 5)) (b2 6)) (b2 0)))) 0 0 48 [(0, .ref F), (1, .int (nI mem))] []
  have hr : LB (aB (aB (aB (aB (aB (aB (aB (aB (aB s (b2 33)) (b2 2)) (b2 4)) (b2 0)) (b2 1)) (b2 8)) (b2 5)) (b2 6)) (b2 0)) 2 := hr.app (Nat.le_of_ble_eq_true rfl)
  refine g_aload_n (n := 49) hX dX0_writeFace_48 rfl rfl rfl ?_
  refine g_iconst (n := 50) (v := 1) hX dX0_writeFace_49 rfl rfl ?_
  refine g_iload_n (n := 51) hX dX0_writeFace_50 rfl rfl rfl ?_
  refine g_iadd (n := 52) (v := nI (1 + mem)) hX dX0_writeFace_51 rfl (nI_add 1 mem) ?_
  refine g_pcallV (n := 55) (As := [.int (nI (1 + mem))]) (rest := []) hX hE hU hY dX0_writeFace_52 rfl yv_X0_u2 um_X0_68 (f_u2 _ _ K L f F B T (aB (aB (aB (aB (aB (aB (aB (aB (aB s (b2 33)) (b2 2)) (b2 4)) (b2 0)) (b2 1)) (b2 8)) (b2 5)) (b2 6)) (b2 0)) (nI (1 + mem)) hF (hr.le (by decide))) ⟨rfl, rfl⟩ (rm_le hRm rfl rfl) rfl hF.1 fw_F rfl rfl rfl (Nat.le_of_ble_eq_true rfl) ⟨Nat.zero_le _, Nat.zero_le _⟩ (fun v0 w0 hq0 => ?_)
  obtain ⟨rfl, rfl⟩ := hq0
  show G Γ (va_pl L (fw K f F B T (aB (aB (aB (aB (aB (aB (aB (aB (aB (aB s (b2 33)) (b2 2)) (b2 4)) (b2 0)) (b2 1)) (b2 8)) (b2 5)) (b2 6)) (b2 0)) (b2 (nI (1 + mem)))))) 0 0 55 [(0, .ref F), (1, .int (nI mem))] []
  have hr : LB (aB (aB (aB (aB (aB (aB (aB (aB (aB (aB s (b2 33)) (b2 2)) (b2 4)) (b2 0)) (b2 1)) (b2 8)) (b2 5)) (b2 6)) (b2 0)) (b2 (nI (1 + mem)))) 0 := hr.app (Nat.le_of_ble_eq_true rfl)
  exact g_vret hX hR dX0_writeFace_55 ⟨rfl, by unfold bFace; simp only [aB_aB]⟩

set_option maxHeartbeats 4000000 in
set_option maxRecDepth 100000 in
theorem lp_wconst {Γ : gT} {K : Nat → ClassId} {L : List Nat} {f : Nat → va_E} {F B T : Nat} (hX : gOk Γ cX0_writeConstants (wM yX0_writeConstants cX0_writeConstants 4 none) RX0) (hE : gEv Γ) (hRm : gRm Γ = rmL 5 0 0) (hnL : gnL Γ = 4) (hY : gY Γ = yY K) (hF : fOk L F B T) (p mem : Nat) (hm : mem ≤ 6) (q : Nat) : ∀ (j i : Nat) (s : FS), i + j = mem → LB s (6 * j + q) → G Γ (va_pl L (fw K f F B T (aB s (catR (bNm 109) i j)))) 0 0 244 [(3, .int (nI mem)), (0, .ref F), (1, .int (nI p)), (2, .int (nI mem))] [] → G Γ (va_pl L (fw K f F B T s)) 0 0 226 [(3, .int (nI i)), (0, .ref F), (1, .int (nI p)), (2, .int (nI mem))] [] := by
  have hU : ∀ w ∈ wU, w ∈ wM yX0_writeConstants cX0_writeConstants 4 none := fun w h => wM_in h
  intro j
  induction j with
  | zero =>
    intro i s hi hr hk0
    have hii : i = mem := by omega
    rw [hii]
    rw [hii] at hk0
    have hk0 : G Γ (va_pl L (fw K f F B T s)) 0 0 244 [(3, .int (nI mem)), (0, .ref F), (1, .int (nI p)), (2, .int (nI mem))] [] := hk0
    refine g_iload_n (n := 227) hX dX0_writeConstants_226 rfl rfl rfl ?_
    refine g_iload_n (n := 228) hX dX0_writeConstants_227 rfl rfl rfl ?_
    refine g_icmp_ge (n := 231) (tgt := 244) hX dX0_writeConstants_228 rfl (by decide) (fun c228 => ?_) (fun c228 => absurd (nI_le (a := mem) (b := mem) (Nat.le_refl _) (by omega)) c228)
    exact hk0
  | succ j ih =>
    intro i s hi hr hk0
    refine g_iload_n (n := 227) hX dX0_writeConstants_226 rfl rfl rfl ?_
    refine g_iload_n (n := 228) hX dX0_writeConstants_227 rfl rfl rfl ?_
    refine g_icmp_ge (n := 231) (tgt := 244) hX dX0_writeConstants_228 rfl (by decide) (fun c228 => absurd c228 (nI_ge (a := i) (b := mem) (by omega) (by omega))) (fun c228 => ?_)
    refine g_aload_n (n := 232) hX dX0_writeConstants_231 rfl rfl rfl ?_
    refine g_bipush (n := 234) (v := 109) hX dX0_writeConstants_232 rfl rfl ?_
    refine g_iload_n (n := 235) hX dX0_writeConstants_234 rfl rfl rfl ?_
    refine g_pcallV (n := 238) (As := [.int 109, .int (nI i)]) (rest := []) hX hE hU hY dX0_writeConstants_235 rfl yv_X0_numberedText um_X0_81 (f_numberedText _ _ K L f F B T s 109 (nI i) hF (hr.le (by omega))) ⟨rfl, rfl⟩ (rm_le hRm rfl rfl) rfl hF.1 fw_F rfl rfl rfl (Nat.le_of_ble_eq_true rfl) ⟨Nat.zero_le _, Nat.zero_le _⟩ (fun v0 w0 hq0 => ?_)
    obtain ⟨rfl, hw0⟩ := hq0; rw [hw0, aB_congr _ _ _ (nm_109 i (by omega))]
    show G Γ (va_pl L (fw K f F B T (aB s (bNm 109 i)))) 0 0 238 [(3, .int (nI i)), (0, .ref F), (1, .int (nI p)), (2, .int (nI mem))] []
    have hr : LB (aB s (bNm 109 i)) (6 * j + q) := hr.app (by have := nm_109l i (by omega); omega)
    refine g_iinc (n := 241) (v := nI (i + 1)) (lv' := [(3, .int (nI (i + 1))), (0, .ref F), (1, .int (nI p)), (2, .int (nI mem))]) hX dX0_writeConstants_238 rfl rfl (nI_add i 1) (by rw [hnL]; rfl) rfl ?_
    refine g_goto (n := 226) hX dX0_writeConstants_241 (by decide) ?_
    refine g_pick (lv' := [(3, .int (nI (i + 1))), (0, .ref F), (1, .int (nI p)), (2, .int (nI mem))]) [0, 1, 2, 3] rfl ?_
    refine ih (i + 1) _ (by omega) hr ?_
    rw [catR_front, ← aB_aB] at hk0
    exact hk0
set_option maxHeartbeats 4000000 in
set_option maxRecDepth 100000 in
theorem f_writeConstants (l : Launch) (D : va_G) (K : Nat → ClassId) (L : List Nat) (f : Nat → va_E) (F B T : Nat) (s : FS) (p mem : Nat) (hp : p ≤ 12) (hm : mem ≤ 6) (hF : fOk L F B T) (hr : LB s (173 + 6 * mem)) : Mc l yX0_writeConstants (wM yX0_writeConstants cX0_writeConstants 4 none) (rmL 5 0 0) D (yY K) [.ref F, .int (nI p), .int (nI mem)] (va_pl L (fw K f F B T s)) (fun v w => v = none ∧ w = va_pl L (fw K f F B T (aB s (b4 (-889275714) ++ b2 0 ++ b2 46 ++ bConst p mem)))) 0 0 := by
  refine m_start (lv := [(0, .ref F), (1, .int (nI p)), (2, .int (nI mem))]) rfl (Nat.le_of_ble_eq_true rfl) rfl (fun Γ hX hRm hnL hY hDD hLa hR hI hE => ?_)
  have hU : ∀ w ∈ wU, w ∈ wM yX0_writeConstants cX0_writeConstants 4 none := fun w h => wM_in h
  subst hLa
  subst hDD
  refine g_aload_n (n := 1) hX dX0_writeConstants_0 rfl rfl rfl ?_
  refine g_ldc (n := 3) (v := (-889275714)) hX dX0_writeConstants_1 rfl (hU _ uk_X0_77) ?_
  refine g_pcallV (n := 6) (As := [.int (-889275714)]) (rest := []) hX hE hU hY dX0_writeConstants_3 rfl yv_X0_u4 um_X0_78 (f_u4 _ _ K L f F B T s (-889275714) hF (hr.le (by omega))) ⟨rfl, rfl⟩ (rm_le hRm rfl rfl) rfl hF.1 fw_F rfl rfl rfl (Nat.le_of_ble_eq_true rfl) ⟨Nat.zero_le _, Nat.zero_le _⟩ (fun v0 w0 hq0 => ?_)
  obtain ⟨rfl, rfl⟩ := hq0
  show G Γ (va_pl L (fw K f F B T (aB s (b4 (-889275714))))) 0 0 6 [(0, .ref F), (1, .int (nI p)), (2, .int (nI mem))] []
  have hr : LB (aB s (b4 (-889275714))) (169 + 6 * mem) := hr.app (by show 4 + _ ≤ _; omega)
  refine g_aload_n (n := 7) hX dX0_writeConstants_6 rfl rfl rfl ?_
  refine g_iconst (n := 8) (v := 0) hX dX0_writeConstants_7 rfl rfl ?_
  refine g_pcallV (n := 11) (As := [.int 0]) (rest := []) hX hE hU hY dX0_writeConstants_8 rfl yv_X0_u2 um_X0_68 (f_u2 _ _ K L f F B T (aB s (b4 (-889275714))) 0 hF (hr.le (by omega))) ⟨rfl, rfl⟩ (rm_le hRm rfl rfl) rfl hF.1 fw_F rfl rfl rfl (Nat.le_of_ble_eq_true rfl) ⟨Nat.zero_le _, Nat.zero_le _⟩ (fun v0 w0 hq0 => ?_)
  obtain ⟨rfl, rfl⟩ := hq0
  show G Γ (va_pl L (fw K f F B T (aB (aB s (b4 (-889275714))) (b2 0)))) 0 0 11 [(0, .ref F), (1, .int (nI p)), (2, .int (nI mem))] []
  have hr : LB (aB (aB s (b4 (-889275714))) (b2 0)) (167 + 6 * mem) := hr.app (by show 2 + _ ≤ _; omega)
  refine g_aload_n (n := 12) hX dX0_writeConstants_11 rfl rfl rfl ?_
  refine g_bipush (n := 14) (v := 46) hX dX0_writeConstants_12 rfl rfl ?_
  refine g_pcallV (n := 17) (As := [.int 46]) (rest := []) hX hE hU hY dX0_writeConstants_14 rfl yv_X0_u2 um_X0_68 (f_u2 _ _ K L f F B T (aB (aB s (b4 (-889275714))) (b2 0)) 46 hF (hr.le (by omega))) ⟨rfl, rfl⟩ (rm_le hRm rfl rfl) rfl hF.1 fw_F rfl rfl rfl (Nat.le_of_ble_eq_true rfl) ⟨Nat.zero_le _, Nat.zero_le _⟩ (fun v0 w0 hq0 => ?_)
  obtain ⟨rfl, rfl⟩ := hq0
  show G Γ (va_pl L (fw K f F B T (aB (aB (aB s (b4 (-889275714))) (b2 0)) (b2 46)))) 0 0 17 [(0, .ref F), (1, .int (nI p)), (2, .int (nI mem))] []
  have hr : LB (aB (aB (aB s (b4 (-889275714))) (b2 0)) (b2 46)) (165 + 6 * mem) := hr.app (by show 2 + _ ≤ _; omega)
  refine g_aload_n (n := 18) hX dX0_writeConstants_17 rfl rfl rfl ?_
  refine g_bipush (n := 20) (v := 28) hX dX0_writeConstants_18 rfl rfl ?_
  refine g_iload_n (n := 21) hX dX0_writeConstants_20 rfl rfl rfl ?_
  refine g_iadd (n := 22) (v := nI (28 + mem)) hX dX0_writeConstants_21 rfl (nI_add 28 mem) ?_
  refine g_pcallV (n := 25) (As := [.int (nI (28 + mem))]) (rest := []) hX hE hU hY dX0_writeConstants_22 rfl yv_X0_u2 um_X0_68 (f_u2 _ _ K L f F B T (aB (aB (aB s (b4 (-889275714))) (b2 0)) (b2 46)) (nI (28 + mem)) hF (hr.le (by omega))) ⟨rfl, rfl⟩ (rm_le hRm rfl rfl) rfl hF.1 fw_F rfl rfl rfl (Nat.le_of_ble_eq_true rfl) ⟨Nat.zero_le _, Nat.zero_le _⟩ (fun v0 w0 hq0 => ?_)
  obtain ⟨rfl, rfl⟩ := hq0
  show G Γ (va_pl L (fw K f F B T (aB (aB (aB (aB s (b4 (-889275714))) (b2 0)) (b2 46)) (b2 (nI (28 + mem)))))) 0 0 25 [(0, .ref F), (1, .int (nI p)), (2, .int (nI mem))] []
  have hr : LB (aB (aB (aB (aB s (b4 (-889275714))) (b2 0)) (b2 46)) (b2 (nI (28 + mem)))) (163 + 6 * mem) := hr.app (by show 2 + _ ≤ _; omega)
  refine g_aload_n (n := 26) hX dX0_writeConstants_25 rfl rfl rfl ?_
  refine g_bipush (n := 28) (v := 80) hX dX0_writeConstants_26 rfl rfl ?_
  refine g_iload_n (n := 29) hX dX0_writeConstants_28 rfl rfl rfl ?_
  refine g_pcallV (n := 32) (As := [.int 80, .int (nI p)]) (rest := []) hX hE hU hY dX0_writeConstants_29 rfl yv_X0_numberedText um_X0_81 (f_numberedText _ _ K L f F B T (aB (aB (aB (aB s (b4 (-889275714))) (b2 0)) (b2 46)) (b2 (nI (28 + mem)))) 80 (nI p) hF (hr.le (by omega))) ⟨rfl, rfl⟩ (rm_le hRm rfl rfl) rfl hF.1 fw_F rfl rfl rfl (Nat.le_of_ble_eq_true rfl) ⟨Nat.zero_le _, Nat.zero_le _⟩ (fun v0 w0 hq0 => ?_)
  obtain ⟨rfl, hw0⟩ := hq0; rw [hw0, aB_congr _ _ _ (nm_80 p (by omega))]
  show G Γ (va_pl L (fw K f F B T (aB (aB (aB (aB (aB s (b4 (-889275714))) (b2 0)) (b2 46)) (b2 (nI (28 + mem)))) (bNm 80 p)))) 0 0 32 [(0, .ref F), (1, .int (nI p)), (2, .int (nI mem))] []
  have hr : LB (aB (aB (aB (aB (aB s (b4 (-889275714))) (b2 0)) (b2 46)) (b2 (nI (28 + mem)))) (bNm 80 p)) (157 + 6 * mem) := hr.app (by have := nm_80l p (by omega); omega)
  refine g_aload_n (n := 33) hX dX0_writeConstants_32 rfl rfl rfl ?_
  refine g_iconst (n := 34) (v := 1) hX dX0_writeConstants_33 rfl rfl ?_
  refine g_pcallV (n := 37) (As := [.int 1]) (rest := []) hX hE hU hY dX0_writeConstants_34 rfl yv_X0_classConstant um_X0_85 (f_classConstant _ _ K L f F B T (aB (aB (aB (aB (aB s (b4 (-889275714))) (b2 0)) (b2 46)) (b2 (nI (28 + mem)))) (bNm 80 p)) 1 hF (hr.le (by omega))) ⟨rfl, rfl⟩ (rm_le hRm rfl rfl) rfl hF.1 fw_F rfl rfl rfl (Nat.le_of_ble_eq_true rfl) ⟨Nat.zero_le _, Nat.zero_le _⟩ (fun v0 w0 hq0 => ?_)
  obtain ⟨rfl, rfl⟩ := hq0
  show G Γ (va_pl L (fw K f F B T (aB (aB (aB (aB (aB (aB s (b4 (-889275714))) (b2 0)) (b2 46)) (b2 (nI (28 + mem)))) (bNm 80 p)) (bClassed 1)))) 0 0 37 [(0, .ref F), (1, .int (nI p)), (2, .int (nI mem))] []
  have hr : LB (aB (aB (aB (aB (aB (aB s (b4 (-889275714))) (b2 0)) (b2 46)) (b2 (nI (28 + mem)))) (bNm 80 p)) (bClassed 1)) (154 + 6 * mem) := hr.app (by show 3 + _ ≤ _; omega)
  refine g_aload_n (n := 38) hX dX0_writeConstants_37 rfl rfl rfl ?_
  refine g_ldcS (n := 40) 0 hX hE rfl dX0_writeConstants_38 rfl ?_
  refine g_pcallV (n := 43) (As := [.ref (eK (gD Γ) 0)]) (rest := []) hX hE hU hY dX0_writeConstants_40 rfl yv_X0_text um_X0_89 (f_text _ _ K L f F B T (aB (aB (aB (aB (aB (aB s (b4 (-889275714))) (b2 0)) (b2 46)) (b2 (nI (28 + mem)))) (bNm 80 p)) (bClassed 1)) 0 rfl hF (hr.le (by show 19 ≤ _; omega))) ⟨rfl, rfl⟩ (rm_le hRm rfl rfl) rfl hF.1 fw_F rfl rfl rfl (Nat.le_of_ble_eq_true rfl) ⟨Nat.zero_le _, Nat.zero_le _⟩ (fun v0 w0 hq0 => ?_)
  obtain ⟨rfl, hw0⟩ := hq0; rw [hw0, aB_congr _ _ _ (tx_all 0 (by decide))]
  show G Γ (va_pl L (fw K f F B T (aB (aB (aB (aB (aB (aB (aB s (b4 (-889275714))) (b2 0)) (b2 46)) (b2 (nI (28 + mem)))) (bNm 80 p)) (bClassed 1)) (bUtf 7665538200540832110 7435248793922397044)))) 0 0 43 [(0, .ref F), (1, .int (nI p)), (2, .int (nI mem))] []
  have hr : LB (aB (aB (aB (aB (aB (aB (aB s (b4 (-889275714))) (b2 0)) (b2 46)) (b2 (nI (28 + mem)))) (bNm 80 p)) (bClassed 1)) (bUtf 7665538200540832110 7435248793922397044)) (135 + 6 * mem) := hr.app (by rw [show (bUtf 7665538200540832110 7435248793922397044).length = 19 from rfl]; omega)
  refine g_aload_n (n := 44) hX dX0_writeConstants_43 rfl rfl rfl ?_
  refine g_iconst (n := 45) (v := 3) hX dX0_writeConstants_44 rfl rfl ?_
  refine g_pcallV (n := 48) (As := [.int 3]) (rest := []) hX hE hU hY dX0_writeConstants_45 rfl yv_X0_classConstant um_X0_85 (f_classConstant _ _ K L f F B T (aB (aB (aB (aB (aB (aB (aB s (b4 (-889275714))) (b2 0)) (b2 46)) (b2 (nI (28 + mem)))) (bNm 80 p)) (bClassed 1)) (bUtf 7665538200540832110 7435248793922397044)) 3 hF (hr.le (by omega))) ⟨rfl, rfl⟩ (rm_le hRm rfl rfl) rfl hF.1 fw_F rfl rfl rfl (Nat.le_of_ble_eq_true rfl) ⟨Nat.zero_le _, Nat.zero_le _⟩ (fun v0 w0 hq0 => ?_)
  obtain ⟨rfl, rfl⟩ := hq0
  show G Γ (va_pl L (fw K f F B T (aB (aB (aB (aB (aB (aB (aB (aB s (b4 (-889275714))) (b2 0)) (b2 46)) (b2 (nI (28 + mem)))) (bNm 80 p)) (bClassed 1)) (bUtf 7665538200540832110 7435248793922397044)) (bClassed 3)))) 0 0 48 [(0, .ref F), (1, .int (nI p)), (2, .int (nI mem))] []
  have hr : LB (aB (aB (aB (aB (aB (aB (aB (aB s (b4 (-889275714))) (b2 0)) (b2 46)) (b2 (nI (28 + mem)))) (bNm 80 p)) (bClassed 1)) (bUtf 7665538200540832110 7435248793922397044)) (bClassed 3)) (132 + 6 * mem) := hr.app (by show 3 + _ ≤ _; omega)
  refine g_aload_n (n := 49) hX dX0_writeConstants_48 rfl rfl rfl ?_
  refine g_ldcS (n := 51) 1 hX hE rfl dX0_writeConstants_49 rfl ?_
  refine g_pcallV (n := 54) (As := [.ref (eK (gD Γ) 1)]) (rest := []) hX hE hU hY dX0_writeConstants_51 rfl yv_X0_text um_X0_89 (f_text _ _ K L f F B T (aB (aB (aB (aB (aB (aB (aB (aB s (b4 (-889275714))) (b2 0)) (b2 46)) (b2 (nI (28 + mem)))) (bNm 80 p)) (bClassed 1)) (bUtf 7665538200540832110 7435248793922397044)) (bClassed 3)) 1 rfl hF (hr.le (by show 4 ≤ _; omega))) ⟨rfl, rfl⟩ (rm_le hRm rfl rfl) rfl hF.1 fw_F rfl rfl rfl (Nat.le_of_ble_eq_true rfl) ⟨Nat.zero_le _, Nat.zero_le _⟩ (fun v0 w0 hq0 => ?_)
  obtain ⟨rfl, hw0⟩ := hq0; rw [hw0, aB_congr _ _ _ (tx_all 1 (by decide))]
  show G Γ (va_pl L (fw K f F B T (aB (aB (aB (aB (aB (aB (aB (aB (aB s (b4 (-889275714))) (b2 0)) (b2 46)) (b2 (nI (28 + mem)))) (bNm 80 p)) (bClassed 1)) (bUtf 7665538200540832110 7435248793922397044)) (bClassed 3)) (bUtf 87 0)))) 0 0 54 [(0, .ref F), (1, .int (nI p)), (2, .int (nI mem))] []
  have hr : LB (aB (aB (aB (aB (aB (aB (aB (aB (aB s (b4 (-889275714))) (b2 0)) (b2 46)) (b2 (nI (28 + mem)))) (bNm 80 p)) (bClassed 1)) (bUtf 7665538200540832110 7435248793922397044)) (bClassed 3)) (bUtf 87 0)) (128 + 6 * mem) := hr.app (by rw [show (bUtf 87 0).length = 4 from rfl]; omega)
  refine g_aload_n (n := 55) hX dX0_writeConstants_54 rfl rfl rfl ?_
  refine g_ldcS (n := 57) 2 hX hE rfl dX0_writeConstants_55 rfl ?_
  refine g_pcallV (n := 60) (As := [.ref (eK (gD Γ) 2)]) (rest := []) hX hE hU hY dX0_writeConstants_57 rfl yv_X0_text um_X0_89 (f_text _ _ K L f F B T (aB (aB (aB (aB (aB (aB (aB (aB (aB s (b4 (-889275714))) (b2 0)) (b2 46)) (b2 (nI (28 + mem)))) (bNm 80 p)) (bClassed 1)) (bUtf 7665538200540832110 7435248793922397044)) (bClassed 3)) (bUtf 87 0)) 2 rfl hF (hr.le (by show 5 ≤ _; omega))) ⟨rfl, rfl⟩ (rm_le hRm rfl rfl) rfl hF.1 fw_F rfl rfl rfl (Nat.le_of_ble_eq_true rfl) ⟨Nat.zero_le _, Nat.zero_le _⟩ (fun v0 w0 hq0 => ?_)
  obtain ⟨rfl, hw0⟩ := hq0; rw [hw0, aB_congr _ _ _ (tx_all 2 (by decide))]
  show G Γ (va_pl L (fw K f F B T (aB (aB (aB (aB (aB (aB (aB (aB (aB (aB s (b4 (-889275714))) (b2 0)) (b2 46)) (b2 (nI (28 + mem)))) (bNm 80 p)) (bClassed 1)) (bUtf 7665538200540832110 7435248793922397044)) (bClassed 3)) (bUtf 87 0)) (bUtf 23362 0)))) 0 0 60 [(0, .ref F), (1, .int (nI p)), (2, .int (nI mem))] []
  have hr : LB (aB (aB (aB (aB (aB (aB (aB (aB (aB (aB s (b4 (-889275714))) (b2 0)) (b2 46)) (b2 (nI (28 + mem)))) (bNm 80 p)) (bClassed 1)) (bUtf 7665538200540832110 7435248793922397044)) (bClassed 3)) (bUtf 87 0)) (bUtf 23362 0)) (123 + 6 * mem) := hr.app (by rw [show (bUtf 23362 0).length = 5 from rfl]; omega)
  refine g_aload_n (n := 61) hX dX0_writeConstants_60 rfl rfl rfl ?_
  refine g_bipush (n := 63) (v := 12) hX dX0_writeConstants_61 rfl rfl ?_
  refine g_iconst (n := 64) (v := 5) hX dX0_writeConstants_63 rfl rfl ?_
  refine g_bipush (n := 66) (v := 6) hX dX0_writeConstants_64 rfl rfl ?_
  refine g_pcallV (n := 69) (As := [.int 12, .int 5, .int 6]) (rest := []) hX hE hU hY dX0_writeConstants_66 rfl yv_X0_pair um_X0_96 (f_pair _ _ K L f F B T (aB (aB (aB (aB (aB (aB (aB (aB (aB (aB s (b4 (-889275714))) (b2 0)) (b2 46)) (b2 (nI (28 + mem)))) (bNm 80 p)) (bClassed 1)) (bUtf 7665538200540832110 7435248793922397044)) (bClassed 3)) (bUtf 87 0)) (bUtf 23362 0)) 12 5 6 hF (hr.le (by omega))) ⟨rfl, rfl⟩ (rm_le hRm rfl rfl) rfl hF.1 fw_F rfl rfl rfl (Nat.le_of_ble_eq_true rfl) ⟨Nat.zero_le _, Nat.zero_le _⟩ (fun v0 w0 hq0 => ?_)
  obtain ⟨rfl, rfl⟩ := hq0
  show G Γ (va_pl L (fw K f F B T (aB (aB (aB (aB (aB (aB (aB (aB (aB (aB (aB s (b4 (-889275714))) (b2 0)) (b2 46)) (b2 (nI (28 + mem)))) (bNm 80 p)) (bClassed 1)) (bUtf 7665538200540832110 7435248793922397044)) (bClassed 3)) (bUtf 87 0)) (bUtf 23362 0)) (bPair 12 5 6)))) 0 0 69 [(0, .ref F), (1, .int (nI p)), (2, .int (nI mem))] []
  have hr : LB (aB (aB (aB (aB (aB (aB (aB (aB (aB (aB (aB s (b4 (-889275714))) (b2 0)) (b2 46)) (b2 (nI (28 + mem)))) (bNm 80 p)) (bClassed 1)) (bUtf 7665538200540832110 7435248793922397044)) (bClassed 3)) (bUtf 87 0)) (bUtf 23362 0)) (bPair 12 5 6)) (118 + 6 * mem) := hr.app (by show 5 + _ ≤ _; omega)
  refine g_aload_n (n := 70) hX dX0_writeConstants_69 rfl rfl rfl ?_
  refine g_bipush (n := 72) (v := 9) hX dX0_writeConstants_70 rfl rfl ?_
  refine g_iconst (n := 73) (v := 2) hX dX0_writeConstants_72 rfl rfl ?_
  refine g_bipush (n := 75) (v := 7) hX dX0_writeConstants_73 rfl rfl ?_
  refine g_pcallV (n := 78) (As := [.int 9, .int 2, .int 7]) (rest := []) hX hE hU hY dX0_writeConstants_75 rfl yv_X0_pair um_X0_96 (f_pair _ _ K L f F B T (aB (aB (aB (aB (aB (aB (aB (aB (aB (aB (aB s (b4 (-889275714))) (b2 0)) (b2 46)) (b2 (nI (28 + mem)))) (bNm 80 p)) (bClassed 1)) (bUtf 7665538200540832110 7435248793922397044)) (bClassed 3)) (bUtf 87 0)) (bUtf 23362 0)) (bPair 12 5 6)) 9 2 7 hF (hr.le (by omega))) ⟨rfl, rfl⟩ (rm_le hRm rfl rfl) rfl hF.1 fw_F rfl rfl rfl (Nat.le_of_ble_eq_true rfl) ⟨Nat.zero_le _, Nat.zero_le _⟩ (fun v0 w0 hq0 => ?_)
  obtain ⟨rfl, rfl⟩ := hq0
  show G Γ (va_pl L (fw K f F B T (aB (aB (aB (aB (aB (aB (aB (aB (aB (aB (aB (aB s (b4 (-889275714))) (b2 0)) (b2 46)) (b2 (nI (28 + mem)))) (bNm 80 p)) (bClassed 1)) (bUtf 7665538200540832110 7435248793922397044)) (bClassed 3)) (bUtf 87 0)) (bUtf 23362 0)) (bPair 12 5 6)) (bPair 9 2 7)))) 0 0 78 [(0, .ref F), (1, .int (nI p)), (2, .int (nI mem))] []
  have hr : LB (aB (aB (aB (aB (aB (aB (aB (aB (aB (aB (aB (aB s (b4 (-889275714))) (b2 0)) (b2 46)) (b2 (nI (28 + mem)))) (bNm 80 p)) (bClassed 1)) (bUtf 7665538200540832110 7435248793922397044)) (bClassed 3)) (bUtf 87 0)) (bUtf 23362 0)) (bPair 12 5 6)) (bPair 9 2 7)) (113 + 6 * mem) := hr.app (by show 5 + _ ≤ _; omega)
  refine g_aload_n (n := 79) hX dX0_writeConstants_78 rfl rfl rfl ?_
  refine g_ldcS (n := 81) 3 hX hE rfl dX0_writeConstants_79 rfl ?_
  refine g_pcallV (n := 84) (As := [.ref (eK (gD Γ) 3)]) (rest := []) hX hE hU hY dX0_writeConstants_81 rfl yv_X0_text um_X0_89 (f_text _ _ K L f F B T (aB (aB (aB (aB (aB (aB (aB (aB (aB (aB (aB (aB s (b4 (-889275714))) (b2 0)) (b2 46)) (b2 (nI (28 + mem)))) (bNm 80 p)) (bClassed 1)) (bUtf 7665538200540832110 7435248793922397044)) (bClassed 3)) (bUtf 87 0)) (bUtf 23362 0)) (bPair 12 5 6)) (bPair 9 2 7)) 3 rfl hF (hr.le (by show 4 ≤ _; omega))) ⟨rfl, rfl⟩ (rm_le hRm rfl rfl) rfl hF.1 fw_F rfl rfl rfl (Nat.le_of_ble_eq_true rfl) ⟨Nat.zero_le _, Nat.zero_le _⟩ (fun v0 w0 hq0 => ?_)
  obtain ⟨rfl, hw0⟩ := hq0; rw [hw0, aB_congr _ _ _ (tx_all 3 (by decide))]
  show G Γ (va_pl L (fw K f F B T (aB (aB (aB (aB (aB (aB (aB (aB (aB (aB (aB (aB (aB s (b4 (-889275714))) (b2 0)) (b2 46)) (b2 (nI (28 + mem)))) (bNm 80 p)) (bClassed 1)) (bUtf 7665538200540832110 7435248793922397044)) (bClassed 3)) (bUtf 87 0)) (bUtf 23362 0)) (bPair 12 5 6)) (bPair 9 2 7)) (bUtf 75 0)))) 0 0 84 [(0, .ref F), (1, .int (nI p)), (2, .int (nI mem))] []
  have hr : LB (aB (aB (aB (aB (aB (aB (aB (aB (aB (aB (aB (aB (aB s (b4 (-889275714))) (b2 0)) (b2 46)) (b2 (nI (28 + mem)))) (bNm 80 p)) (bClassed 1)) (bUtf 7665538200540832110 7435248793922397044)) (bClassed 3)) (bUtf 87 0)) (bUtf 23362 0)) (bPair 12 5 6)) (bPair 9 2 7)) (bUtf 75 0)) (109 + 6 * mem) := hr.app (by rw [show (bUtf 75 0).length = 4 from rfl]; omega)
  refine g_aload_n (n := 85) hX dX0_writeConstants_84 rfl rfl rfl ?_
  refine g_bipush (n := 87) (v := 9) hX dX0_writeConstants_85 rfl rfl ?_
  refine g_pcallV (n := 90) (As := [.int 9]) (rest := []) hX hE hU hY dX0_writeConstants_87 rfl yv_X0_classConstant um_X0_85 (f_classConstant _ _ K L f F B T (aB (aB (aB (aB (aB (aB (aB (aB (aB (aB (aB (aB (aB s (b4 (-889275714))) (b2 0)) (b2 46)) (b2 (nI (28 + mem)))) (bNm 80 p)) (bClassed 1)) (bUtf 7665538200540832110 7435248793922397044)) (bClassed 3)) (bUtf 87 0)) (bUtf 23362 0)) (bPair 12 5 6)) (bPair 9 2 7)) (bUtf 75 0)) 9 hF (hr.le (by omega))) ⟨rfl, rfl⟩ (rm_le hRm rfl rfl) rfl hF.1 fw_F rfl rfl rfl (Nat.le_of_ble_eq_true rfl) ⟨Nat.zero_le _, Nat.zero_le _⟩ (fun v0 w0 hq0 => ?_)
  obtain ⟨rfl, rfl⟩ := hq0
  show G Γ (va_pl L (fw K f F B T (aB (aB (aB (aB (aB (aB (aB (aB (aB (aB (aB (aB (aB (aB s (b4 (-889275714))) (b2 0)) (b2 46)) (b2 (nI (28 + mem)))) (bNm 80 p)) (bClassed 1)) (bUtf 7665538200540832110 7435248793922397044)) (bClassed 3)) (bUtf 87 0)) (bUtf 23362 0)) (bPair 12 5 6)) (bPair 9 2 7)) (bUtf 75 0)) (bClassed 9)))) 0 0 90 [(0, .ref F), (1, .int (nI p)), (2, .int (nI mem))] []
  have hr : LB (aB (aB (aB (aB (aB (aB (aB (aB (aB (aB (aB (aB (aB (aB s (b4 (-889275714))) (b2 0)) (b2 46)) (b2 (nI (28 + mem)))) (bNm 80 p)) (bClassed 1)) (bUtf 7665538200540832110 7435248793922397044)) (bClassed 3)) (bUtf 87 0)) (bUtf 23362 0)) (bPair 12 5 6)) (bPair 9 2 7)) (bUtf 75 0)) (bClassed 9)) (106 + 6 * mem) := hr.app (by show 3 + _ ≤ _; omega)
  refine g_aload_n (n := 91) hX dX0_writeConstants_90 rfl rfl rfl ?_
  refine g_ldcS (n := 93) 4 hX hE rfl dX0_writeConstants_91 rfl ?_
  refine g_pcallV (n := 96) (As := [.ref (eK (gD Γ) 4)]) (rest := []) hX hE hU hY dX0_writeConstants_93 rfl yv_X0_text um_X0_89 (f_text _ _ K L f F B T (aB (aB (aB (aB (aB (aB (aB (aB (aB (aB (aB (aB (aB (aB s (b4 (-889275714))) (b2 0)) (b2 46)) (b2 (nI (28 + mem)))) (bNm 80 p)) (bClassed 1)) (bUtf 7665538200540832110 7435248793922397044)) (bClassed 3)) (bUtf 87 0)) (bUtf 23362 0)) (bPair 12 5 6)) (bPair 9 2 7)) (bUtf 75 0)) (bClassed 9)) 4 rfl hF (hr.le (by show 7 ≤ _; omega))) ⟨rfl, rfl⟩ (rm_le hRm rfl rfl) rfl hF.1 fw_F rfl rfl rfl (Nat.le_of_ble_eq_true rfl) ⟨Nat.zero_le _, Nat.zero_le _⟩ (fun v0 w0 hq0 => ?_)
  obtain ⟨rfl, hw0⟩ := hq0; rw [hw0, aB_congr _ _ _ (tx_all 4 (by decide))]
  show G Γ (va_pl L (fw K f F B T (aB (aB (aB (aB (aB (aB (aB (aB (aB (aB (aB (aB (aB (aB (aB s (b4 (-889275714))) (b2 0)) (b2 46)) (b2 (nI (28 + mem)))) (bNm 80 p)) (bClassed 1)) (bUtf 7665538200540832110 7435248793922397044)) (bClassed 3)) (bUtf 87 0)) (bUtf 23362 0)) (bPair 12 5 6)) (bPair 9 2 7)) (bUtf 75 0)) (bClassed 9)) (bUtf 1667329132 0)))) 0 0 96 [(0, .ref F), (1, .int (nI p)), (2, .int (nI mem))] []
  have hr : LB (aB (aB (aB (aB (aB (aB (aB (aB (aB (aB (aB (aB (aB (aB (aB s (b4 (-889275714))) (b2 0)) (b2 46)) (b2 (nI (28 + mem)))) (bNm 80 p)) (bClassed 1)) (bUtf 7665538200540832110 7435248793922397044)) (bClassed 3)) (bUtf 87 0)) (bUtf 23362 0)) (bPair 12 5 6)) (bPair 9 2 7)) (bUtf 75 0)) (bClassed 9)) (bUtf 1667329132 0)) (99 + 6 * mem) := hr.app (by rw [show (bUtf 1667329132 0).length = 7 from rfl]; omega)
  refine g_aload_n (n := 97) hX dX0_writeConstants_96 rfl rfl rfl ?_
  refine g_ldcS (n := 99) 5 hX hE rfl dX0_writeConstants_97 rfl ?_
  refine g_pcallV (n := 102) (As := [.ref (eK (gD Γ) 5)]) (rest := []) hX hE hU hY dX0_writeConstants_99 rfl yv_X0_text um_X0_89 (f_text _ _ K L f F B T (aB (aB (aB (aB (aB (aB (aB (aB (aB (aB (aB (aB (aB (aB (aB s (b4 (-889275714))) (b2 0)) (b2 46)) (b2 (nI (28 + mem)))) (bNm 80 p)) (bClassed 1)) (bUtf 7665538200540832110 7435248793922397044)) (bClassed 3)) (bUtf 87 0)) (bUtf 23362 0)) (bPair 12 5 6)) (bPair 9 2 7)) (bUtf 75 0)) (bClassed 9)) (bUtf 1667329132 0)) 5 rfl hF (hr.le (by show 7 ≤ _; omega))) ⟨rfl, rfl⟩ (rm_le hRm rfl rfl) rfl hF.1 fw_F rfl rfl rfl (Nat.le_of_ble_eq_true rfl) ⟨Nat.zero_le _, Nat.zero_le _⟩ (fun v0 w0 hq0 => ?_)
  obtain ⟨rfl, hw0⟩ := hq0; rw [hw0, aB_congr _ _ _ (tx_all 5 (by decide))]
  show G Γ (va_pl L (fw K f F B T (aB (aB (aB (aB (aB (aB (aB (aB (aB (aB (aB (aB (aB (aB (aB (aB s (b4 (-889275714))) (b2 0)) (b2 46)) (b2 (nI (28 + mem)))) (bNm 80 p)) (bClassed 1)) (bUtf 7665538200540832110 7435248793922397044)) (bClassed 3)) (bUtf 87 0)) (bUtf 23362 0)) (bPair 12 5 6)) (bPair 9 2 7)) (bUtf 75 0)) (bClassed 9)) (bUtf 1667329132 0)) (bUtf 675883350 0)))) 0 0 102 [(0, .ref F), (1, .int (nI p)), (2, .int (nI mem))] []
  have hr : LB (aB (aB (aB (aB (aB (aB (aB (aB (aB (aB (aB (aB (aB (aB (aB (aB s (b4 (-889275714))) (b2 0)) (b2 46)) (b2 (nI (28 + mem)))) (bNm 80 p)) (bClassed 1)) (bUtf 7665538200540832110 7435248793922397044)) (bClassed 3)) (bUtf 87 0)) (bUtf 23362 0)) (bPair 12 5 6)) (bPair 9 2 7)) (bUtf 75 0)) (bClassed 9)) (bUtf 1667329132 0)) (bUtf 675883350 0)) (92 + 6 * mem) := hr.app (by rw [show (bUtf 675883350 0).length = 7 from rfl]; omega)
  refine g_aload_n (n := 103) hX dX0_writeConstants_102 rfl rfl rfl ?_
  refine g_bipush (n := 105) (v := 12) hX dX0_writeConstants_103 rfl rfl ?_
  refine g_bipush (n := 107) (v := 11) hX dX0_writeConstants_105 rfl rfl ?_
  refine g_bipush (n := 109) (v := 12) hX dX0_writeConstants_107 rfl rfl ?_
  refine g_pcallV (n := 112) (As := [.int 12, .int 11, .int 12]) (rest := []) hX hE hU hY dX0_writeConstants_109 rfl yv_X0_pair um_X0_96 (f_pair _ _ K L f F B T (aB (aB (aB (aB (aB (aB (aB (aB (aB (aB (aB (aB (aB (aB (aB (aB s (b4 (-889275714))) (b2 0)) (b2 46)) (b2 (nI (28 + mem)))) (bNm 80 p)) (bClassed 1)) (bUtf 7665538200540832110 7435248793922397044)) (bClassed 3)) (bUtf 87 0)) (bUtf 23362 0)) (bPair 12 5 6)) (bPair 9 2 7)) (bUtf 75 0)) (bClassed 9)) (bUtf 1667329132 0)) (bUtf 675883350 0)) 12 11 12 hF (hr.le (by omega))) ⟨rfl, rfl⟩ (rm_le hRm rfl rfl) rfl hF.1 fw_F rfl rfl rfl (Nat.le_of_ble_eq_true rfl) ⟨Nat.zero_le _, Nat.zero_le _⟩ (fun v0 w0 hq0 => ?_)
  obtain ⟨rfl, rfl⟩ := hq0
  show G Γ (va_pl L (fw K f F B T (aB (aB (aB (aB (aB (aB (aB (aB (aB (aB (aB (aB (aB (aB (aB (aB (aB s (b4 (-889275714))) (b2 0)) (b2 46)) (b2 (nI (28 + mem)))) (bNm 80 p)) (bClassed 1)) (bUtf 7665538200540832110 7435248793922397044)) (bClassed 3)) (bUtf 87 0)) (bUtf 23362 0)) (bPair 12 5 6)) (bPair 9 2 7)) (bUtf 75 0)) (bClassed 9)) (bUtf 1667329132 0)) (bUtf 675883350 0)) (bPair 12 11 12)))) 0 0 112 [(0, .ref F), (1, .int (nI p)), (2, .int (nI mem))] []
  have hr : LB (aB (aB (aB (aB (aB (aB (aB (aB (aB (aB (aB (aB (aB (aB (aB (aB (aB s (b4 (-889275714))) (b2 0)) (b2 46)) (b2 (nI (28 + mem)))) (bNm 80 p)) (bClassed 1)) (bUtf 7665538200540832110 7435248793922397044)) (bClassed 3)) (bUtf 87 0)) (bUtf 23362 0)) (bPair 12 5 6)) (bPair 9 2 7)) (bUtf 75 0)) (bClassed 9)) (bUtf 1667329132 0)) (bUtf 675883350 0)) (bPair 12 11 12)) (87 + 6 * mem) := hr.app (by show 5 + _ ≤ _; omega)
  refine g_aload_n (n := 113) hX dX0_writeConstants_112 rfl rfl rfl ?_
  refine g_bipush (n := 115) (v := 10) hX dX0_writeConstants_113 rfl rfl ?_
  refine g_bipush (n := 117) (v := 10) hX dX0_writeConstants_115 rfl rfl ?_
  refine g_bipush (n := 119) (v := 13) hX dX0_writeConstants_117 rfl rfl ?_
  refine g_pcallV (n := 122) (As := [.int 10, .int 10, .int 13]) (rest := []) hX hE hU hY dX0_writeConstants_119 rfl yv_X0_pair um_X0_96 (f_pair _ _ K L f F B T (aB (aB (aB (aB (aB (aB (aB (aB (aB (aB (aB (aB (aB (aB (aB (aB (aB s (b4 (-889275714))) (b2 0)) (b2 46)) (b2 (nI (28 + mem)))) (bNm 80 p)) (bClassed 1)) (bUtf 7665538200540832110 7435248793922397044)) (bClassed 3)) (bUtf 87 0)) (bUtf 23362 0)) (bPair 12 5 6)) (bPair 9 2 7)) (bUtf 75 0)) (bClassed 9)) (bUtf 1667329132 0)) (bUtf 675883350 0)) (bPair 12 11 12)) 10 10 13 hF (hr.le (by omega))) ⟨rfl, rfl⟩ (rm_le hRm rfl rfl) rfl hF.1 fw_F rfl rfl rfl (Nat.le_of_ble_eq_true rfl) ⟨Nat.zero_le _, Nat.zero_le _⟩ (fun v0 w0 hq0 => ?_)
  obtain ⟨rfl, rfl⟩ := hq0
  show G Γ (va_pl L (fw K f F B T (aB (aB (aB (aB (aB (aB (aB (aB (aB (aB (aB (aB (aB (aB (aB (aB (aB (aB s (b4 (-889275714))) (b2 0)) (b2 46)) (b2 (nI (28 + mem)))) (bNm 80 p)) (bClassed 1)) (bUtf 7665538200540832110 7435248793922397044)) (bClassed 3)) (bUtf 87 0)) (bUtf 23362 0)) (bPair 12 5 6)) (bPair 9 2 7)) (bUtf 75 0)) (bClassed 9)) (bUtf 1667329132 0)) (bUtf 675883350 0)) (bPair 12 11 12)) (bPair 10 10 13)))) 0 0 122 [(0, .ref F), (1, .int (nI p)), (2, .int (nI mem))] []
  have hr : LB (aB (aB (aB (aB (aB (aB (aB (aB (aB (aB (aB (aB (aB (aB (aB (aB (aB (aB s (b4 (-889275714))) (b2 0)) (b2 46)) (b2 (nI (28 + mem)))) (bNm 80 p)) (bClassed 1)) (bUtf 7665538200540832110 7435248793922397044)) (bClassed 3)) (bUtf 87 0)) (bUtf 23362 0)) (bPair 12 5 6)) (bPair 9 2 7)) (bUtf 75 0)) (bClassed 9)) (bUtf 1667329132 0)) (bUtf 675883350 0)) (bPair 12 11 12)) (bPair 10 10 13)) (82 + 6 * mem) := hr.app (by show 5 + _ ≤ _; omega)
  refine g_aload_n (n := 123) hX dX0_writeConstants_122 rfl rfl rfl ?_
  refine g_ldcS (n := 125) 6 hX hE rfl dX0_writeConstants_123 rfl ?_
  refine g_pcallV (n := 128) (As := [.ref (eK (gD Γ) 6)]) (rest := []) hX hE hU hY dX0_writeConstants_125 rfl yv_X0_text um_X0_89 (f_text _ _ K L f F B T (aB (aB (aB (aB (aB (aB (aB (aB (aB (aB (aB (aB (aB (aB (aB (aB (aB (aB s (b4 (-889275714))) (b2 0)) (b2 46)) (b2 (nI (28 + mem)))) (bNm 80 p)) (bClassed 1)) (bUtf 7665538200540832110 7435248793922397044)) (bClassed 3)) (bUtf 87 0)) (bUtf 23362 0)) (bPair 12 5 6)) (bPair 9 2 7)) (bUtf 75 0)) (bClassed 9)) (bUtf 1667329132 0)) (bUtf 675883350 0)) (bPair 12 11 12)) (bPair 10 10 13)) 6 rfl hF (hr.le (by show 7 ≤ _; omega))) ⟨rfl, rfl⟩ (rm_le hRm rfl rfl) rfl hF.1 fw_F rfl rfl rfl (Nat.le_of_ble_eq_true rfl) ⟨Nat.zero_le _, Nat.zero_le _⟩ (fun v0 w0 hq0 => ?_)
  obtain ⟨rfl, hw0⟩ := hq0; rw [hw0, aB_congr _ _ _ (tx_all 6 (by decide))]
  show G Γ (va_pl L (fw K f F B T (aB (aB (aB (aB (aB (aB (aB (aB (aB (aB (aB (aB (aB (aB (aB (aB (aB (aB (aB s (b4 (-889275714))) (b2 0)) (b2 46)) (b2 (nI (28 + mem)))) (bNm 80 p)) (bClassed 1)) (bUtf 7665538200540832110 7435248793922397044)) (bClassed 3)) (bUtf 87 0)) (bUtf 23362 0)) (bPair 12 5 6)) (bPair 9 2 7)) (bUtf 75 0)) (bClassed 9)) (bUtf 1667329132 0)) (bUtf 675883350 0)) (bPair 12 11 12)) (bPair 10 10 13)) (bUtf 1835102827 0)))) 0 0 128 [(0, .ref F), (1, .int (nI p)), (2, .int (nI mem))] []
  have hr : LB (aB (aB (aB (aB (aB (aB (aB (aB (aB (aB (aB (aB (aB (aB (aB (aB (aB (aB (aB s (b4 (-889275714))) (b2 0)) (b2 46)) (b2 (nI (28 + mem)))) (bNm 80 p)) (bClassed 1)) (bUtf 7665538200540832110 7435248793922397044)) (bClassed 3)) (bUtf 87 0)) (bUtf 23362 0)) (bPair 12 5 6)) (bPair 9 2 7)) (bUtf 75 0)) (bClassed 9)) (bUtf 1667329132 0)) (bUtf 675883350 0)) (bPair 12 11 12)) (bPair 10 10 13)) (bUtf 1835102827 0)) (75 + 6 * mem) := hr.app (by rw [show (bUtf 1835102827 0).length = 7 from rfl]; omega)
  refine g_aload_n (n := 129) hX dX0_writeConstants_128 rfl rfl rfl ?_
  refine g_bipush (n := 131) (v := 12) hX dX0_writeConstants_129 rfl rfl ?_
  refine g_bipush (n := 133) (v := 15) hX dX0_writeConstants_131 rfl rfl ?_
  refine g_bipush (n := 135) (v := 12) hX dX0_writeConstants_133 rfl rfl ?_
  refine g_pcallV (n := 138) (As := [.int 12, .int 15, .int 12]) (rest := []) hX hE hU hY dX0_writeConstants_135 rfl yv_X0_pair um_X0_96 (f_pair _ _ K L f F B T (aB (aB (aB (aB (aB (aB (aB (aB (aB (aB (aB (aB (aB (aB (aB (aB (aB (aB (aB s (b4 (-889275714))) (b2 0)) (b2 46)) (b2 (nI (28 + mem)))) (bNm 80 p)) (bClassed 1)) (bUtf 7665538200540832110 7435248793922397044)) (bClassed 3)) (bUtf 87 0)) (bUtf 23362 0)) (bPair 12 5 6)) (bPair 9 2 7)) (bUtf 75 0)) (bClassed 9)) (bUtf 1667329132 0)) (bUtf 675883350 0)) (bPair 12 11 12)) (bPair 10 10 13)) (bUtf 1835102827 0)) 12 15 12 hF (hr.le (by omega))) ⟨rfl, rfl⟩ (rm_le hRm rfl rfl) rfl hF.1 fw_F rfl rfl rfl (Nat.le_of_ble_eq_true rfl) ⟨Nat.zero_le _, Nat.zero_le _⟩ (fun v0 w0 hq0 => ?_)
  obtain ⟨rfl, rfl⟩ := hq0
  show G Γ (va_pl L (fw K f F B T (aB (aB (aB (aB (aB (aB (aB (aB (aB (aB (aB (aB (aB (aB (aB (aB (aB (aB (aB (aB s (b4 (-889275714))) (b2 0)) (b2 46)) (b2 (nI (28 + mem)))) (bNm 80 p)) (bClassed 1)) (bUtf 7665538200540832110 7435248793922397044)) (bClassed 3)) (bUtf 87 0)) (bUtf 23362 0)) (bPair 12 5 6)) (bPair 9 2 7)) (bUtf 75 0)) (bClassed 9)) (bUtf 1667329132 0)) (bUtf 675883350 0)) (bPair 12 11 12)) (bPair 10 10 13)) (bUtf 1835102827 0)) (bPair 12 15 12)))) 0 0 138 [(0, .ref F), (1, .int (nI p)), (2, .int (nI mem))] []
  have hr : LB (aB (aB (aB (aB (aB (aB (aB (aB (aB (aB (aB (aB (aB (aB (aB (aB (aB (aB (aB (aB s (b4 (-889275714))) (b2 0)) (b2 46)) (b2 (nI (28 + mem)))) (bNm 80 p)) (bClassed 1)) (bUtf 7665538200540832110 7435248793922397044)) (bClassed 3)) (bUtf 87 0)) (bUtf 23362 0)) (bPair 12 5 6)) (bPair 9 2 7)) (bUtf 75 0)) (bClassed 9)) (bUtf 1667329132 0)) (bUtf 675883350 0)) (bPair 12 11 12)) (bPair 10 10 13)) (bUtf 1835102827 0)) (bPair 12 15 12)) (70 + 6 * mem) := hr.app (by show 5 + _ ≤ _; omega)
  refine g_aload_n (n := 139) hX dX0_writeConstants_138 rfl rfl rfl ?_
  refine g_bipush (n := 141) (v := 10) hX dX0_writeConstants_139 rfl rfl ?_
  refine g_bipush (n := 143) (v := 10) hX dX0_writeConstants_141 rfl rfl ?_
  refine g_bipush (n := 145) (v := 16) hX dX0_writeConstants_143 rfl rfl ?_
  refine g_pcallV (n := 148) (As := [.int 10, .int 10, .int 16]) (rest := []) hX hE hU hY dX0_writeConstants_145 rfl yv_X0_pair um_X0_96 (f_pair _ _ K L f F B T (aB (aB (aB (aB (aB (aB (aB (aB (aB (aB (aB (aB (aB (aB (aB (aB (aB (aB (aB (aB s (b4 (-889275714))) (b2 0)) (b2 46)) (b2 (nI (28 + mem)))) (bNm 80 p)) (bClassed 1)) (bUtf 7665538200540832110 7435248793922397044)) (bClassed 3)) (bUtf 87 0)) (bUtf 23362 0)) (bPair 12 5 6)) (bPair 9 2 7)) (bUtf 75 0)) (bClassed 9)) (bUtf 1667329132 0)) (bUtf 675883350 0)) (bPair 12 11 12)) (bPair 10 10 13)) (bUtf 1835102827 0)) (bPair 12 15 12)) 10 10 16 hF (hr.le (by omega))) ⟨rfl, rfl⟩ (rm_le hRm rfl rfl) rfl hF.1 fw_F rfl rfl rfl (Nat.le_of_ble_eq_true rfl) ⟨Nat.zero_le _, Nat.zero_le _⟩ (fun v0 w0 hq0 => ?_)
  obtain ⟨rfl, rfl⟩ := hq0
  show G Γ (va_pl L (fw K f F B T (aB (aB (aB (aB (aB (aB (aB (aB (aB (aB (aB (aB (aB (aB (aB (aB (aB (aB (aB (aB (aB s (b4 (-889275714))) (b2 0)) (b2 46)) (b2 (nI (28 + mem)))) (bNm 80 p)) (bClassed 1)) (bUtf 7665538200540832110 7435248793922397044)) (bClassed 3)) (bUtf 87 0)) (bUtf 23362 0)) (bPair 12 5 6)) (bPair 9 2 7)) (bUtf 75 0)) (bClassed 9)) (bUtf 1667329132 0)) (bUtf 675883350 0)) (bPair 12 11 12)) (bPair 10 10 13)) (bUtf 1835102827 0)) (bPair 12 15 12)) (bPair 10 10 16)))) 0 0 148 [(0, .ref F), (1, .int (nI p)), (2, .int (nI mem))] []
  have hr : LB (aB (aB (aB (aB (aB (aB (aB (aB (aB (aB (aB (aB (aB (aB (aB (aB (aB (aB (aB (aB (aB s (b4 (-889275714))) (b2 0)) (b2 46)) (b2 (nI (28 + mem)))) (bNm 80 p)) (bClassed 1)) (bUtf 7665538200540832110 7435248793922397044)) (bClassed 3)) (bUtf 87 0)) (bUtf 23362 0)) (bPair 12 5 6)) (bPair 9 2 7)) (bUtf 75 0)) (bClassed 9)) (bUtf 1667329132 0)) (bUtf 675883350 0)) (bPair 12 11 12)) (bPair 10 10 13)) (bUtf 1835102827 0)) (bPair 12 15 12)) (bPair 10 10 16)) (65 + 6 * mem) := hr.app (by show 5 + _ ≤ _; omega)
  refine g_aload_n (n := 149) hX dX0_writeConstants_148 rfl rfl rfl ?_
  refine g_ldcS (n := 151) 7 hX hE rfl dX0_writeConstants_149 rfl ?_
  refine g_pcallV (n := 154) (As := [.ref (eK (gD Γ) 7)]) (rest := []) hX hE hU hY dX0_writeConstants_151 rfl yv_X0_text um_X0_89 (f_text _ _ K L f F B T (aB (aB (aB (aB (aB (aB (aB (aB (aB (aB (aB (aB (aB (aB (aB (aB (aB (aB (aB (aB (aB s (b4 (-889275714))) (b2 0)) (b2 46)) (b2 (nI (28 + mem)))) (bNm 80 p)) (bClassed 1)) (bUtf 7665538200540832110 7435248793922397044)) (bClassed 3)) (bUtf 87 0)) (bUtf 23362 0)) (bPair 12 5 6)) (bPair 9 2 7)) (bUtf 75 0)) (bClassed 9)) (bUtf 1667329132 0)) (bUtf 675883350 0)) (bPair 12 11 12)) (bPair 10 10 13)) (bUtf 1835102827 0)) (bPair 12 15 12)) (bPair 10 10 16)) 7 rfl hF (hr.le (by show 7 ≤ _; omega))) ⟨rfl, rfl⟩ (rm_le hRm rfl rfl) rfl hF.1 fw_F rfl rfl rfl (Nat.le_of_ble_eq_true rfl) ⟨Nat.zero_le _, Nat.zero_le _⟩ (fun v0 w0 hq0 => ?_)
  obtain ⟨rfl, hw0⟩ := hq0; rw [hw0, aB_congr _ _ _ (tx_all 7 (by decide))]
  show G Γ (va_pl L (fw K f F B T (aB (aB (aB (aB (aB (aB (aB (aB (aB (aB (aB (aB (aB (aB (aB (aB (aB (aB (aB (aB (aB (aB s (b4 (-889275714))) (b2 0)) (b2 46)) (b2 (nI (28 + mem)))) (bNm 80 p)) (bClassed 1)) (bUtf 7665538200540832110 7435248793922397044)) (bClassed 3)) (bUtf 87 0)) (bUtf 23362 0)) (bPair 12 5 6)) (bPair 9 2 7)) (bUtf 75 0)) (bClassed 9)) (bUtf 1667329132 0)) (bUtf 675883350 0)) (bPair 12 11 12)) (bPair 10 10 13)) (bUtf 1835102827 0)) (bPair 12 15 12)) (bPair 10 10 16)) (bUtf 1937010544 0)))) 0 0 154 [(0, .ref F), (1, .int (nI p)), (2, .int (nI mem))] []
  have hr : LB (aB (aB (aB (aB (aB (aB (aB (aB (aB (aB (aB (aB (aB (aB (aB (aB (aB (aB (aB (aB (aB (aB s (b4 (-889275714))) (b2 0)) (b2 46)) (b2 (nI (28 + mem)))) (bNm 80 p)) (bClassed 1)) (bUtf 7665538200540832110 7435248793922397044)) (bClassed 3)) (bUtf 87 0)) (bUtf 23362 0)) (bPair 12 5 6)) (bPair 9 2 7)) (bUtf 75 0)) (bClassed 9)) (bUtf 1667329132 0)) (bUtf 675883350 0)) (bPair 12 11 12)) (bPair 10 10 13)) (bUtf 1835102827 0)) (bPair 12 15 12)) (bPair 10 10 16)) (bUtf 1937010544 0)) (58 + 6 * mem) := hr.app (by rw [show (bUtf 1937010544 0).length = 7 from rfl]; omega)
  refine g_aload_n (n := 155) hX dX0_writeConstants_154 rfl rfl rfl ?_
  refine g_bipush (n := 157) (v := 12) hX dX0_writeConstants_155 rfl rfl ?_
  refine g_bipush (n := 159) (v := 18) hX dX0_writeConstants_157 rfl rfl ?_
  refine g_bipush (n := 161) (v := 12) hX dX0_writeConstants_159 rfl rfl ?_
  refine g_pcallV (n := 164) (As := [.int 12, .int 18, .int 12]) (rest := []) hX hE hU hY dX0_writeConstants_161 rfl yv_X0_pair um_X0_96 (f_pair _ _ K L f F B T (aB (aB (aB (aB (aB (aB (aB (aB (aB (aB (aB (aB (aB (aB (aB (aB (aB (aB (aB (aB (aB (aB s (b4 (-889275714))) (b2 0)) (b2 46)) (b2 (nI (28 + mem)))) (bNm 80 p)) (bClassed 1)) (bUtf 7665538200540832110 7435248793922397044)) (bClassed 3)) (bUtf 87 0)) (bUtf 23362 0)) (bPair 12 5 6)) (bPair 9 2 7)) (bUtf 75 0)) (bClassed 9)) (bUtf 1667329132 0)) (bUtf 675883350 0)) (bPair 12 11 12)) (bPair 10 10 13)) (bUtf 1835102827 0)) (bPair 12 15 12)) (bPair 10 10 16)) (bUtf 1937010544 0)) 12 18 12 hF (hr.le (by omega))) ⟨rfl, rfl⟩ (rm_le hRm rfl rfl) rfl hF.1 fw_F rfl rfl rfl (Nat.le_of_ble_eq_true rfl) ⟨Nat.zero_le _, Nat.zero_le _⟩ (fun v0 w0 hq0 => ?_)
  obtain ⟨rfl, rfl⟩ := hq0
  show G Γ (va_pl L (fw K f F B T (aB (aB (aB (aB (aB (aB (aB (aB (aB (aB (aB (aB (aB (aB (aB (aB (aB (aB (aB (aB (aB (aB (aB s (b4 (-889275714))) (b2 0)) (b2 46)) (b2 (nI (28 + mem)))) (bNm 80 p)) (bClassed 1)) (bUtf 7665538200540832110 7435248793922397044)) (bClassed 3)) (bUtf 87 0)) (bUtf 23362 0)) (bPair 12 5 6)) (bPair 9 2 7)) (bUtf 75 0)) (bClassed 9)) (bUtf 1667329132 0)) (bUtf 675883350 0)) (bPair 12 11 12)) (bPair 10 10 13)) (bUtf 1835102827 0)) (bPair 12 15 12)) (bPair 10 10 16)) (bUtf 1937010544 0)) (bPair 12 18 12)))) 0 0 164 [(0, .ref F), (1, .int (nI p)), (2, .int (nI mem))] []
  have hr : LB (aB (aB (aB (aB (aB (aB (aB (aB (aB (aB (aB (aB (aB (aB (aB (aB (aB (aB (aB (aB (aB (aB (aB s (b4 (-889275714))) (b2 0)) (b2 46)) (b2 (nI (28 + mem)))) (bNm 80 p)) (bClassed 1)) (bUtf 7665538200540832110 7435248793922397044)) (bClassed 3)) (bUtf 87 0)) (bUtf 23362 0)) (bPair 12 5 6)) (bPair 9 2 7)) (bUtf 75 0)) (bClassed 9)) (bUtf 1667329132 0)) (bUtf 675883350 0)) (bPair 12 11 12)) (bPair 10 10 13)) (bUtf 1835102827 0)) (bPair 12 15 12)) (bPair 10 10 16)) (bUtf 1937010544 0)) (bPair 12 18 12)) (53 + 6 * mem) := hr.app (by show 5 + _ ≤ _; omega)
  refine g_aload_n (n := 165) hX dX0_writeConstants_164 rfl rfl rfl ?_
  refine g_bipush (n := 167) (v := 10) hX dX0_writeConstants_165 rfl rfl ?_
  refine g_bipush (n := 169) (v := 10) hX dX0_writeConstants_167 rfl rfl ?_
  refine g_bipush (n := 171) (v := 19) hX dX0_writeConstants_169 rfl rfl ?_
  refine g_pcallV (n := 174) (As := [.int 10, .int 10, .int 19]) (rest := []) hX hE hU hY dX0_writeConstants_171 rfl yv_X0_pair um_X0_96 (f_pair _ _ K L f F B T (aB (aB (aB (aB (aB (aB (aB (aB (aB (aB (aB (aB (aB (aB (aB (aB (aB (aB (aB (aB (aB (aB (aB s (b4 (-889275714))) (b2 0)) (b2 46)) (b2 (nI (28 + mem)))) (bNm 80 p)) (bClassed 1)) (bUtf 7665538200540832110 7435248793922397044)) (bClassed 3)) (bUtf 87 0)) (bUtf 23362 0)) (bPair 12 5 6)) (bPair 9 2 7)) (bUtf 75 0)) (bClassed 9)) (bUtf 1667329132 0)) (bUtf 675883350 0)) (bPair 12 11 12)) (bPair 10 10 13)) (bUtf 1835102827 0)) (bPair 12 15 12)) (bPair 10 10 16)) (bUtf 1937010544 0)) (bPair 12 18 12)) 10 10 19 hF (hr.le (by omega))) ⟨rfl, rfl⟩ (rm_le hRm rfl rfl) rfl hF.1 fw_F rfl rfl rfl (Nat.le_of_ble_eq_true rfl) ⟨Nat.zero_le _, Nat.zero_le _⟩ (fun v0 w0 hq0 => ?_)
  obtain ⟨rfl, rfl⟩ := hq0
  show G Γ (va_pl L (fw K f F B T (aB (aB (aB (aB (aB (aB (aB (aB (aB (aB (aB (aB (aB (aB (aB (aB (aB (aB (aB (aB (aB (aB (aB (aB s (b4 (-889275714))) (b2 0)) (b2 46)) (b2 (nI (28 + mem)))) (bNm 80 p)) (bClassed 1)) (bUtf 7665538200540832110 7435248793922397044)) (bClassed 3)) (bUtf 87 0)) (bUtf 23362 0)) (bPair 12 5 6)) (bPair 9 2 7)) (bUtf 75 0)) (bClassed 9)) (bUtf 1667329132 0)) (bUtf 675883350 0)) (bPair 12 11 12)) (bPair 10 10 13)) (bUtf 1835102827 0)) (bPair 12 15 12)) (bPair 10 10 16)) (bUtf 1937010544 0)) (bPair 12 18 12)) (bPair 10 10 19)))) 0 0 174 [(0, .ref F), (1, .int (nI p)), (2, .int (nI mem))] []
  have hr : LB (aB (aB (aB (aB (aB (aB (aB (aB (aB (aB (aB (aB (aB (aB (aB (aB (aB (aB (aB (aB (aB (aB (aB (aB s (b4 (-889275714))) (b2 0)) (b2 46)) (b2 (nI (28 + mem)))) (bNm 80 p)) (bClassed 1)) (bUtf 7665538200540832110 7435248793922397044)) (bClassed 3)) (bUtf 87 0)) (bUtf 23362 0)) (bPair 12 5 6)) (bPair 9 2 7)) (bUtf 75 0)) (bClassed 9)) (bUtf 1667329132 0)) (bUtf 675883350 0)) (bPair 12 11 12)) (bPair 10 10 13)) (bUtf 1835102827 0)) (bPair 12 15 12)) (bPair 10 10 16)) (bUtf 1937010544 0)) (bPair 12 18 12)) (bPair 10 10 19)) (48 + 6 * mem) := hr.app (by show 5 + _ ≤ _; omega)
  refine g_aload_n (n := 175) hX dX0_writeConstants_174 rfl rfl rfl ?_
  refine g_ldcS (n := 177) 8 hX hE rfl dX0_writeConstants_175 rfl ?_
  refine g_pcallV (n := 180) (As := [.ref (eK (gD Γ) 8)]) (rest := []) hX hE hU hY dX0_writeConstants_177 rfl yv_X0_text um_X0_89 (f_text _ _ K L f F B T (aB (aB (aB (aB (aB (aB (aB (aB (aB (aB (aB (aB (aB (aB (aB (aB (aB (aB (aB (aB (aB (aB (aB (aB s (b4 (-889275714))) (b2 0)) (b2 46)) (b2 (nI (28 + mem)))) (bNm 80 p)) (bClassed 1)) (bUtf 7665538200540832110 7435248793922397044)) (bClassed 3)) (bUtf 87 0)) (bUtf 23362 0)) (bPair 12 5 6)) (bPair 9 2 7)) (bUtf 75 0)) (bClassed 9)) (bUtf 1667329132 0)) (bUtf 675883350 0)) (bPair 12 11 12)) (bPair 10 10 13)) (bUtf 1835102827 0)) (bPair 12 15 12)) (bPair 10 10 16)) (bUtf 1937010544 0)) (bPair 12 18 12)) (bPair 10 10 19)) 8 rfl hF (hr.le (by show 7 ≤ _; omega))) ⟨rfl, rfl⟩ (rm_le hRm rfl rfl) rfl hF.1 fw_F rfl rfl rfl (Nat.le_of_ble_eq_true rfl) ⟨Nat.zero_le _, Nat.zero_le _⟩ (fun v0 w0 hq0 => ?_)
  obtain ⟨rfl, hw0⟩ := hq0; rw [hw0, aB_congr _ _ _ (tx_all 8 (by decide))]
  show G Γ (va_pl L (fw K f F B T (aB (aB (aB (aB (aB (aB (aB (aB (aB (aB (aB (aB (aB (aB (aB (aB (aB (aB (aB (aB (aB (aB (aB (aB (aB s (b4 (-889275714))) (b2 0)) (b2 46)) (b2 (nI (28 + mem)))) (bNm 80 p)) (bClassed 1)) (bUtf 7665538200540832110 7435248793922397044)) (bClassed 3)) (bUtf 87 0)) (bUtf 23362 0)) (bPair 12 5 6)) (bPair 9 2 7)) (bUtf 75 0)) (bClassed 9)) (bUtf 1667329132 0)) (bUtf 675883350 0)) (bPair 12 11 12)) (bPair 10 10 13)) (bUtf 1835102827 0)) (bPair 12 15 12)) (bPair 10 10 16)) (bUtf 1937010544 0)) (bPair 12 18 12)) (bPair 10 10 19)) (bUtf 1936292453 0)))) 0 0 180 [(0, .ref F), (1, .int (nI p)), (2, .int (nI mem))] []
  have hr : LB (aB (aB (aB (aB (aB (aB (aB (aB (aB (aB (aB (aB (aB (aB (aB (aB (aB (aB (aB (aB (aB (aB (aB (aB (aB s (b4 (-889275714))) (b2 0)) (b2 46)) (b2 (nI (28 + mem)))) (bNm 80 p)) (bClassed 1)) (bUtf 7665538200540832110 7435248793922397044)) (bClassed 3)) (bUtf 87 0)) (bUtf 23362 0)) (bPair 12 5 6)) (bPair 9 2 7)) (bUtf 75 0)) (bClassed 9)) (bUtf 1667329132 0)) (bUtf 675883350 0)) (bPair 12 11 12)) (bPair 10 10 13)) (bUtf 1835102827 0)) (bPair 12 15 12)) (bPair 10 10 16)) (bUtf 1937010544 0)) (bPair 12 18 12)) (bPair 10 10 19)) (bUtf 1936292453 0)) (41 + 6 * mem) := hr.app (by rw [show (bUtf 1936292453 0).length = 7 from rfl]; omega)
  refine g_aload_n (n := 181) hX dX0_writeConstants_180 rfl rfl rfl ?_
  refine g_bipush (n := 183) (v := 12) hX dX0_writeConstants_181 rfl rfl ?_
  refine g_bipush (n := 185) (v := 21) hX dX0_writeConstants_183 rfl rfl ?_
  refine g_bipush (n := 187) (v := 12) hX dX0_writeConstants_185 rfl rfl ?_
  refine g_pcallV (n := 190) (As := [.int 12, .int 21, .int 12]) (rest := []) hX hE hU hY dX0_writeConstants_187 rfl yv_X0_pair um_X0_96 (f_pair _ _ K L f F B T (aB (aB (aB (aB (aB (aB (aB (aB (aB (aB (aB (aB (aB (aB (aB (aB (aB (aB (aB (aB (aB (aB (aB (aB (aB s (b4 (-889275714))) (b2 0)) (b2 46)) (b2 (nI (28 + mem)))) (bNm 80 p)) (bClassed 1)) (bUtf 7665538200540832110 7435248793922397044)) (bClassed 3)) (bUtf 87 0)) (bUtf 23362 0)) (bPair 12 5 6)) (bPair 9 2 7)) (bUtf 75 0)) (bClassed 9)) (bUtf 1667329132 0)) (bUtf 675883350 0)) (bPair 12 11 12)) (bPair 10 10 13)) (bUtf 1835102827 0)) (bPair 12 15 12)) (bPair 10 10 16)) (bUtf 1937010544 0)) (bPair 12 18 12)) (bPair 10 10 19)) (bUtf 1936292453 0)) 12 21 12 hF (hr.le (by omega))) ⟨rfl, rfl⟩ (rm_le hRm rfl rfl) rfl hF.1 fw_F rfl rfl rfl (Nat.le_of_ble_eq_true rfl) ⟨Nat.zero_le _, Nat.zero_le _⟩ (fun v0 w0 hq0 => ?_)
  obtain ⟨rfl, rfl⟩ := hq0
  show G Γ (va_pl L (fw K f F B T (aB (aB (aB (aB (aB (aB (aB (aB (aB (aB (aB (aB (aB (aB (aB (aB (aB (aB (aB (aB (aB (aB (aB (aB (aB (aB s (b4 (-889275714))) (b2 0)) (b2 46)) (b2 (nI (28 + mem)))) (bNm 80 p)) (bClassed 1)) (bUtf 7665538200540832110 7435248793922397044)) (bClassed 3)) (bUtf 87 0)) (bUtf 23362 0)) (bPair 12 5 6)) (bPair 9 2 7)) (bUtf 75 0)) (bClassed 9)) (bUtf 1667329132 0)) (bUtf 675883350 0)) (bPair 12 11 12)) (bPair 10 10 13)) (bUtf 1835102827 0)) (bPair 12 15 12)) (bPair 10 10 16)) (bUtf 1937010544 0)) (bPair 12 18 12)) (bPair 10 10 19)) (bUtf 1936292453 0)) (bPair 12 21 12)))) 0 0 190 [(0, .ref F), (1, .int (nI p)), (2, .int (nI mem))] []
  have hr : LB (aB (aB (aB (aB (aB (aB (aB (aB (aB (aB (aB (aB (aB (aB (aB (aB (aB (aB (aB (aB (aB (aB (aB (aB (aB (aB s (b4 (-889275714))) (b2 0)) (b2 46)) (b2 (nI (28 + mem)))) (bNm 80 p)) (bClassed 1)) (bUtf 7665538200540832110 7435248793922397044)) (bClassed 3)) (bUtf 87 0)) (bUtf 23362 0)) (bPair 12 5 6)) (bPair 9 2 7)) (bUtf 75 0)) (bClassed 9)) (bUtf 1667329132 0)) (bUtf 675883350 0)) (bPair 12 11 12)) (bPair 10 10 13)) (bUtf 1835102827 0)) (bPair 12 15 12)) (bPair 10 10 16)) (bUtf 1937010544 0)) (bPair 12 18 12)) (bPair 10 10 19)) (bUtf 1936292453 0)) (bPair 12 21 12)) (36 + 6 * mem) := hr.app (by show 5 + _ ≤ _; omega)
  refine g_aload_n (n := 191) hX dX0_writeConstants_190 rfl rfl rfl ?_
  refine g_bipush (n := 193) (v := 10) hX dX0_writeConstants_191 rfl rfl ?_
  refine g_bipush (n := 195) (v := 10) hX dX0_writeConstants_193 rfl rfl ?_
  refine g_bipush (n := 197) (v := 22) hX dX0_writeConstants_195 rfl rfl ?_
  refine g_pcallV (n := 200) (As := [.int 10, .int 10, .int 22]) (rest := []) hX hE hU hY dX0_writeConstants_197 rfl yv_X0_pair um_X0_96 (f_pair _ _ K L f F B T (aB (aB (aB (aB (aB (aB (aB (aB (aB (aB (aB (aB (aB (aB (aB (aB (aB (aB (aB (aB (aB (aB (aB (aB (aB (aB s (b4 (-889275714))) (b2 0)) (b2 46)) (b2 (nI (28 + mem)))) (bNm 80 p)) (bClassed 1)) (bUtf 7665538200540832110 7435248793922397044)) (bClassed 3)) (bUtf 87 0)) (bUtf 23362 0)) (bPair 12 5 6)) (bPair 9 2 7)) (bUtf 75 0)) (bClassed 9)) (bUtf 1667329132 0)) (bUtf 675883350 0)) (bPair 12 11 12)) (bPair 10 10 13)) (bUtf 1835102827 0)) (bPair 12 15 12)) (bPair 10 10 16)) (bUtf 1937010544 0)) (bPair 12 18 12)) (bPair 10 10 19)) (bUtf 1936292453 0)) (bPair 12 21 12)) 10 10 22 hF (hr.le (by omega))) ⟨rfl, rfl⟩ (rm_le hRm rfl rfl) rfl hF.1 fw_F rfl rfl rfl (Nat.le_of_ble_eq_true rfl) ⟨Nat.zero_le _, Nat.zero_le _⟩ (fun v0 w0 hq0 => ?_)
  obtain ⟨rfl, rfl⟩ := hq0
  show G Γ (va_pl L (fw K f F B T (aB (aB (aB (aB (aB (aB (aB (aB (aB (aB (aB (aB (aB (aB (aB (aB (aB (aB (aB (aB (aB (aB (aB (aB (aB (aB (aB s (b4 (-889275714))) (b2 0)) (b2 46)) (b2 (nI (28 + mem)))) (bNm 80 p)) (bClassed 1)) (bUtf 7665538200540832110 7435248793922397044)) (bClassed 3)) (bUtf 87 0)) (bUtf 23362 0)) (bPair 12 5 6)) (bPair 9 2 7)) (bUtf 75 0)) (bClassed 9)) (bUtf 1667329132 0)) (bUtf 675883350 0)) (bPair 12 11 12)) (bPair 10 10 13)) (bUtf 1835102827 0)) (bPair 12 15 12)) (bPair 10 10 16)) (bUtf 1937010544 0)) (bPair 12 18 12)) (bPair 10 10 19)) (bUtf 1936292453 0)) (bPair 12 21 12)) (bPair 10 10 22)))) 0 0 200 [(0, .ref F), (1, .int (nI p)), (2, .int (nI mem))] []
  have hr : LB (aB (aB (aB (aB (aB (aB (aB (aB (aB (aB (aB (aB (aB (aB (aB (aB (aB (aB (aB (aB (aB (aB (aB (aB (aB (aB (aB s (b4 (-889275714))) (b2 0)) (b2 46)) (b2 (nI (28 + mem)))) (bNm 80 p)) (bClassed 1)) (bUtf 7665538200540832110 7435248793922397044)) (bClassed 3)) (bUtf 87 0)) (bUtf 23362 0)) (bPair 12 5 6)) (bPair 9 2 7)) (bUtf 75 0)) (bClassed 9)) (bUtf 1667329132 0)) (bUtf 675883350 0)) (bPair 12 11 12)) (bPair 10 10 13)) (bUtf 1835102827 0)) (bPair 12 15 12)) (bPair 10 10 16)) (bUtf 1937010544 0)) (bPair 12 18 12)) (bPair 10 10 19)) (bUtf 1936292453 0)) (bPair 12 21 12)) (bPair 10 10 22)) (31 + 6 * mem) := hr.app (by show 5 + _ ≤ _; omega)
  refine g_aload_n (n := 201) hX dX0_writeConstants_200 rfl rfl rfl ?_
  refine g_ldcS (n := 203) 9 hX hE rfl dX0_writeConstants_201 rfl ?_
  refine g_pcallV (n := 206) (As := [.ref (eK (gD Γ) 9)]) (rest := []) hX hE hU hY dX0_writeConstants_203 rfl yv_X0_text um_X0_89 (f_text _ _ K L f F B T (aB (aB (aB (aB (aB (aB (aB (aB (aB (aB (aB (aB (aB (aB (aB (aB (aB (aB (aB (aB (aB (aB (aB (aB (aB (aB (aB s (b4 (-889275714))) (b2 0)) (b2 46)) (b2 (nI (28 + mem)))) (bNm 80 p)) (bClassed 1)) (bUtf 7665538200540832110 7435248793922397044)) (bClassed 3)) (bUtf 87 0)) (bUtf 23362 0)) (bPair 12 5 6)) (bPair 9 2 7)) (bUtf 75 0)) (bClassed 9)) (bUtf 1667329132 0)) (bUtf 675883350 0)) (bPair 12 11 12)) (bPair 10 10 13)) (bUtf 1835102827 0)) (bPair 12 15 12)) (bPair 10 10 16)) (bUtf 1937010544 0)) (bPair 12 18 12)) (bPair 10 10 19)) (bUtf 1936292453 0)) (bPair 12 21 12)) (bPair 10 10 22)) 9 rfl hF (hr.le (by show 7 ≤ _; omega))) ⟨rfl, rfl⟩ (rm_le hRm rfl rfl) rfl hF.1 fw_F rfl rfl rfl (Nat.le_of_ble_eq_true rfl) ⟨Nat.zero_le _, Nat.zero_le _⟩ (fun v0 w0 hq0 => ?_)
  obtain ⟨rfl, hw0⟩ := hq0; rw [hw0, aB_congr _ _ _ (tx_all 9 (by decide))]
  show G Γ (va_pl L (fw K f F B T (aB (aB (aB (aB (aB (aB (aB (aB (aB (aB (aB (aB (aB (aB (aB (aB (aB (aB (aB (aB (aB (aB (aB (aB (aB (aB (aB (aB s (b4 (-889275714))) (b2 0)) (b2 46)) (b2 (nI (28 + mem)))) (bNm 80 p)) (bClassed 1)) (bUtf 7665538200540832110 7435248793922397044)) (bClassed 3)) (bUtf 87 0)) (bUtf 23362 0)) (bPair 12 5 6)) (bPair 9 2 7)) (bUtf 75 0)) (bClassed 9)) (bUtf 1667329132 0)) (bUtf 675883350 0)) (bPair 12 11 12)) (bPair 10 10 13)) (bUtf 1835102827 0)) (bPair 12 15 12)) (bPair 10 10 16)) (bUtf 1937010544 0)) (bPair 12 18 12)) (bPair 10 10 19)) (bUtf 1936292453 0)) (bPair 12 21 12)) (bPair 10 10 22)) (bUtf 1131373669 0)))) 0 0 206 [(0, .ref F), (1, .int (nI p)), (2, .int (nI mem))] []
  have hr : LB (aB (aB (aB (aB (aB (aB (aB (aB (aB (aB (aB (aB (aB (aB (aB (aB (aB (aB (aB (aB (aB (aB (aB (aB (aB (aB (aB (aB s (b4 (-889275714))) (b2 0)) (b2 46)) (b2 (nI (28 + mem)))) (bNm 80 p)) (bClassed 1)) (bUtf 7665538200540832110 7435248793922397044)) (bClassed 3)) (bUtf 87 0)) (bUtf 23362 0)) (bPair 12 5 6)) (bPair 9 2 7)) (bUtf 75 0)) (bClassed 9)) (bUtf 1667329132 0)) (bUtf 675883350 0)) (bPair 12 11 12)) (bPair 10 10 13)) (bUtf 1835102827 0)) (bPair 12 15 12)) (bPair 10 10 16)) (bUtf 1937010544 0)) (bPair 12 18 12)) (bPair 10 10 19)) (bUtf 1936292453 0)) (bPair 12 21 12)) (bPair 10 10 22)) (bUtf 1131373669 0)) (24 + 6 * mem) := hr.app (by rw [show (bUtf 1131373669 0).length = 7 from rfl]; omega)
  refine g_aload_n (n := 207) hX dX0_writeConstants_206 rfl rfl rfl ?_
  refine g_ldcS (n := 209) 10 hX hE rfl dX0_writeConstants_207 rfl ?_
  refine g_pcallV (n := 212) (As := [.ref (eK (gD Γ) 10)]) (rest := []) hX hE hU hY dX0_writeConstants_209 rfl yv_X0_text um_X0_89 (f_text _ _ K L f F B T (aB (aB (aB (aB (aB (aB (aB (aB (aB (aB (aB (aB (aB (aB (aB (aB (aB (aB (aB (aB (aB (aB (aB (aB (aB (aB (aB (aB s (b4 (-889275714))) (b2 0)) (b2 46)) (b2 (nI (28 + mem)))) (bNm 80 p)) (bClassed 1)) (bUtf 7665538200540832110 7435248793922397044)) (bClassed 3)) (bUtf 87 0)) (bUtf 23362 0)) (bPair 12 5 6)) (bPair 9 2 7)) (bUtf 75 0)) (bClassed 9)) (bUtf 1667329132 0)) (bUtf 675883350 0)) (bPair 12 11 12)) (bPair 10 10 13)) (bUtf 1835102827 0)) (bPair 12 15 12)) (bPair 10 10 16)) (bUtf 1937010544 0)) (bPair 12 18 12)) (bPair 10 10 19)) (bUtf 1936292453 0)) (bPair 12 21 12)) (bPair 10 10 22)) (bUtf 1131373669 0)) 10 rfl hF (hr.le (by show 7 ≤ _; omega))) ⟨rfl, rfl⟩ (rm_le hRm rfl rfl) rfl hF.1 fw_F rfl rfl rfl (Nat.le_of_ble_eq_true rfl) ⟨Nat.zero_le _, Nat.zero_le _⟩ (fun v0 w0 hq0 => ?_)
  obtain ⟨rfl, hw0⟩ := hq0; rw [hw0, aB_congr _ _ _ (tx_all 10 (by decide))]
  show G Γ (va_pl L (fw K f F B T (aB (aB (aB (aB (aB (aB (aB (aB (aB (aB (aB (aB (aB (aB (aB (aB (aB (aB (aB (aB (aB (aB (aB (aB (aB (aB (aB (aB (aB s (b4 (-889275714))) (b2 0)) (b2 46)) (b2 (nI (28 + mem)))) (bNm 80 p)) (bClassed 1)) (bUtf 7665538200540832110 7435248793922397044)) (bClassed 3)) (bUtf 87 0)) (bUtf 23362 0)) (bPair 12 5 6)) (bPair 9 2 7)) (bUtf 75 0)) (bClassed 9)) (bUtf 1667329132 0)) (bUtf 675883350 0)) (bPair 12 11 12)) (bPair 10 10 13)) (bUtf 1835102827 0)) (bPair 12 15 12)) (bPair 10 10 16)) (bUtf 1937010544 0)) (bPair 12 18 12)) (bPair 10 10 19)) (bUtf 1936292453 0)) (bPair 12 21 12)) (bPair 10 10 22)) (bUtf 1131373669 0)) (bUtf 675883337 0)))) 0 0 212 [(0, .ref F), (1, .int (nI p)), (2, .int (nI mem))] []
  have hr : LB (aB (aB (aB (aB (aB (aB (aB (aB (aB (aB (aB (aB (aB (aB (aB (aB (aB (aB (aB (aB (aB (aB (aB (aB (aB (aB (aB (aB (aB s (b4 (-889275714))) (b2 0)) (b2 46)) (b2 (nI (28 + mem)))) (bNm 80 p)) (bClassed 1)) (bUtf 7665538200540832110 7435248793922397044)) (bClassed 3)) (bUtf 87 0)) (bUtf 23362 0)) (bPair 12 5 6)) (bPair 9 2 7)) (bUtf 75 0)) (bClassed 9)) (bUtf 1667329132 0)) (bUtf 675883350 0)) (bPair 12 11 12)) (bPair 10 10 13)) (bUtf 1835102827 0)) (bPair 12 15 12)) (bPair 10 10 16)) (bUtf 1937010544 0)) (bPair 12 18 12)) (bPair 10 10 19)) (bUtf 1936292453 0)) (bPair 12 21 12)) (bPair 10 10 22)) (bUtf 1131373669 0)) (bUtf 675883337 0)) (17 + 6 * mem) := hr.app (by rw [show (bUtf 675883337 0).length = 7 from rfl]; omega)
  refine g_aload_n (n := 213) hX dX0_writeConstants_212 rfl rfl rfl ?_
  refine g_ldcS (n := 215) 11 hX hE rfl dX0_writeConstants_213 rfl ?_
  refine g_pcallV (n := 218) (As := [.ref (eK (gD Γ) 11)]) (rest := []) hX hE hU hY dX0_writeConstants_215 rfl yv_X0_text um_X0_89 (f_text _ _ K L f F B T (aB (aB (aB (aB (aB (aB (aB (aB (aB (aB (aB (aB (aB (aB (aB (aB (aB (aB (aB (aB (aB (aB (aB (aB (aB (aB (aB (aB (aB s (b4 (-889275714))) (b2 0)) (b2 46)) (b2 (nI (28 + mem)))) (bNm 80 p)) (bClassed 1)) (bUtf 7665538200540832110 7435248793922397044)) (bClassed 3)) (bUtf 87 0)) (bUtf 23362 0)) (bPair 12 5 6)) (bPair 9 2 7)) (bUtf 75 0)) (bClassed 9)) (bUtf 1667329132 0)) (bUtf 675883350 0)) (bPair 12 11 12)) (bPair 10 10 13)) (bUtf 1835102827 0)) (bPair 12 15 12)) (bPair 10 10 16)) (bUtf 1937010544 0)) (bPair 12 18 12)) (bPair 10 10 19)) (bUtf 1936292453 0)) (bPair 12 21 12)) (bPair 10 10 22)) (bUtf 1131373669 0)) (bUtf 675883337 0)) 11 rfl hF (hr.le (by show 11 ≤ _; omega))) ⟨rfl, rfl⟩ (rm_le hRm rfl rfl) rfl hF.1 fw_F rfl rfl rfl (Nat.le_of_ble_eq_true rfl) ⟨Nat.zero_le _, Nat.zero_le _⟩ (fun v0 w0 hq0 => ?_)
  obtain ⟨rfl, hw0⟩ := hq0; rw [hw0, aB_congr _ _ _ (tx_all 11 (by decide))]
  show G Γ (va_pl L (fw K f F B T (aB (aB (aB (aB (aB (aB (aB (aB (aB (aB (aB (aB (aB (aB (aB (aB (aB (aB (aB (aB (aB (aB (aB (aB (aB (aB (aB (aB (aB (aB s (b4 (-889275714))) (b2 0)) (b2 46)) (b2 (nI (28 + mem)))) (bNm 80 p)) (bClassed 1)) (bUtf 7665538200540832110 7435248793922397044)) (bClassed 3)) (bUtf 87 0)) (bUtf 23362 0)) (bPair 12 5 6)) (bPair 9 2 7)) (bUtf 75 0)) (bClassed 9)) (bUtf 1667329132 0)) (bUtf 675883350 0)) (bPair 12 11 12)) (bPair 10 10 13)) (bUtf 1835102827 0)) (bPair 12 15 12)) (bPair 10 10 16)) (bUtf 1937010544 0)) (bPair 12 18 12)) (bPair 10 10 19)) (bUtf 1936292453 0)) (bPair 12 21 12)) (bPair 10 10 22)) (bUtf 1131373669 0)) (bUtf 675883337 0)) (bUtf 4351440865049801790 0)))) 0 0 218 [(0, .ref F), (1, .int (nI p)), (2, .int (nI mem))] []
  have hr : LB (aB (aB (aB (aB (aB (aB (aB (aB (aB (aB (aB (aB (aB (aB (aB (aB (aB (aB (aB (aB (aB (aB (aB (aB (aB (aB (aB (aB (aB (aB s (b4 (-889275714))) (b2 0)) (b2 46)) (b2 (nI (28 + mem)))) (bNm 80 p)) (bClassed 1)) (bUtf 7665538200540832110 7435248793922397044)) (bClassed 3)) (bUtf 87 0)) (bUtf 23362 0)) (bPair 12 5 6)) (bPair 9 2 7)) (bUtf 75 0)) (bClassed 9)) (bUtf 1667329132 0)) (bUtf 675883350 0)) (bPair 12 11 12)) (bPair 10 10 13)) (bUtf 1835102827 0)) (bPair 12 15 12)) (bPair 10 10 16)) (bUtf 1937010544 0)) (bPair 12 18 12)) (bPair 10 10 19)) (bUtf 1936292453 0)) (bPair 12 21 12)) (bPair 10 10 22)) (bUtf 1131373669 0)) (bUtf 675883337 0)) (bUtf 4351440865049801790 0)) (6 + 6 * mem) := hr.app (by rw [show (bUtf 4351440865049801790 0).length = 11 from rfl]; omega)
  refine g_aload_n (n := 219) hX dX0_writeConstants_218 rfl rfl rfl ?_
  refine g_ldcS (n := 221) 12 hX hE rfl dX0_writeConstants_219 rfl ?_
  refine g_pcallV (n := 224) (As := [.ref (eK (gD Γ) 12)]) (rest := []) hX hE hU hY dX0_writeConstants_221 rfl yv_X0_text um_X0_89 (f_text _ _ K L f F B T (aB (aB (aB (aB (aB (aB (aB (aB (aB (aB (aB (aB (aB (aB (aB (aB (aB (aB (aB (aB (aB (aB (aB (aB (aB (aB (aB (aB (aB (aB s (b4 (-889275714))) (b2 0)) (b2 46)) (b2 (nI (28 + mem)))) (bNm 80 p)) (bClassed 1)) (bUtf 7665538200540832110 7435248793922397044)) (bClassed 3)) (bUtf 87 0)) (bUtf 23362 0)) (bPair 12 5 6)) (bPair 9 2 7)) (bUtf 75 0)) (bClassed 9)) (bUtf 1667329132 0)) (bUtf 675883350 0)) (bPair 12 11 12)) (bPair 10 10 13)) (bUtf 1835102827 0)) (bPair 12 15 12)) (bPair 10 10 16)) (bUtf 1937010544 0)) (bPair 12 18 12)) (bPair 10 10 19)) (bUtf 1936292453 0)) (bPair 12 21 12)) (bPair 10 10 22)) (bUtf 1131373669 0)) (bUtf 675883337 0)) (bUtf 4351440865049801790 0)) 12 rfl hF (hr.le (by show 6 ≤ _; omega))) ⟨rfl, rfl⟩ (rm_le hRm rfl rfl) rfl hF.1 fw_F rfl rfl rfl (Nat.le_of_ble_eq_true rfl) ⟨Nat.zero_le _, Nat.zero_le _⟩ (fun v0 w0 hq0 => ?_)
  obtain ⟨rfl, hw0⟩ := hq0; rw [hw0, aB_congr _ _ _ (tx_all 12 (by decide))]
  show G Γ (va_pl L (fw K f F B T (aB (aB (aB (aB (aB (aB (aB (aB (aB (aB (aB (aB (aB (aB (aB (aB (aB (aB (aB (aB (aB (aB (aB (aB (aB (aB (aB (aB (aB (aB (aB s (b4 (-889275714))) (b2 0)) (b2 46)) (b2 (nI (28 + mem)))) (bNm 80 p)) (bClassed 1)) (bUtf 7665538200540832110 7435248793922397044)) (bClassed 3)) (bUtf 87 0)) (bUtf 23362 0)) (bPair 12 5 6)) (bPair 9 2 7)) (bUtf 75 0)) (bClassed 9)) (bUtf 1667329132 0)) (bUtf 675883350 0)) (bPair 12 11 12)) (bPair 10 10 13)) (bUtf 1835102827 0)) (bPair 12 15 12)) (bPair 10 10 16)) (bUtf 1937010544 0)) (bPair 12 18 12)) (bPair 10 10 19)) (bUtf 1936292453 0)) (bPair 12 21 12)) (bPair 10 10 22)) (bUtf 1131373669 0)) (bUtf 675883337 0)) (bUtf 4351440865049801790 0)) (bUtf 2632022 0)))) 0 0 224 [(0, .ref F), (1, .int (nI p)), (2, .int (nI mem))] []
  have hr : LB (aB (aB (aB (aB (aB (aB (aB (aB (aB (aB (aB (aB (aB (aB (aB (aB (aB (aB (aB (aB (aB (aB (aB (aB (aB (aB (aB (aB (aB (aB (aB s (b4 (-889275714))) (b2 0)) (b2 46)) (b2 (nI (28 + mem)))) (bNm 80 p)) (bClassed 1)) (bUtf 7665538200540832110 7435248793922397044)) (bClassed 3)) (bUtf 87 0)) (bUtf 23362 0)) (bPair 12 5 6)) (bPair 9 2 7)) (bUtf 75 0)) (bClassed 9)) (bUtf 1667329132 0)) (bUtf 675883350 0)) (bPair 12 11 12)) (bPair 10 10 13)) (bUtf 1835102827 0)) (bPair 12 15 12)) (bPair 10 10 16)) (bUtf 1937010544 0)) (bPair 12 18 12)) (bPair 10 10 19)) (bUtf 1936292453 0)) (bPair 12 21 12)) (bPair 10 10 22)) (bUtf 1131373669 0)) (bUtf 675883337 0)) (bUtf 4351440865049801790 0)) (bUtf 2632022 0)) (0 + 6 * mem) := hr.app (by rw [show (bUtf 2632022 0).length = 6 from rfl]; omega)
  refine g_iconst (n := 225) (v := 0) hX dX0_writeConstants_224 rfl rfl ?_
  refine g_istore_n (lv' := [(3, .int 0), (0, .ref F), (1, .int (nI p)), (2, .int (nI mem))]) (n := 226) hX dX0_writeConstants_225 rfl rfl (by rw [hnL]; rfl) rfl ?_
  refine g_pick (lv' := [(3, .int 0), (0, .ref F), (1, .int (nI p)), (2, .int (nI mem))]) [0, 1, 2, 3] rfl ?_
  refine lp_wconst hX hE hRm hnL hY hF p mem hm 0 mem 0 _ (by omega) (hr.le (by omega)) ?_
  exact g_vret hX hR dX0_writeConstants_244 ⟨rfl, by unfold bConst; simp only [← aB_aB]⟩

theorem b4_00 : b2 0 ++ b2 0 = b4 0 := rfl
theorem st_bytes : ([3] ++ [3] ++ [108] ++ [87] : List Int32).map Int32.toInt8 = (b4 50555991).map Int32.toInt8 := by decide +kernel
theorem st_n (s : FS) : aB (aB (aB (aB s [3]) [3]) [108]) [87] = aB s (b4 50555991) := by
  rw [aB_aB, aB_aB, aB_aB]
  exact aB_congr _ _ _ st_bytes
theorem b4_00n (s : FS) : aB (aB s (b2 0)) (b2 0) = aB s (b4 0) := aB_aB s _ _
set_option maxHeartbeats 4000000 in
set_option maxRecDepth 100000 in
theorem f_writeStart (l : Launch) (D : va_G) (K : Nat → ClassId) (L : List Nat) (f : Nat → va_E) (F B T : Nat) (s : FS) (P : Nat) (p : Nat) (z sf : Int32) (ra n : Nat) (hPm : P ∈ L) (hPe : f P = .inr (5, [.int (nI p), .int z, .int sf, .ref ra, .int (nI n)])) (hPn : nf F B T P) (hF : fOk L F B T) (hr : LB s 38) : Mc l yX0_writeStart (wM yX0_writeStart cX0_writeStart 3 none) (rmL 4 0 0) D (yY K) [.ref F, .ref P] (va_pl L (fw K f F B T s)) (fun v w => v = none ∧ w = va_pl L (fw K f F B T (aB s (bStart sf z)))) 0 0 := by
  refine m_start (lv := [(0, .ref F), (1, .ref P)]) rfl (Nat.le_of_ble_eq_true rfl) rfl (fun Γ hX hRm hnL hY hDD hLa hR hI hE => ?_)
  have hU : ∀ w ∈ wU, w ∈ wM yX0_writeStart cX0_writeStart 3 none := fun w h => wM_in h
  subst hLa
  subst hDD
  by_cases hf : sf = 0
  · refine g_aload_n (n := 1) hX dX0_writeStart_0 rfl rfl rfl ?_
    refine g_pget (n := 4) ux_X3 rfl hX hU dX0_writeStart_1 rfl hPm ((fw_o hPn).trans hPe) 2 rfl uf_X0_118 rfl ?_
    refine g_if_eq (n := 7) (tgt := 12) hX dX0_writeStart_4 rfl (by decide) (fun c4 => ?_) (fun c4 => absurd hf c4)
    refine g_bipush (n := 14) (v := 8) hX dX0_writeStart_12 rfl rfl ?_
    refine g_istore_n (lv' := [(2, .int 8), (0, .ref F), (1, .ref P)]) (n := 15) hX dX0_writeStart_14 rfl rfl (by rw [hnL]; rfl) rfl ?_
    refine g_aload_n (n := 16) hX dX0_writeStart_15 rfl rfl rfl ?_
    refine g_bipush (n := 18) (v := 26) hX dX0_writeStart_16 rfl rfl ?_
    refine g_bipush (n := 20) (v := 27) hX dX0_writeStart_18 rfl rfl ?_
    refine g_iconst (n := 21) (v := 2) hX dX0_writeStart_20 rfl rfl ?_
    refine g_iconst (n := 22) (v := 0) hX dX0_writeStart_21 rfl rfl ?_
    refine g_iload_n (n := 23) hX dX0_writeStart_22 rfl rfl rfl ?_
    refine g_pcallV (n := 26) (As := [.int 26, .int 27, .int 2, .int 0, .int 8]) (rest := []) hX hE hU hY dX0_writeStart_23 rfl yv_X0_methodHead um_X0_122 (f_methodHead _ _ K L f F B T s 26 27 2 0 8 hF (hr.le (by decide))) ⟨rfl, rfl⟩ (rm_le hRm rfl rfl) rfl hF.1 fw_F rfl rfl rfl (Nat.le_of_ble_eq_true rfl) ⟨Nat.zero_le _, Nat.zero_le _⟩ (fun v0 w0 hq0 => ?_)
    obtain ⟨rfl, rfl⟩ := hq0
    show G Γ (va_pl L (fw K f F B T (aB s (bMethod 26 27 2 0 8)))) 0 0 26 [(2, .int 8), (0, .ref F), (1, .ref P)] []
    have hr : LB (aB s (bMethod 26 27 2 0 8)) 16 := hr.app (Nat.le_of_ble_eq_true rfl)
    refine g_aload_n (n := 27) hX dX0_writeStart_26 rfl rfl rfl ?_
    refine g_pget (n := 30) ux_X3 rfl hX hU dX0_writeStart_27 rfl hPm ((fw_o hPn).trans hPe) 2 rfl uf_X0_118 rfl ?_
    refine g_if_eq (n := 33) (tgt := 55) hX dX0_writeStart_30 rfl (by decide) (fun c30 => ?_) (fun c30 => absurd hf c30)
    refine g_aload_n (n := 56) hX dX0_writeStart_55 rfl rfl rfl ?_
    refine g_aload_n (n := 57) hX dX0_writeStart_56 rfl rfl rfl ?_
    refine g_pget (n := 60) ux_X3 rfl hX hU dX0_writeStart_57 rfl hPm ((fw_o hPn).trans hPe) 1 rfl uf_X0_129 rfl ?_
    refine g_pcallV (n := 63) (As := [.int z]) (rest := []) hX hE hU hY dX0_writeStart_60 rfl yv_X0_push um_X0_131 (f_push _ _ K L f F B T (aB s (bMethod 26 27 2 0 8)) z hF (hr.le (by decide))) ⟨rfl, rfl⟩ (rm_le hRm rfl rfl) rfl hF.1 fw_F rfl rfl rfl (Nat.le_of_ble_eq_true rfl) ⟨Nat.zero_le _, Nat.zero_le _⟩ (fun v0 w0 hq0 => ?_)
    obtain ⟨rfl, rfl⟩ := hq0
    show G Γ (va_pl L (fw K f F B T (aB (aB s (bMethod 26 27 2 0 8)) (bPush z)))) 0 0 63 [(2, .int 8), (0, .ref F), (1, .ref P)] []
    have hr : LB (aB (aB s (bMethod 26 27 2 0 8)) (bPush z)) 14 := hr.app (Nat.le_of_ble_eq_true rfl)
    refine g_aload_n (n := 64) hX dX0_writeStart_63 rfl rfl rfl ?_
    refine g_sipush (n := 67) (v := 188) hX dX0_writeStart_64 rfl rfl ?_
    refine g_pcallV (n := 70) (As := [.int 188]) (rest := []) hX hE hU hY dX0_writeStart_67 rfl yv_X0_u1 um_X0_126 (f_u1 _ _ K L f F B T (aB (aB s (bMethod 26 27 2 0 8)) (bPush z)) 188 hF (hr.le (by decide))) ⟨rfl, rfl⟩ (rm_le hRm rfl rfl) rfl hF.1 fw_F rfl rfl rfl (Nat.le_of_ble_eq_true rfl) ⟨Nat.zero_le _, Nat.zero_le _⟩ (fun v0 w0 hq0 => ?_)
    obtain ⟨rfl, rfl⟩ := hq0
    show G Γ (va_pl L (fw K f F B T (aB (aB (aB s (bMethod 26 27 2 0 8)) (bPush z)) ([188])))) 0 0 70 [(2, .int 8), (0, .ref F), (1, .ref P)] []
    have hr : LB (aB (aB (aB s (bMethod 26 27 2 0 8)) (bPush z)) ([188])) 13 := hr.app (Nat.le_of_ble_eq_true rfl)
    refine g_aload_n (n := 71) hX dX0_writeStart_70 rfl rfl rfl ?_
    refine g_bipush (n := 73) (v := 8) hX dX0_writeStart_71 rfl rfl ?_
    refine g_pcallV (n := 76) (As := [.int 8]) (rest := []) hX hE hU hY dX0_writeStart_73 rfl yv_X0_u1 um_X0_126 (f_u1 _ _ K L f F B T (aB (aB (aB s (bMethod 26 27 2 0 8)) (bPush z)) ([188])) 8 hF (hr.le (by decide))) ⟨rfl, rfl⟩ (rm_le hRm rfl rfl) rfl hF.1 fw_F rfl rfl rfl (Nat.le_of_ble_eq_true rfl) ⟨Nat.zero_le _, Nat.zero_le _⟩ (fun v0 w0 hq0 => ?_)
    obtain ⟨rfl, rfl⟩ := hq0
    show G Γ (va_pl L (fw K f F B T (aB (aB (aB (aB s (bMethod 26 27 2 0 8)) (bPush z)) ([188])) ([8])))) 0 0 76 [(2, .int 8), (0, .ref F), (1, .ref P)] []
    have hr : LB (aB (aB (aB (aB s (bMethod 26 27 2 0 8)) (bPush z)) ([188])) ([8])) 12 := hr.app (Nat.le_of_ble_eq_true rfl)
    refine g_aload_n (n := 77) hX dX0_writeStart_76 rfl rfl rfl ?_
    refine g_sipush (n := 80) (v := 179) hX dX0_writeStart_77 rfl rfl ?_
    refine g_bipush (n := 82) (v := 8) hX dX0_writeStart_80 rfl rfl ?_
    refine g_pcallV (n := 85) (As := [.int 179, .int 8]) (rest := []) hX hE hU hY dX0_writeStart_82 rfl yv_X0_withIndex um_X0_134 (f_withIndex _ _ K L f F B T (aB (aB (aB (aB s (bMethod 26 27 2 0 8)) (bPush z)) ([188])) ([8])) 179 8 hF (hr.le (by decide))) ⟨rfl, rfl⟩ (rm_le hRm rfl rfl) rfl hF.1 fw_F rfl rfl rfl (Nat.le_of_ble_eq_true rfl) ⟨Nat.zero_le _, Nat.zero_le _⟩ (fun v0 w0 hq0 => ?_)
    obtain ⟨rfl, rfl⟩ := hq0
    show G Γ (va_pl L (fw K f F B T (aB (aB (aB (aB (aB s (bMethod 26 27 2 0 8)) (bPush z)) ([188])) ([8])) (bIx 179 8)))) 0 0 85 [(2, .int 8), (0, .ref F), (1, .ref P)] []
    have hr : LB (aB (aB (aB (aB (aB s (bMethod 26 27 2 0 8)) (bPush z)) ([188])) ([8])) (bIx 179 8)) 9 := hr.app (Nat.le_of_ble_eq_true rfl)
    refine g_aload_n (n := 86) hX dX0_writeStart_85 rfl rfl rfl ?_
    refine g_sipush (n := 89) (v := 177) hX dX0_writeStart_86 rfl rfl ?_
    refine g_pcallV (n := 92) (As := [.int 177]) (rest := []) hX hE hU hY dX0_writeStart_89 rfl yv_X0_u1 um_X0_126 (f_u1 _ _ K L f F B T (aB (aB (aB (aB (aB s (bMethod 26 27 2 0 8)) (bPush z)) ([188])) ([8])) (bIx 179 8)) 177 hF (hr.le (by decide))) ⟨rfl, rfl⟩ (rm_le hRm rfl rfl) rfl hF.1 fw_F rfl rfl rfl (Nat.le_of_ble_eq_true rfl) ⟨Nat.zero_le _, Nat.zero_le _⟩ (fun v0 w0 hq0 => ?_)
    obtain ⟨rfl, rfl⟩ := hq0
    show G Γ (va_pl L (fw K f F B T (aB (aB (aB (aB (aB (aB s (bMethod 26 27 2 0 8)) (bPush z)) ([188])) ([8])) (bIx 179 8)) ([177])))) 0 0 92 [(2, .int 8), (0, .ref F), (1, .ref P)] []
    have hr : LB (aB (aB (aB (aB (aB (aB s (bMethod 26 27 2 0 8)) (bPush z)) ([188])) ([8])) (bIx 179 8)) ([177])) 8 := hr.app (Nat.le_of_ble_eq_true rfl)
    refine g_aload_n (n := 93) hX dX0_writeStart_92 rfl rfl rfl ?_
    refine g_pcallV (n := 96) (As := []) (rest := []) hX hE hU hY dX0_writeStart_93 rfl yv_X0_methodEnd um_X0_137 (f_methodEnd _ _ K L f F B T (aB (aB (aB (aB (aB (aB s (bMethod 26 27 2 0 8)) (bPush z)) ([188])) ([8])) (bIx 179 8)) ([177]))  hF (hr.le (by decide))) ⟨rfl, rfl⟩ (rm_le hRm rfl rfl) rfl hF.1 fw_F rfl rfl rfl (Nat.le_of_ble_eq_true rfl) ⟨Nat.zero_le _, Nat.zero_le _⟩ (fun v0 w0 hq0 => ?_)
    obtain ⟨rfl, rfl⟩ := hq0
    show G Γ (va_pl L (fw K f F B T (aB (aB (aB (aB (aB (aB (aB s (bMethod 26 27 2 0 8)) (bPush z)) ([188])) ([8])) (bIx 179 8)) ([177])) (b2 0 ++ b2 0)))) 0 0 96 [(2, .int 8), (0, .ref F), (1, .ref P)] []
    have hr : LB (aB (aB (aB (aB (aB (aB (aB s (bMethod 26 27 2 0 8)) (bPush z)) ([188])) ([8])) (bIx 179 8)) ([177])) (b2 0 ++ b2 0)) 4 := hr.app (Nat.le_of_ble_eq_true rfl)
    exact g_vret hX hR dX0_writeStart_96 ⟨rfl, by rw [bStart, if_pos hf, if_pos hf]; simp only [bIx, ← aB_aB, st_n, b4_00n, List.append_nil]⟩
  · refine g_aload_n (n := 1) hX dX0_writeStart_0 rfl rfl rfl ?_
    refine g_pget (n := 4) ux_X3 rfl hX hU dX0_writeStart_1 rfl hPm ((fw_o hPn).trans hPe) 2 rfl uf_X0_118 rfl ?_
    refine g_if_eq (n := 7) (tgt := 12) hX dX0_writeStart_4 rfl (by decide) (fun c4 => absurd c4 hf) (fun c4 => ?_)
    refine g_bipush (n := 9) (v := 12) hX dX0_writeStart_7 rfl rfl ?_
    refine g_goto (n := 14) hX dX0_writeStart_9 (by decide) ?_
    refine g_istore_n (lv' := [(2, .int 12), (0, .ref F), (1, .ref P)]) (n := 15) hX dX0_writeStart_14 rfl rfl (by rw [hnL]; rfl) rfl ?_
    refine g_aload_n (n := 16) hX dX0_writeStart_15 rfl rfl rfl ?_
    refine g_bipush (n := 18) (v := 26) hX dX0_writeStart_16 rfl rfl ?_
    refine g_bipush (n := 20) (v := 27) hX dX0_writeStart_18 rfl rfl ?_
    refine g_iconst (n := 21) (v := 2) hX dX0_writeStart_20 rfl rfl ?_
    refine g_iconst (n := 22) (v := 0) hX dX0_writeStart_21 rfl rfl ?_
    refine g_iload_n (n := 23) hX dX0_writeStart_22 rfl rfl rfl ?_
    refine g_pcallV (n := 26) (As := [.int 26, .int 27, .int 2, .int 0, .int 12]) (rest := []) hX hE hU hY dX0_writeStart_23 rfl yv_X0_methodHead um_X0_122 (f_methodHead _ _ K L f F B T s 26 27 2 0 12 hF (hr.le (by decide))) ⟨rfl, rfl⟩ (rm_le hRm rfl rfl) rfl hF.1 fw_F rfl rfl rfl (Nat.le_of_ble_eq_true rfl) ⟨Nat.zero_le _, Nat.zero_le _⟩ (fun v0 w0 hq0 => ?_)
    obtain ⟨rfl, rfl⟩ := hq0
    show G Γ (va_pl L (fw K f F B T (aB s (bMethod 26 27 2 0 12)))) 0 0 26 [(2, .int 12), (0, .ref F), (1, .ref P)] []
    have hr : LB (aB s (bMethod 26 27 2 0 12)) 16 := hr.app (Nat.le_of_ble_eq_true rfl)
    refine g_aload_n (n := 27) hX dX0_writeStart_26 rfl rfl rfl ?_
    refine g_pget (n := 30) ux_X3 rfl hX hU dX0_writeStart_27 rfl hPm ((fw_o hPn).trans hPe) 2 rfl uf_X0_118 rfl ?_
    refine g_if_eq (n := 33) (tgt := 55) hX dX0_writeStart_30 rfl (by decide) (fun c30 => absurd c30 hf) (fun c30 => ?_)
    refine g_aload_n (n := 34) hX dX0_writeStart_33 rfl rfl rfl ?_
    refine g_iconst (n := 35) (v := 3) hX dX0_writeStart_34 rfl rfl ?_
    refine g_pcallV (n := 38) (As := [.int 3]) (rest := []) hX hE hU hY dX0_writeStart_35 rfl yv_X0_u1 um_X0_126 (f_u1 _ _ K L f F B T (aB s (bMethod 26 27 2 0 12)) 3 hF (hr.le (by decide))) ⟨rfl, rfl⟩ (rm_le hRm rfl rfl) rfl hF.1 fw_F rfl rfl rfl (Nat.le_of_ble_eq_true rfl) ⟨Nat.zero_le _, Nat.zero_le _⟩ (fun v0 w0 hq0 => ?_)
    obtain ⟨rfl, rfl⟩ := hq0
    show G Γ (va_pl L (fw K f F B T (aB (aB s (bMethod 26 27 2 0 12)) ([3])))) 0 0 38 [(2, .int 12), (0, .ref F), (1, .ref P)] []
    have hr : LB (aB (aB s (bMethod 26 27 2 0 12)) ([3])) 15 := hr.app (Nat.le_of_ble_eq_true rfl)
    refine g_aload_n (n := 39) hX dX0_writeStart_38 rfl rfl rfl ?_
    refine g_iconst (n := 40) (v := 3) hX dX0_writeStart_39 rfl rfl ?_
    refine g_pcallV (n := 43) (As := [.int 3]) (rest := []) hX hE hU hY dX0_writeStart_40 rfl yv_X0_u1 um_X0_126 (f_u1 _ _ K L f F B T (aB (aB s (bMethod 26 27 2 0 12)) ([3])) 3 hF (hr.le (by decide))) ⟨rfl, rfl⟩ (rm_le hRm rfl rfl) rfl hF.1 fw_F rfl rfl rfl (Nat.le_of_ble_eq_true rfl) ⟨Nat.zero_le _, Nat.zero_le _⟩ (fun v0 w0 hq0 => ?_)
    obtain ⟨rfl, rfl⟩ := hq0
    show G Γ (va_pl L (fw K f F B T (aB (aB (aB s (bMethod 26 27 2 0 12)) ([3])) ([3])))) 0 0 43 [(2, .int 12), (0, .ref F), (1, .ref P)] []
    have hr : LB (aB (aB (aB s (bMethod 26 27 2 0 12)) ([3])) ([3])) 14 := hr.app (Nat.le_of_ble_eq_true rfl)
    refine g_aload_n (n := 44) hX dX0_writeStart_43 rfl rfl rfl ?_
    refine g_bipush (n := 46) (v := 108) hX dX0_writeStart_44 rfl rfl ?_
    refine g_pcallV (n := 49) (As := [.int 108]) (rest := []) hX hE hU hY dX0_writeStart_46 rfl yv_X0_u1 um_X0_126 (f_u1 _ _ K L f F B T (aB (aB (aB s (bMethod 26 27 2 0 12)) ([3])) ([3])) 108 hF (hr.le (by decide))) ⟨rfl, rfl⟩ (rm_le hRm rfl rfl) rfl hF.1 fw_F rfl rfl rfl (Nat.le_of_ble_eq_true rfl) ⟨Nat.zero_le _, Nat.zero_le _⟩ (fun v0 w0 hq0 => ?_)
    obtain ⟨rfl, rfl⟩ := hq0
    show G Γ (va_pl L (fw K f F B T (aB (aB (aB (aB s (bMethod 26 27 2 0 12)) ([3])) ([3])) ([108])))) 0 0 49 [(2, .int 12), (0, .ref F), (1, .ref P)] []
    have hr : LB (aB (aB (aB (aB s (bMethod 26 27 2 0 12)) ([3])) ([3])) ([108])) 13 := hr.app (Nat.le_of_ble_eq_true rfl)
    refine g_aload_n (n := 50) hX dX0_writeStart_49 rfl rfl rfl ?_
    refine g_bipush (n := 52) (v := 87) hX dX0_writeStart_50 rfl rfl ?_
    refine g_pcallV (n := 55) (As := [.int 87]) (rest := []) hX hE hU hY dX0_writeStart_52 rfl yv_X0_u1 um_X0_126 (f_u1 _ _ K L f F B T (aB (aB (aB (aB s (bMethod 26 27 2 0 12)) ([3])) ([3])) ([108])) 87 hF (hr.le (by decide))) ⟨rfl, rfl⟩ (rm_le hRm rfl rfl) rfl hF.1 fw_F rfl rfl rfl (Nat.le_of_ble_eq_true rfl) ⟨Nat.zero_le _, Nat.zero_le _⟩ (fun v0 w0 hq0 => ?_)
    obtain ⟨rfl, rfl⟩ := hq0
    show G Γ (va_pl L (fw K f F B T (aB (aB (aB (aB (aB s (bMethod 26 27 2 0 12)) ([3])) ([3])) ([108])) ([87])))) 0 0 55 [(2, .int 12), (0, .ref F), (1, .ref P)] []
    have hr : LB (aB (aB (aB (aB (aB s (bMethod 26 27 2 0 12)) ([3])) ([3])) ([108])) ([87])) 12 := hr.app (Nat.le_of_ble_eq_true rfl)
    refine g_aload_n (n := 56) hX dX0_writeStart_55 rfl rfl rfl ?_
    refine g_aload_n (n := 57) hX dX0_writeStart_56 rfl rfl rfl ?_
    refine g_pget (n := 60) ux_X3 rfl hX hU dX0_writeStart_57 rfl hPm ((fw_o hPn).trans hPe) 1 rfl uf_X0_129 rfl ?_
    refine g_pcallV (n := 63) (As := [.int z]) (rest := []) hX hE hU hY dX0_writeStart_60 rfl yv_X0_push um_X0_131 (f_push _ _ K L f F B T (aB (aB (aB (aB (aB s (bMethod 26 27 2 0 12)) ([3])) ([3])) ([108])) ([87])) z hF (hr.le (by decide))) ⟨rfl, rfl⟩ (rm_le hRm rfl rfl) rfl hF.1 fw_F rfl rfl rfl (Nat.le_of_ble_eq_true rfl) ⟨Nat.zero_le _, Nat.zero_le _⟩ (fun v0 w0 hq0 => ?_)
    obtain ⟨rfl, rfl⟩ := hq0
    show G Γ (va_pl L (fw K f F B T (aB (aB (aB (aB (aB (aB s (bMethod 26 27 2 0 12)) ([3])) ([3])) ([108])) ([87])) (bPush z)))) 0 0 63 [(2, .int 12), (0, .ref F), (1, .ref P)] []
    have hr : LB (aB (aB (aB (aB (aB (aB s (bMethod 26 27 2 0 12)) ([3])) ([3])) ([108])) ([87])) (bPush z)) 10 := hr.app (Nat.le_of_ble_eq_true rfl)
    refine g_aload_n (n := 64) hX dX0_writeStart_63 rfl rfl rfl ?_
    refine g_sipush (n := 67) (v := 188) hX dX0_writeStart_64 rfl rfl ?_
    refine g_pcallV (n := 70) (As := [.int 188]) (rest := []) hX hE hU hY dX0_writeStart_67 rfl yv_X0_u1 um_X0_126 (f_u1 _ _ K L f F B T (aB (aB (aB (aB (aB (aB s (bMethod 26 27 2 0 12)) ([3])) ([3])) ([108])) ([87])) (bPush z)) 188 hF (hr.le (by decide))) ⟨rfl, rfl⟩ (rm_le hRm rfl rfl) rfl hF.1 fw_F rfl rfl rfl (Nat.le_of_ble_eq_true rfl) ⟨Nat.zero_le _, Nat.zero_le _⟩ (fun v0 w0 hq0 => ?_)
    obtain ⟨rfl, rfl⟩ := hq0
    show G Γ (va_pl L (fw K f F B T (aB (aB (aB (aB (aB (aB (aB s (bMethod 26 27 2 0 12)) ([3])) ([3])) ([108])) ([87])) (bPush z)) ([188])))) 0 0 70 [(2, .int 12), (0, .ref F), (1, .ref P)] []
    have hr : LB (aB (aB (aB (aB (aB (aB (aB s (bMethod 26 27 2 0 12)) ([3])) ([3])) ([108])) ([87])) (bPush z)) ([188])) 9 := hr.app (Nat.le_of_ble_eq_true rfl)
    refine g_aload_n (n := 71) hX dX0_writeStart_70 rfl rfl rfl ?_
    refine g_bipush (n := 73) (v := 8) hX dX0_writeStart_71 rfl rfl ?_
    refine g_pcallV (n := 76) (As := [.int 8]) (rest := []) hX hE hU hY dX0_writeStart_73 rfl yv_X0_u1 um_X0_126 (f_u1 _ _ K L f F B T (aB (aB (aB (aB (aB (aB (aB s (bMethod 26 27 2 0 12)) ([3])) ([3])) ([108])) ([87])) (bPush z)) ([188])) 8 hF (hr.le (by decide))) ⟨rfl, rfl⟩ (rm_le hRm rfl rfl) rfl hF.1 fw_F rfl rfl rfl (Nat.le_of_ble_eq_true rfl) ⟨Nat.zero_le _, Nat.zero_le _⟩ (fun v0 w0 hq0 => ?_)
    obtain ⟨rfl, rfl⟩ := hq0
    show G Γ (va_pl L (fw K f F B T (aB (aB (aB (aB (aB (aB (aB (aB s (bMethod 26 27 2 0 12)) ([3])) ([3])) ([108])) ([87])) (bPush z)) ([188])) ([8])))) 0 0 76 [(2, .int 12), (0, .ref F), (1, .ref P)] []
    have hr : LB (aB (aB (aB (aB (aB (aB (aB (aB s (bMethod 26 27 2 0 12)) ([3])) ([3])) ([108])) ([87])) (bPush z)) ([188])) ([8])) 8 := hr.app (Nat.le_of_ble_eq_true rfl)
    refine g_aload_n (n := 77) hX dX0_writeStart_76 rfl rfl rfl ?_
    refine g_sipush (n := 80) (v := 179) hX dX0_writeStart_77 rfl rfl ?_
    refine g_bipush (n := 82) (v := 8) hX dX0_writeStart_80 rfl rfl ?_
    refine g_pcallV (n := 85) (As := [.int 179, .int 8]) (rest := []) hX hE hU hY dX0_writeStart_82 rfl yv_X0_withIndex um_X0_134 (f_withIndex _ _ K L f F B T (aB (aB (aB (aB (aB (aB (aB (aB s (bMethod 26 27 2 0 12)) ([3])) ([3])) ([108])) ([87])) (bPush z)) ([188])) ([8])) 179 8 hF (hr.le (by decide))) ⟨rfl, rfl⟩ (rm_le hRm rfl rfl) rfl hF.1 fw_F rfl rfl rfl (Nat.le_of_ble_eq_true rfl) ⟨Nat.zero_le _, Nat.zero_le _⟩ (fun v0 w0 hq0 => ?_)
    obtain ⟨rfl, rfl⟩ := hq0
    show G Γ (va_pl L (fw K f F B T (aB (aB (aB (aB (aB (aB (aB (aB (aB s (bMethod 26 27 2 0 12)) ([3])) ([3])) ([108])) ([87])) (bPush z)) ([188])) ([8])) (bIx 179 8)))) 0 0 85 [(2, .int 12), (0, .ref F), (1, .ref P)] []
    have hr : LB (aB (aB (aB (aB (aB (aB (aB (aB (aB s (bMethod 26 27 2 0 12)) ([3])) ([3])) ([108])) ([87])) (bPush z)) ([188])) ([8])) (bIx 179 8)) 5 := hr.app (Nat.le_of_ble_eq_true rfl)
    refine g_aload_n (n := 86) hX dX0_writeStart_85 rfl rfl rfl ?_
    refine g_sipush (n := 89) (v := 177) hX dX0_writeStart_86 rfl rfl ?_
    refine g_pcallV (n := 92) (As := [.int 177]) (rest := []) hX hE hU hY dX0_writeStart_89 rfl yv_X0_u1 um_X0_126 (f_u1 _ _ K L f F B T (aB (aB (aB (aB (aB (aB (aB (aB (aB s (bMethod 26 27 2 0 12)) ([3])) ([3])) ([108])) ([87])) (bPush z)) ([188])) ([8])) (bIx 179 8)) 177 hF (hr.le (by decide))) ⟨rfl, rfl⟩ (rm_le hRm rfl rfl) rfl hF.1 fw_F rfl rfl rfl (Nat.le_of_ble_eq_true rfl) ⟨Nat.zero_le _, Nat.zero_le _⟩ (fun v0 w0 hq0 => ?_)
    obtain ⟨rfl, rfl⟩ := hq0
    show G Γ (va_pl L (fw K f F B T (aB (aB (aB (aB (aB (aB (aB (aB (aB (aB s (bMethod 26 27 2 0 12)) ([3])) ([3])) ([108])) ([87])) (bPush z)) ([188])) ([8])) (bIx 179 8)) ([177])))) 0 0 92 [(2, .int 12), (0, .ref F), (1, .ref P)] []
    have hr : LB (aB (aB (aB (aB (aB (aB (aB (aB (aB (aB s (bMethod 26 27 2 0 12)) ([3])) ([3])) ([108])) ([87])) (bPush z)) ([188])) ([8])) (bIx 179 8)) ([177])) 4 := hr.app (Nat.le_of_ble_eq_true rfl)
    refine g_aload_n (n := 93) hX dX0_writeStart_92 rfl rfl rfl ?_
    refine g_pcallV (n := 96) (As := []) (rest := []) hX hE hU hY dX0_writeStart_93 rfl yv_X0_methodEnd um_X0_137 (f_methodEnd _ _ K L f F B T (aB (aB (aB (aB (aB (aB (aB (aB (aB (aB s (bMethod 26 27 2 0 12)) ([3])) ([3])) ([108])) ([87])) (bPush z)) ([188])) ([8])) (bIx 179 8)) ([177]))  hF (hr.le (by decide))) ⟨rfl, rfl⟩ (rm_le hRm rfl rfl) rfl hF.1 fw_F rfl rfl rfl (Nat.le_of_ble_eq_true rfl) ⟨Nat.zero_le _, Nat.zero_le _⟩ (fun v0 w0 hq0 => ?_)
    obtain ⟨rfl, rfl⟩ := hq0
    show G Γ (va_pl L (fw K f F B T (aB (aB (aB (aB (aB (aB (aB (aB (aB (aB (aB s (bMethod 26 27 2 0 12)) ([3])) ([3])) ([108])) ([87])) (bPush z)) ([188])) ([8])) (bIx 179 8)) ([177])) (b2 0 ++ b2 0)))) 0 0 96 [(2, .int 12), (0, .ref F), (1, .ref P)] []
    have hr : LB (aB (aB (aB (aB (aB (aB (aB (aB (aB (aB (aB s (bMethod 26 27 2 0 12)) ([3])) ([3])) ([108])) ([87])) (bPush z)) ([188])) ([8])) (bIx 179 8)) ([177])) (b2 0 ++ b2 0)) 0 := hr.app (Nat.le_of_ble_eq_true rfl)
    exact g_vret hX hR dX0_writeStart_96 ⟨rfl, by rw [bStart, if_neg hf, if_neg hf]; simp only [bIx, ← aB_aB, st_n, b4_00n, List.append_nil]⟩

