set_option maxHeartbeats 4000000 in
set_option maxRecDepth 100000 in
theorem f_fileOfS (l : Launch) (D : va_G) (K : Nat → ClassId) (L : List Nat) (f : Nat → va_E) (F B T : Nat) (s : FS) (P n fq : Nat) (MC mh mw : Nat) (m0 m6 m7 m8 : Int32) (hMm : MC ∈ L) (hMe : f MC = .inr (4, [.int m0, .ref mh, .ref P, .int (nI n), .ref mw, .ref fq, .int m6, .int m7, .int m8])) (hMn : nf F B T MC) (hF : fOk L F B T) : Mc l yX0_fileOf (wM yX0_fileOf cX0_fileOf 4 (some (.array .byte))) (rmL 6 1 2048) D (yY K) [.ref F, .ref MC] (va_pl L (fw K f F B T s)) (fun v w => v = some (.ref fq) ∧ w = va_pl L (fw K f F B T s)) 1 2048 := by
  refine m_start (lv := [(0, .ref F), (1, .ref MC)]) rfl (Nat.le_of_ble_eq_true rfl) rfl (fun Γ hX hRm hnL hY hDD hLa hR hI hE => ?_)
  have hU : ∀ w ∈ wU, w ∈ wM yX0_fileOf cX0_fileOf 4 (some (.array .byte)) := fun w h => wM_in h
  subst hLa
  subst hDD
  refine g_widen (kc' := 1) (ks' := 2048) (by decide) (by decide) ?_
  refine g_aload_n (n := 1) hX dX0_fileOf_0 rfl rfl rfl ?_
  refine g_pget (n := 4) ux_X2 rfl hX hU dX0_fileOf_1 rfl hMm ((fw_o hMn).trans hMe) 5 rfl uf_X0_19 rfl ?_
  refine g_ifnonnull (tgt := 122) hX dX0_fileOf_4 (by decide) ?_
  refine g_aload_n (n := 123) hX dX0_fileOf_122 rfl rfl rfl ?_
  refine g_pget (n := 126) ux_X2 rfl hX hU dX0_fileOf_123 rfl hMm ((fw_o hMn).trans hMe) 5 rfl uf_X0_19 rfl ?_
  exact g_aret hX hR dX0_fileOf_126 (Or.inr ⟨_, rfl⟩) (Or.inr ⟨_, rfl⟩) ⟨rfl, rfl⟩

theorem bConst_len2 (p mem : Nat) (hp : p ≤ 12) (hm : mem ≤ 6) : (bConst p mem).length ≤ 165 + 6 * mem := by
  have h1 := nm_80l p hp
  have h2 : ∀ j, j ≤ mem → (catR (bNm 109) 0 j).length ≤ 6 * j := by
    intro j
    induction j with
    | zero => intro _; exact Nat.le_refl 0
    | succ j ih =>
      intro hj
      have a1 := ih (by omega)
      have a2 := nm_109l (0 + j) (by omega)
      simp only [catR, List.length_append]
      omega
  have h3 := h2 mem (Nat.le_refl _)
  have h4 : (bConst p mem).length = 159 + (bNm 80 p).length + (catR (bNm 109) 0 mem).length := by
    unfold bConst
    simp only [List.length_append]
    rw [show (bUtf 7665538200540832110 7435248793922397044).length = 19 from rfl, show (bUtf 87 0).length = 4 from rfl, show (bUtf 23362 0).length = 5 from rfl, show (bUtf 75 0).length = 4 from rfl, show (bUtf 1667329132 0).length = 7 from rfl, show (bUtf 675883350 0).length = 7 from rfl, show (bUtf 1835102827 0).length = 7 from rfl, show (bUtf 1937010544 0).length = 7 from rfl, show (bUtf 1936292453 0).length = 7 from rfl, show (bUtf 1131373669 0).length = 7 from rfl, show (bUtf 675883337 0).length = 7 from rfl, show (bUtf 4351440865049801790 0).length = 11 from rfl, show (bUtf 2632022 0).length = 6 from rfl]
    simp only [bClassed, bPair, b2, List.length_append, List.length_cons, List.length_nil]
    omega
  omega
theorem bStart_len (sf z : Int32) : (bStart sf z).length ≤ 38 := by
  unfold bStart
  split <;> simp [bMethod, b4, b2, bPush]
theorem bMems_len (pr : PR) (n : Nat) (hn : n ≤ 60) : (catR (fun k => bMember pr k (lastOf n k)) 0 ((n + 9) / 10)).length ≤ 1716 := by
  have h3 : ∀ j, j ≤ (n + 9) / 10 → (catR (fun k => bMember pr k (lastOf n k)) 0 j).length ≤ 286 * j := by
    intro j
    induction j with
    | zero => intro _; exact Nat.le_refl 0
    | succ j ih =>
      intro hj
      have a1 := ih (by omega)
      have a3 := lastOf_in (n := n) (k := 0 + j) (by omega)
      have a2 := bMember_len pr (0 + j) (lastOf n (0 + j)) (by omega)
      simp only [catR, List.length_append]
      omega
  have := h3 _ (Nat.le_refl _)
  omega
theorem bFile_len2 (p : Nat) (sf z : Int32) (pr : PR) (n : Nat) (hp : p ≤ 12) (hn : n ≤ 60) : (bFile p sf z pr n).length < 2048 := by
  have h1 := bConst_len2 p ((n + 9) / 10) hp (by omega)
  have h2 := bStart_len sf z
  have h3 := bMems_len pr n hn
  have h6 : (bFace ((n + 9) / 10)).length = 20 := rfl
  have h7 : (bMems pr n).length ≤ 1716 := h3
  simp only [bFile, List.length_append, b2_len, h6, show ∀ a, (b4 a).length = 4 from fun _ => rfl]
  omega
theorem LB_aBsC {s : FS} {c : Int32 × Int32 × (Nat → Int32)} {bs : List Int32} {k : Nat} (h : LB (aB s bs) k) : LB (aB (sC s c) bs) k := by
  rw [aB_sC]
  exact h
theorem fin_state (s : FS) (c : Int32 × Int32 × (Nat → Int32)) (p mem : Nat) (sf z : Int32) (pr : PR) (n : Nat) (hmem : mem = (n + 9) / 10) : aB (aB (sC (aB (aB (aB ((0, s.2) : FS) (b4 (-889275714) ++ b2 0 ++ b2 46 ++ bConst p mem)) (bFace mem)) (bStart sf z)) c) (catR (fun k => bMember pr k (lastOf n k)) 0 mem)) (b2 0) = aB (sC (0, s.2) c) (bFile p sf z pr n) := by
  subst hmem
  rw [bFile, bMems]
  simp only [← aB_aB, aB_sC]
  rfl
set_option maxHeartbeats 4000000 in
set_option maxRecDepth 100000 in
theorem f_fileOfN (l : Launch) (D : va_G) (K : Nat → ClassId) (L : List Nat) (f : Nat → va_E) (F B T : Nat) (s : FS) (P ra cnt p : Nat) (z sf : Int32) (g : Nat → Option Nat) (RO : Nat → Nat) (pr : PR) (n : Nat) (hQ : prOk K L f F B T P ra cnt p z sf g RO pr n) (MC mh mw : Nat) (m0 m6 m7 m8 : Int32) (hMm : MC ∈ L) (hMe : f MC = .inr (4, [.int m0, .ref mh, .ref P, .int (nI n), .ref mw, .null, .int m6, .int m7, .int m8])) (hMn : nf F B T MC) (hp : p ≤ 12) (hn60 : n ≤ 60) (hF : fOk L F B T) : Mc l yX0_fileOf (wM yX0_fileOf cX0_fileOf 4 (some (.array .byte))) (rmL 6 1 2048) D (yY K) [.ref F, .ref MC] (va_pl L (fw K f F B T s)) (fun v w => ∃ (q : Nat) (gq : Nat → Int32) (c : Int32 × Int32 × (Nat → Int32)) (f1 : Nat → va_E), q ∉ L ∧ v = some (.ref q) ∧ w = va_pl (L ++ [q]) f1 ∧ f1 = va_up (va_up (fw K f F B T (aB (sC (0, s.2) c) (bFile p sf z pr n))) q (.inl (K 0, (bFile p sf z pr n).length, .inl gq))) MC (.inr (4, [.int m0, .ref mh, .ref P, .int (nI n), .ref mw, .ref q, .int m6, .int m7, .int m8])) ∧ ∀ i, i < (bFile p sf z pr n).length → gq i = ((bFile p sf z pr n).getD i 0).toInt8.toInt32) 1 2048 := by
  have hQ2 := hQ
  obtain ⟨hPm, hPe, hPn, hAm, hAe, hAn, hc60, hnc, hg, hro⟩ := hQ2
  refine m_start (lv := [(0, .ref F), (1, .ref MC)]) rfl (Nat.le_of_ble_eq_true rfl) rfl (fun Γ hX hRm hnL hY hDD hLa hR hI hE => ?_)
  have hU : ∀ w ∈ wU, w ∈ wM yX0_fileOf cX0_fileOf 4 (some (.array .byte)) := fun w h => wM_in h
  subst hLa
  subst hDD
  obtain ⟨mem, hmem⟩ : ∃ z, z = (n + 9) / 10 := ⟨_, rfl⟩
  refine g_aload_n (n := 1) hX dX0_fileOf_0 rfl rfl rfl ?_
  refine g_pget (n := 4) ux_X2 rfl hX hU dX0_fileOf_1 rfl hMm ((fw_o hMn).trans hMe) 5 rfl uf_X0_19 rfl ?_
  refine g_ifnonnullN (n := 7) hX dX0_fileOf_4 rfl ?_
  refine g_aload_n (n := 8) hX dX0_fileOf_7 rfl rfl rfl ?_
  refine g_pget (n := 11) ux_X2 rfl hX hU dX0_fileOf_8 rfl hMm ((fw_o hMn).trans hMe) 3 rfl uf_X0_24 rfl ?_
  refine g_bipush (n := 13) (v := 10) hX dX0_fileOf_11 rfl rfl ?_
  refine g_iadd (n := 14) (v := nI (n + 10)) hX dX0_fileOf_13 rfl (nI_add n 10) ?_
  refine g_iconst (n := 15) (v := 1) hX dX0_fileOf_14 rfl rfl ?_
  refine g_isub (n := 16) (v := nI (n + 9)) hX dX0_fileOf_15 rfl (nI_sub1 (a := n + 10) (by omega)) ?_
  refine g_bipush (n := 18) (v := 10) hX dX0_fileOf_16 rfl rfl ?_
  refine g_idiv (n := 19) (v := nI mem) hX dX0_fileOf_18 rfl (by decide) (by rw [hmem]; exact pk_div (by omega) (by decide) (by decide)) ?_
  refine g_istore_n (lv' := [(2, .int (nI mem)), (0, .ref F), (1, .ref MC)]) (n := 20) hX dX0_fileOf_19 rfl rfl (by rw [hnL]; rfl) rfl ?_
  refine g_aload_n (n := 21) hX dX0_fileOf_20 rfl rfl rfl ?_
  refine g_iconst (n := 22) (v := 0) hX dX0_fileOf_21 rfl rfl ?_
  refine g_fput (n := 25) 2 (0, s.2) hX hU hF dX0_fileOf_22 rfl rfl uf_X0_28 rfl rfl rfl rfl rfl ?_
  have hr : LB (0, s.2) 2048 := (show 0 + 2048 ≤ 2048 by decide)
  refine g_aload_n (n := 26) hX dX0_fileOf_25 rfl rfl rfl ?_
  refine g_aload_n (n := 27) hX dX0_fileOf_26 rfl rfl rfl ?_
  refine g_pget (n := 30) ux_X2 rfl hX hU dX0_fileOf_27 rfl hMm ((fw_o hMn).trans hMe) 2 rfl uf_X0_31 rfl ?_
  refine g_pget (n := 33) ux_X3 rfl hX hU dX0_fileOf_30 rfl hPm ((fw_o hPn).trans hPe) 0 rfl uf_X0_35 rfl ?_
  refine g_iload_n (n := 34) hX dX0_fileOf_33 rfl rfl rfl ?_
  refine g_pcallV (n := 37) (As := [.int (nI p), .int (nI mem)]) (rest := []) hX hE hU hY dX0_fileOf_34 rfl yv_X0_writeConstants um_X0_40 (f_writeConstants _ _ K L f F B T (0, s.2) p mem hp (by omega) hF (hr.le (by omega))) ⟨rfl, rfl⟩ (rm_le hRm rfl rfl) rfl hF.1 fw_F rfl rfl rfl (Nat.le_of_ble_eq_true rfl) ⟨Nat.zero_le _, Nat.zero_le _⟩ (fun v0 w0 hq0 => ?_)
  obtain ⟨rfl, rfl⟩ := hq0
  show G Γ (va_pl L (fw K f F B T (aB ((0, s.2) : FS) (b4 (-889275714) ++ b2 0 ++ b2 46 ++ bConst p mem)))) 0 0 37 [(2, .int (nI mem)), (0, .ref F), (1, .ref MC)] []
  have hr : LB (aB ((0, s.2) : FS) (b4 (-889275714) ++ b2 0 ++ b2 46 ++ bConst p mem)) 1838 := hr.app (by have := bConst_len2 p mem hp (by omega); simp only [List.length_append, b2_len, show ∀ a, (b4 a).length = 4 from fun _ => rfl]; omega)
  refine g_aload_n (n := 38) hX dX0_fileOf_37 rfl rfl rfl ?_
  refine g_iload_n (n := 39) hX dX0_fileOf_38 rfl rfl rfl ?_
  refine g_pcallV (n := 42) (As := [.int (nI mem)]) (rest := []) hX hE hU hY dX0_fileOf_39 rfl yv_X0_writeFace um_X0_44 (f_writeFace _ _ K L f F B T (aB ((0, s.2) : FS) (b4 (-889275714) ++ b2 0 ++ b2 46 ++ bConst p mem)) mem hF (hr.le (by decide))) ⟨rfl, rfl⟩ (rm_le hRm rfl rfl) rfl hF.1 fw_F rfl rfl rfl (Nat.le_of_ble_eq_true rfl) ⟨Nat.zero_le _, Nat.zero_le _⟩ (fun v0 w0 hq0 => ?_)
  obtain ⟨rfl, rfl⟩ := hq0
  show G Γ (va_pl L (fw K f F B T (aB (aB ((0, s.2) : FS) (b4 (-889275714) ++ b2 0 ++ b2 46 ++ bConst p mem)) (bFace mem)))) 0 0 42 [(2, .int (nI mem)), (0, .ref F), (1, .ref MC)] []
  have hr : LB (aB (aB ((0, s.2) : FS) (b4 (-889275714) ++ b2 0 ++ b2 46 ++ bConst p mem)) (bFace mem)) 1818 := hr.app (by show 20 + _ ≤ _; omega)
  refine g_aload_n (n := 43) hX dX0_fileOf_42 rfl rfl rfl ?_
  refine g_aload_n (n := 44) hX dX0_fileOf_43 rfl rfl rfl ?_
  refine g_pget (n := 47) ux_X2 rfl hX hU dX0_fileOf_44 rfl hMm ((fw_o hMn).trans hMe) 2 rfl uf_X0_31 rfl ?_
  refine g_pcallV (n := 50) (As := [.ref P]) (rest := []) hX hE hU hY dX0_fileOf_47 rfl yv_X0_writeStart um_X0_48 (f_writeStart _ _ K L f F B T (aB (aB ((0, s.2) : FS) (b4 (-889275714) ++ b2 0 ++ b2 46 ++ bConst p mem)) (bFace mem)) P p z sf ra cnt hPm hPe hPn hF (hr.le (by decide))) ⟨rfl, rfl⟩ (rm_le hRm rfl rfl) rfl hF.1 fw_F rfl rfl rfl (Nat.le_of_ble_eq_true rfl) ⟨Nat.zero_le _, Nat.zero_le _⟩ (fun v0 w0 hq0 => ?_)
  obtain ⟨rfl, rfl⟩ := hq0
  show G Γ (va_pl L (fw K f F B T (aB (aB (aB ((0, s.2) : FS) (b4 (-889275714) ++ b2 0 ++ b2 46 ++ bConst p mem)) (bFace mem)) (bStart sf z)))) 0 0 50 [(2, .int (nI mem)), (0, .ref F), (1, .ref MC)] []
  have hr : LB (aB (aB (aB ((0, s.2) : FS) (b4 (-889275714) ++ b2 0 ++ b2 46 ++ bConst p mem)) (bFace mem)) (bStart sf z)) 1780 := hr.app (by have := bStart_len sf z; omega)
  refine g_iconst (n := 51) (v := 0) hX dX0_fileOf_50 rfl rfl ?_
  refine g_istore_n (lv' := [(3, .int 0), (2, .int (nI mem)), (0, .ref F), (1, .ref MC)]) (n := 52) hX dX0_fileOf_51 rfl rfl (by rw [hnL]; rfl) rfl ?_
  refine g_pick (lv' := [(3, .int 0), (2, .int (nI mem)), (0, .ref F), (1, .ref MC)]) [0, 1, 2, 3] rfl ?_
  refine lp_fileOf hX hE hRm hnL hY hF P ra cnt p z sf g RO pr n hQ MC mh mw m0 m6 m7 m8 hMm hMe hMn mem hmem hn60 62 mem 0 _ (by omega) (hr.le (by omega)) (fun c hr => ?_)
  have hlen := bFile_len2 p sf z pr n hp hn60
  have hby : ∀ i, i < (bFile p sf z pr n).length → (aB (sC (0, s.2) c) (bFile p sf z pr n)).2.1 i = ((bFile p sf z pr n).getD i 0).toInt8.toInt32 := fun i hi => by have h9 := aB_new (sC (0, s.2) c) (bFile p sf z pr n) hi; rw [show (sC (0, s.2) c).1 + i = i from Nat.zero_add i] at h9; exact h9
  refine g_aload_n (n := 103) hX dX0_fileOf_102 rfl rfl rfl ?_
  refine g_iconst (n := 104) (v := 0) hX dX0_fileOf_103 rfl rfl ?_
  refine g_pcallV (n := 107) (As := [.int 0]) (rest := []) hX hE hU hY dX0_fileOf_104 rfl yv_X0_u2 um_X0_68 (f_u2 _ _ K L f F B T (aB (sC (aB (aB (aB ((0, s.2) : FS) (b4 (-889275714) ++ b2 0 ++ b2 46 ++ bConst p mem)) (bFace mem)) (bStart sf z)) c) (catR (fun k => bMember pr k (lastOf n k)) 0 mem)) 0 hF ((LB_aBsC hr).le (by decide))) ⟨rfl, rfl⟩ (rm_le hRm rfl rfl) rfl hF.1 fw_F rfl rfl rfl (Nat.le_of_ble_eq_true rfl) ⟨Nat.zero_le _, Nat.zero_le _⟩ (fun v0 w0 hq0 => ?_)
  obtain ⟨rfl, hw0⟩ := hq0; rw [hw0, fin_state s c p mem sf z pr n hmem]
  show G Γ (va_pl L (fw K f F B T (aB (sC (0, s.2) c) (bFile p sf z pr n)))) 0 0 107 [(3, .int (nI mem)), (2, .int (nI mem)), (0, .ref F), (1, .ref MC)] []
  refine g_aload_n (n := 108) hX dX0_fileOf_107 rfl rfl rfl ?_
  refine g_aload_n (n := 109) hX dX0_fileOf_108 rfl rfl rfl ?_
  refine g_fget (n := 112) 0 (v := .ref B) hX hU hF dX0_fileOf_109 rfl rfl uf_X0_11 rfl ?_
  refine g_aload_n (n := 113) hX dX0_fileOf_112 rfl rfl rfl ?_
  refine g_fget (n := 116) 2 (v := .int (nI (bFile p sf z pr n).length)) hX hU hF dX0_fileOf_113 rfl rfl uf_X0_28 (fI_e (by rw [aB_len]; exact congrArg nI (Nat.zero_add _))) ?_
  refine g_callS0 (n := 119) (As := [.ref B, .int (nI (bFile p sf z pr n).length)]) (rest := [.ref MC]) hX hE hU hY dX0_fileOf_116 rfl ys_J7_copyOf_9075b um_X0_71 (x_copyOf _ _ K L (fw K f F B T (aB (sC (0, s.2) c) (bFile p sf z pr n))) B (bFile p sf z pr n).length (aB (sC (0, s.2) c) (bFile p sf z pr n)).2.1 hF.2.1 (fw_B hF) hlen (fun i hi => by rw [hby i hi]; exact pk_fb _)) ⟨rfl, rfl⟩ (rm_le hRm rfl rfl) rfl rfl (Nat.le_of_ble_eq_true rfl) (by rw [hRm]; decide) (fun v0 w0 hq0 => ?_)
  obtain ⟨q, gq, fc, hq, rfl, rfl, efc, hgq⟩ := hq0
  show G Γ (va_pl (L ++ [q]) fc) 1 2048 119 [(3, .int (nI mem)), (2, .int (nI mem)), (0, .ref F), (1, .ref MC)] [.ref q, .ref MC]
  have hM1 : fc MC = .inr (4, [.int m0, .ref mh, .ref P, .int (nI n), .ref mw, .null, .int m6, .int m7, .int m8]) := by rw [efc, va_up_ne _ _ (ne_new hMm hq)]; exact (fw_o hMn).trans hMe
  have hq1 : fc q = .inl (K 0, (bFile p sf z pr n).length, .inl gq) := by rw [efc]; exact va_up_self _ _ _
  refine g_pput (n := 122) (fs' := [.int m0, .ref mh, .ref P, .int (nI n), .ref mw, .ref q, .int m6, .int m7, .int m8]) tyX2 tyX2_ok nmX2 ux_X2 rfl hX hU dX0_fileOf_119 rfl (in_app hMm) hM1 5 rfl uf_X0_19 rfl rfl rfl rfl rfl (fun f1 ef1 => ?_)
  have hMC_2 : f1 MC = .inr (4, [.int m0, .ref mh, .ref P, .int (nI n), .ref mw, .ref q, .int m6, .int m7, .int m8]) := by rw [ef1]; exact va_up_self _ _ _
  refine g_aload_n (n := 123) hX dX0_fileOf_122 rfl rfl rfl ?_
  refine g_pget (n := 126) ux_X2 rfl hX hU dX0_fileOf_123 rfl (in_app hMm) hMC_2 5 rfl uf_X0_19 rfl ?_
  exact g_aret hX hR dX0_fileOf_126 (Or.inr ⟨_, rfl⟩) (Or.inr ⟨_, rfl⟩) ⟨q, gq, c, _, hq, rfl, rfl, by rw [ef1, efc], fun i hi => (hgq i hi).trans (hby i hi)⟩

