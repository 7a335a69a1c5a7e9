theorem lg_gt {x y : Int64} : 0 < lg_cmp x y ↔ y < x := by
  unfold lg_cmp
  by_cases h : y < x
  · simp only [gt_iff_lt, h, if_true, iff_true]; decide
  · simp only [gt_iff_lt, h, if_false, iff_false]
    split <;> decide
set_option maxHeartbeats 4000000 in
set_option maxRecDepth 100000 in
theorem j_coder (l : Launch) (D : va_G) (K : Nat → ClassId) (ws : va_W) (i : Nat) (hi18 : Nat.blt i 18 = true) : Mc l yJ0_coder_7d493 (wM yJ0_coder_7d493 cJ0_coder_7d493 1 (some .byte)) (rmL 0 0 0) D (yY K) [.ref (eK D i)] (ws) (fun v w => v = some (.int 0) ∧ w = ws) 0 0 := by
  refine m_start (lv := [(0, .ref (eK D i))]) rfl (Nat.le_of_ble_eq_true rfl) rfl (fun Γ hX hRm hnL hY hDD hLa hR hI hE => ?_)
  have hU : ∀ w ∈ wU, w ∈ wM yJ0_coder_7d493 cJ0_coder_7d493 1 (some .byte) := fun w h => wM_in h
  subst hLa
  subst hDD
  refine g_getsC (n := 3) hX hE hU dJ0_coder_7d493_0 rfl uf_J0_38 ?_
  refine g_if_eq (n := 6) (tgt := 13) hX dJ0_coder_7d493_3 rfl (by decide) (fun c3 => absurd c3 (by decide)) (fun c3 => ?_)
  refine g_aload_n (n := 7) hX dJ0_coder_7d493_6 rfl rfl rfl ?_
  refine g_sgetC (n := 10) i hi18 hX hE hU dJ0_coder_7d493_7 rfl uf_J0_15 ?_
  refine g_goto (n := 14) hX dJ0_coder_7d493_10 (by decide) ?_
  exact g_zret hX hR dJ0_coder_7d493_14 rfl ⟨rfl, rfl⟩

set_option maxHeartbeats 4000000 in
set_option maxRecDepth 100000 in
theorem j_isLatin1 (l : Launch) (D : va_G) (K : Nat → ClassId) (ws : va_W) (i : Nat) (hi18 : Nat.blt i 18 = true) : Mc l yJ0_isLatin1_aae02 (wM yJ0_isLatin1_aae02 cJ0_isLatin1_aae02 1 (some .boolean)) (rmL 0 0 0) D (yY K) [.ref (eK D i)] (ws) (fun v w => v = some (.int 1) ∧ w = ws) 0 0 := by
  refine m_start (lv := [(0, .ref (eK D i))]) rfl (Nat.le_of_ble_eq_true rfl) rfl (fun Γ hX hRm hnL hY hDD hLa hR hI hE => ?_)
  have hU : ∀ w ∈ wU, w ∈ wM yJ0_isLatin1_aae02 cJ0_isLatin1_aae02 1 (some .boolean) := fun w h => wM_in h
  subst hLa
  subst hDD
  refine g_getsC (n := 3) hX hE hU dJ0_isLatin1_aae02_0 rfl uf_J0_38 ?_
  refine g_if_eq (n := 6) (tgt := 17) hX dJ0_isLatin1_aae02_3 rfl (by decide) (fun c3 => absurd c3 (by decide)) (fun c3 => ?_)
  refine g_aload_n (n := 7) hX dJ0_isLatin1_aae02_6 rfl rfl rfl ?_
  refine g_sgetC (n := 10) i hi18 hX hE hU dJ0_isLatin1_aae02_7 rfl uf_J0_15 ?_
  refine g_if_ne (n := 13) (tgt := 17) hX dJ0_isLatin1_aae02_10 rfl (by decide) (fun c10 => absurd rfl c10) (fun c10 => ?_)
  refine g_iconst (n := 14) (v := 1) hX dJ0_isLatin1_aae02_13 rfl rfl ?_
  refine g_goto (n := 18) hX dJ0_isLatin1_aae02_14 (by decide) ?_
  exact g_zret hX hR dJ0_isLatin1_aae02_18 rfl ⟨rfl, rfl⟩

set_option maxHeartbeats 4000000 in
set_option maxRecDepth 100000 in
theorem j_length (l : Launch) (D : va_G) (K : Nat → ClassId) (ws : va_W) (i : Nat) (hi18 : Nat.blt i 18 = true) : Mc l yJ0_length_8abf5 (wM yJ0_length_8abf5 cJ0_length_8abf5 1 (some .int)) (rmL 1 0 0) D (yY K) [.ref (eK D i)] (ws) (fun v w => v = some (.int (nI (sLen.getD i 0))) ∧ w = ws) 0 0 := by
  refine m_start (lv := [(0, .ref (eK D i))]) rfl (Nat.le_of_ble_eq_true rfl) rfl (fun Γ hX hRm hnL hY hDD hLa hR hI hE => ?_)
  have hU : ∀ w ∈ wU, w ∈ wM yJ0_length_8abf5 cJ0_length_8abf5 1 (some .int) := fun w h => wM_in h
  subst hLa
  subst hDD
  refine g_aload_n (n := 1) hX dJ0_length_8abf5_0 rfl rfl rfl ?_
  refine g_sgetV (n := 4) i hi18 hX hE hU dJ0_length_8abf5_1 rfl uf_J0_9 ?_
  refine g_slen (n := 5) i hi18 (v := nI (sLen.getD i 0)) hX hE dJ0_length_8abf5_4 rfl rfl ?_
  refine g_aload_n (n := 6) hX dJ0_length_8abf5_5 rfl rfl rfl ?_
  refine g_scallV (n := 9) (As := []) (rest := [.int (nI (sLen.getD i 0))]) i hi18 hX hE hU hY dJ0_length_8abf5_6 rfl yv_J0_coder_7d493 um_J0_335 (j_coder _ _ K ws i hi18) ⟨rfl, rfl⟩ (rm_le hRm rfl rfl) rfl rfl (Nat.le_of_ble_eq_true rfl) ⟨Nat.zero_le _, Nat.zero_le _⟩ (fun v0 w0 hq0 => ?_)
  obtain ⟨rfl, hw0⟩ := hq0; rw [hw0]
  show G Γ (ws) 0 0 9 [(0, .ref (eK (gD Γ) i))] [.int 0, .int (nI (sLen.getD i 0))]
  refine g_ishr (n := 10) (v := nI (sLen.getD i 0)) hX dJ0_length_8abf5_9 rfl (sb_shr0 _) ?_
  exact g_iret hX hR dJ0_length_8abf5_10 ⟨rfl, rfl⟩

set_option maxHeartbeats 4000000 in
set_option maxRecDepth 100000 in
theorem j_check3N (l : Launch) (D : va_G) (K : Nat → ClassId) (ws : va_W) (k m : Nat) (hk : k < m) (hm : m < 2 ^ 31) : Mc l yJ3_checkIndex_8e157 (wM yJ3_checkIndex_8e157 cJ3_checkIndex_8e157 3 (some .int)) (rmL 0 0 0) D (yY K) [.int (nI k), .int (nI m), .null] (ws) (fun v w => v = some (.int (nI k)) ∧ w = ws) 0 0 := by
  refine m_start (lv := [(0, .int (nI k)), (1, .int (nI m)), (2, .null)]) rfl (Nat.le_of_ble_eq_true rfl) rfl (fun Γ hX hRm hnL hY hDD hLa hR hI hE => ?_)
  have hU : ∀ w ∈ wU, w ∈ wM yJ3_checkIndex_8e157 cJ3_checkIndex_8e157 3 (some .int) := fun w h => wM_in h
  subst hLa
  subst hDD
  refine g_iload_n (n := 1) hX dJ3_checkIndex_8e157_0 rfl rfl rfl ?_
  refine g_if_lt (n := 4) (tgt := 9) hX dJ3_checkIndex_8e157_1 rfl (by decide) (fun c1 => absurd c1 (nI_pos (by omega))) (fun c1 => ?_)
  refine g_iload_n (n := 5) hX dJ3_checkIndex_8e157_4 rfl rfl rfl ?_
  refine g_iload_n (n := 6) hX dJ3_checkIndex_8e157_5 rfl rfl rfl ?_
  refine g_icmp_lt (n := 9) (tgt := 16) hX dJ3_checkIndex_8e157_6 rfl (by decide) (fun c6 => ?_) (fun c6 => absurd (nI_lt hk hm) c6)
  refine g_iload_n (n := 17) hX dJ3_checkIndex_8e157_16 rfl rfl rfl ?_
  exact g_iret hX hR dJ3_checkIndex_8e157_17 ⟨rfl, rfl⟩

set_option maxHeartbeats 4000000 in
set_option maxRecDepth 100000 in
theorem j_check3S (l : Launch) (D : va_G) (K : Nat → ClassId) (ws : va_W) (k m ar : Nat) (hk : k < m) (hm : m < 2 ^ 31) : Mc l yJ3_checkIndex_8e157 (wM yJ3_checkIndex_8e157 cJ3_checkIndex_8e157 3 (some .int)) (rmL 0 0 0) D (yY K) [.int (nI k), .int (nI m), .ref ar] (ws) (fun v w => v = some (.int (nI k)) ∧ w = ws) 0 0 := by
  refine m_start (lv := [(0, .int (nI k)), (1, .int (nI m)), (2, .ref ar)]) rfl (Nat.le_of_ble_eq_true rfl) rfl (fun Γ hX hRm hnL hY hDD hLa hR hI hE => ?_)
  have hU : ∀ w ∈ wU, w ∈ wM yJ3_checkIndex_8e157 cJ3_checkIndex_8e157 3 (some .int) := fun w h => wM_in h
  subst hLa
  subst hDD
  refine g_iload_n (n := 1) hX dJ3_checkIndex_8e157_0 rfl rfl rfl ?_
  refine g_if_lt (n := 4) (tgt := 9) hX dJ3_checkIndex_8e157_1 rfl (by decide) (fun c1 => absurd c1 (nI_pos (by omega))) (fun c1 => ?_)
  refine g_iload_n (n := 5) hX dJ3_checkIndex_8e157_4 rfl rfl rfl ?_
  refine g_iload_n (n := 6) hX dJ3_checkIndex_8e157_5 rfl rfl rfl ?_
  refine g_icmp_lt (n := 9) (tgt := 16) hX dJ3_checkIndex_8e157_6 rfl (by decide) (fun c6 => ?_) (fun c6 => absurd (nI_lt hk hm) c6)
  refine g_iload_n (n := 17) hX dJ3_checkIndex_8e157_16 rfl rfl rfl ?_
  exact g_iret hX hR dJ3_checkIndex_8e157_17 ⟨rfl, rfl⟩

theorem j_check3 (l : Launch) (D : va_G) (K : Nat → ClassId) (ws : va_W) (k m : Nat) (r : Option Nat) (hk : k < m) (hm : m < 2 ^ 31) : Mc l yJ3_checkIndex_8e157 (wM yJ3_checkIndex_8e157 cJ3_checkIndex_8e157 3 (some .int)) (rmL 0 0 0) D (yY K) [.int (nI k), .int (nI m), va_rf r] ws (fun v w => v = some (.int (nI k)) ∧ w = ws) 0 0 := by
  cases r with
  | none => exact j_check3N l D K ws k m hk hm
  | some a => exact j_check3S l D K ws k m a hk hm
set_option maxHeartbeats 4000000 in
set_option maxRecDepth 100000 in
theorem j_check (l : Launch) (D : va_G) (K : Nat → ClassId) (ws : va_W) (k m : Nat) (hk : k < m) (hm : m < 2 ^ 31) : Mc l yJ0_checkIndex_df160 (wM yJ0_checkIndex_df160 cJ0_checkIndex_df160 2 none) (rmL 1 0 0) D (yY K) [.int (nI k), .int (nI m)] (ws) (fun v w => v = none ∧ w = ws) 0 0 := by
  refine m_start (lv := [(0, .int (nI k)), (1, .int (nI m))]) rfl (Nat.le_of_ble_eq_true rfl) rfl (fun Γ hX hRm hnL hY hDD hLa hR hI hE => ?_)
  have hU : ∀ w ∈ wU, w ∈ wM yJ0_checkIndex_df160 cJ0_checkIndex_df160 2 none := fun w h => wM_in h
  subst hLa
  subst hDD
  refine g_iload_n (n := 1) hX dJ0_checkIndex_df160_0 rfl rfl rfl ?_
  refine g_iload_n (n := 2) hX dJ0_checkIndex_df160_1 rfl rfl rfl ?_
  refine g_getsF (n := 5) hX hE hU dJ0_checkIndex_df160_2 rfl uf_J0_1053 (fun rF => ?_)
  refine g_callS0 (n := 8) (As := [.int (nI k), .int (nI m), va_rf (rF)]) (rest := []) hX hE hU hY dJ0_checkIndex_df160_5 rfl ys_J3_checkIndex_8e157 um_J0_1059 (j_check3 _ _ K ws k m rF hk hm) ⟨rfl, rfl⟩ (rm_le hRm rfl rfl) rfl rfl (Nat.le_of_ble_eq_true rfl) ⟨Nat.zero_le _, Nat.zero_le _⟩ (fun v0 w0 hq0 => ?_)
  obtain ⟨rfl, hw0⟩ := hq0; rw [hw0]
  show G Γ (ws) 0 0 8 [(0, .int (nI k)), (1, .int (nI m))] [.int (nI k)]
  refine g_pop (n := 9) hX dJ0_checkIndex_df160_8 rfl rfl ?_
  exact g_vret hX hR dJ0_checkIndex_df160_9 ⟨rfl, rfl⟩

set_option maxHeartbeats 4000000 in
set_option maxRecDepth 100000 in
theorem j_charAt1 (l : Launch) (D : va_G) (K : Nat → ClassId) (ws : va_W) (i : Nat) (hi18 : Nat.blt i 18 = true) (k : Nat) (hk : k < sLen.getD i 0) : Mc l yJ1_charAt_3b067 (wM yJ1_charAt_3b067 cJ1_charAt_3b067 2 (some .char)) (rmL 2 0 0) D (yY K) [.ref (eV D i), .int (nI k)] (ws) (fun v w => v = some (.int ((sByt.getD i []).getD k 0)) ∧ w = ws) 0 0 := by
  refine m_start (lv := [(0, .ref (eV D i)), (1, .int (nI k))]) rfl (Nat.le_of_ble_eq_true rfl) rfl (fun Γ hX hRm hnL hY hDD hLa hR hI hE => ?_)
  have hU : ∀ w ∈ wU, w ∈ wM yJ1_charAt_3b067 cJ1_charAt_3b067 2 (some .char) := fun w h => wM_in h
  subst hLa
  subst hDD
  refine g_iload_n (n := 1) hX dJ1_charAt_3b067_0 rfl rfl rfl ?_
  refine g_aload_n (n := 2) hX dJ1_charAt_3b067_1 rfl rfl rfl ?_
  refine g_slen (n := 3) i hi18 (v := nI (sLen.getD i 0)) hX hE dJ1_charAt_3b067_2 rfl rfl ?_
  refine g_callS0 (n := 6) (As := [.int (nI k), .int (nI (sLen.getD i 0))]) (rest := []) hX hE hU hY dJ1_charAt_3b067_3 rfl ys_J0_checkIndex_df160 um_J1_9 (j_check _ _ K ws k (sLen.getD i 0) hk (by have := (sTab_len i (Nat.blt_eq ▸ hi18)).2; omega)) ⟨rfl, rfl⟩ (rm_le hRm rfl rfl) rfl rfl (Nat.le_of_ble_eq_true rfl) ⟨Nat.zero_le _, Nat.zero_le _⟩ (fun v0 w0 hq0 => ?_)
  obtain ⟨rfl, hw0⟩ := hq0; rw [hw0]
  show G Γ (ws) 0 0 6 [(0, .ref (eV (gD Γ) i)), (1, .int (nI k))] []
  refine g_aload_n (n := 7) hX dJ1_charAt_3b067_6 rfl rfl rfl ?_
  refine g_iload_n (n := 8) hX dJ1_charAt_3b067_7 rfl rfl rfl ?_
  refine g_sld (n := 9) i hi18 (v := (sByt.getD i []).getD k 0) hX hE dJ1_charAt_3b067_8 rfl (vp_in_nI hk (by have := (sTab_len i (Nat.blt_eq ▸ hi18)).2; omega)) (by rw [nI_clamp (by have := (sTab_len i (Nat.blt_eq ▸ hi18)).2; omega)]) ?_
  refine g_sipush (n := 12) (v := 255) hX dJ1_charAt_3b067_9 rfl rfl ?_
  refine g_iand (n := 13) (v := ((sByt.getD i []).getD k 0) &&& 255) hX dJ1_charAt_3b067_12 rfl rfl ?_
  refine g_i2c (n := 14) (v := (sByt.getD i []).getD k 0) hX dJ1_charAt_3b067_13 rfl (sTab_ch i (Nat.blt_eq ▸ hi18) k (by have := (sTab_len i (Nat.blt_eq ▸ hi18)).2; omega)).1 ?_
  exact g_zret hX hR dJ1_charAt_3b067_14 (sTab_ch i (Nat.blt_eq ▸ hi18) k (by have := (sTab_len i (Nat.blt_eq ▸ hi18)).2; omega)).2 ⟨rfl, rfl⟩

set_option maxHeartbeats 4000000 in
set_option maxRecDepth 100000 in
theorem j_charAt (l : Launch) (D : va_G) (K : Nat → ClassId) (ws : va_W) (i : Nat) (hi18 : Nat.blt i 18 = true) (k : Nat) (hk : k < sLen.getD i 0) : Mc l yJ0_charAt_5068e (wM yJ0_charAt_5068e cJ0_charAt_5068e 2 (some .char)) (rmL 3 0 0) D (yY K) [.ref (eK D i), .int (nI k)] (ws) (fun v w => v = some (.int ((sByt.getD i []).getD k 0)) ∧ w = ws) 0 0 := by
  refine m_start (lv := [(0, .ref (eK D i)), (1, .int (nI k))]) rfl (Nat.le_of_ble_eq_true rfl) rfl (fun Γ hX hRm hnL hY hDD hLa hR hI hE => ?_)
  have hU : ∀ w ∈ wU, w ∈ wM yJ0_charAt_5068e cJ0_charAt_5068e 2 (some .char) := fun w h => wM_in h
  subst hLa
  subst hDD
  refine g_aload_n (n := 1) hX dJ0_charAt_5068e_0 rfl rfl rfl ?_
  refine g_scallV (n := 4) (As := []) (rest := []) i hi18 hX hE hU hY dJ0_charAt_5068e_1 rfl yv_J0_isLatin1_aae02 um_J0_492 (j_isLatin1 _ _ K ws i hi18) ⟨rfl, rfl⟩ (rm_le hRm rfl rfl) rfl rfl (Nat.le_of_ble_eq_true rfl) ⟨Nat.zero_le _, Nat.zero_le _⟩ (fun v0 w0 hq0 => ?_)
  obtain ⟨rfl, hw0⟩ := hq0; rw [hw0]
  show G Γ (ws) 0 0 4 [(0, .ref (eK (gD Γ) i)), (1, .int (nI k))] [.int 1]
  refine g_if_eq (n := 7) (tgt := 16) hX dJ0_charAt_5068e_4 rfl (by decide) (fun c4 => absurd c4 (by decide)) (fun c4 => ?_)
  refine g_aload_n (n := 8) hX dJ0_charAt_5068e_7 rfl rfl rfl ?_
  refine g_sgetV (n := 11) i hi18 hX hE hU dJ0_charAt_5068e_8 rfl uf_J0_9 ?_
  refine g_iload_n (n := 12) hX dJ0_charAt_5068e_11 rfl rfl rfl ?_
  refine g_callS0 (n := 15) (As := [.ref (eV (gD Γ) i), .int (nI k)]) (rest := []) hX hE hU hY dJ0_charAt_5068e_12 rfl ys_J1_charAt_3b067 um_J0_495 (j_charAt1 _ _ K ws i hi18 k hk) ⟨rfl, rfl⟩ (rm_le hRm rfl rfl) rfl rfl (Nat.le_of_ble_eq_true rfl) ⟨Nat.zero_le _, Nat.zero_le _⟩ (fun v0 w0 hq0 => ?_)
  obtain ⟨rfl, hw0⟩ := hq0; rw [hw0]
  show G Γ (ws) 0 0 15 [(0, .ref (eK (gD Γ) i)), (1, .int (nI k))] [.int ((sByt.getD i []).getD k 0)]
  exact g_zret hX hR dJ0_charAt_5068e_15 (sTab_ch i (Nat.blt_eq ▸ hi18) k (by have := (sTab_len i (Nat.blt_eq ▸ hi18)).2; omega)).2 ⟨rfl, rfl⟩

section GMM
variable {Γ : gT} {ws : va_W} {kc ks pc n : Nat} {lv : List (Nat × Value)} {rest : List Value} {cc : ByteArray} {Ts : List Cond} {own : String}
theorem g_mmin {index : Nat} {x y : Int32} (h : gOk Γ cc Ts own) (hU : ∀ w ∈ wU, w ∈ Ts) (hdg : decode cc pc = .ok (.invokestatic index, 3)) (hn : pc + 3 = n) (hlk : Cond.methodLink own index yJ9_min_7cf53 ∈ wU) (hf : 1 ≤ (gRm Γ).frames) (hlo : (rest.map fun v => v.category).sum + 13 ≤ (gRm Γ).locals) (hc : kc ≤ (gRm Γ).cells) (hs : ks ≤ (gRm Γ).slots) (k : G Γ ws kc ks n lv (.int (if y < x then y else x) :: rest)) : G Γ ws kc ks pc lv (.int y :: .int x :: rest) := by
  obtain ⟨p, l, e, R, s, m, args, below, meth, c, D, Y, A, Q, nL⟩ := Γ
  obtain ⟨⟨hx, hb, hml, hown, hts⟩, hK, hA⟩ := h
  subst hn
  intro H locs ls hP hD hS hl
  exact va_mmin hx hb (by rw [hml]; exact hl.1.symm) hown (hts _ (hU _ hlk)) (hts _ (hU _ ust_J9_min_7cf53)) (hts _ (hU _ un_J9)) (hts _ (hU _ uc_J9_min_7cf53)) hf hlo hc hs hdg (k H locs ls hP hD hS hl)
end GMM
