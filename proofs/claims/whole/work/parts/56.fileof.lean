theorem ucp_l : Cond.methodLink RJ7 150 arraycopyName ∈ wU := List.mem_filter.mpr ⟨List.mem_append_right _ (List.mem_append_right _ (List.mem_append_right _ (List.mem_append_left _ (List.mem_of_getElem? (i := 125) rfl)))), rfl⟩
theorem ucp_s : Cond.static arraycopyName ∈ wU := List.mem_filter.mpr ⟨List.mem_append_right _ (List.mem_append_right _ (List.mem_append_right _ (List.mem_append_left _ (List.mem_of_getElem? (i := 126) rfl)))), rfl⟩
theorem ucp_n : Cond.native arraycopyName ∈ wU := List.mem_filter.mpr ⟨List.mem_append_right _ (List.mem_append_right _ (List.mem_append_right _ (List.mem_append_left _ (List.mem_of_getElem? (i := 127) rfl)))), rfl⟩
theorem ucp_i : Cond.initialized "java/lang/System" ∈ wU := List.mem_filter.mpr ⟨List.mem_append_right _ (List.mem_append_left _ (List.mem_of_getElem? (i := 21) rfl)), rfl⟩
section GCP
variable {Γ : gT} {L : List Nat} {f : Nat → va_E} {kc ks pc n : Nat} {lv : List (Nat × Value)} {rest : List Value} {cc : ByteArray} {Ts : List Cond}
theorem g_pcopy {K : Nat → ClassId} {a0 a1 n0 n1 : Nat} {g0 g1 : Nat → Int32} (h : gOk Γ cc Ts RJ7) (hU : ∀ w ∈ wU, w ∈ Ts) (hY : gY Γ = yY K) (hdg : decode cc pc = .ok (.invokestatic 150, 3)) (hn : pc + 3 = n) (hL0 : a0 ∈ L) (hf0 : f a0 = .inl (K 0, n0, .inl g0)) (hL1 : a1 ∈ L) (hf1 : f a1 = .inl (K 0, n1, .inl g1)) {m : Nat} (hm : m < 2 ^ 31) (h4 : m ≤ n0) (h5 : m ≤ n1) (hfit : ∀ i, i < m → fits .byte (.int (g0 i)) = true) (hfr : 1 ≤ (gRm Γ).frames) (hlo : (rest.map fun v => v.category).sum + 18 ≤ (gRm Γ).locals) (k : ∀ f1 : Nat → va_E, f1 = va_up f a1 (.inl (K 0, n1, .inl (va_cpy g0 g1 0 0 m))) → G Γ (va_pl L f1) kc ks n lv rest) : G Γ (va_pl L f) kc ks pc lv (.int (nI m) :: .int 0 :: .ref a1 :: .int 0 :: .ref a0 :: rest) := by
  obtain ⟨p, l, e, R, s, m9, args, below, meth, c, D, Y, A, Q, nL⟩ := Γ
  obtain ⟨⟨hx, hb, hml, hown, hts⟩, hK, hA⟩ := h
  subst hn
  have hY2 : Y = yY K := hY
  intro H locs ls hP hD hS hl
  obtain ⟨q0, hq0⟩ := p_at (f := f) hL0
  obtain ⟨q1, hq1⟩ := p_at (f := f) hL1
  have hc : (nI m).toNatClampNeg = m := nI_clamp hm
  refine va_copyi hx hb (by rw [hml]; exact hl.1.symm) hown (hts _ (hU _ ucp_l)) (hts _ (hU _ ucp_n)) (hts _ (hU _ ucp_s)) (hts _ (hU _ ucp_i)) hK hP hD hS q0 q1 0 0 (by rw [hq0, hf0]) (by rw [hq1, hf1]) (by rw [hY2]; rfl) (by rw [hY2]; rfl) rfl (sp := 0) (dp := 0) (n := nI m) (by decide) (by decide) (nI_pos hm) (by rw [hc]; show 0 + m ≤ n0; omega) (by rw [hc]; show 0 + m ≤ n1; omega) (fun i hi => by rw [hc] at hi; show fits .byte (.int (g0 (0 + i))) = true; rw [Nat.zero_add]; exact hfit i hi) hfr hlo hdg (fun H1 locs1 hP1 hD1 hS1 => ?_)
  rw [p_set hD hL1 hq1, hc] at hP1 hD1
  exact k _ rfl H1 locs1 ls hP1 hD1 hS1 hl
end GCP
set_option maxHeartbeats 4000000 in
set_option maxRecDepth 100000 in
theorem x_copyOf (l : Launch) (D : va_G) (K : Nat → ClassId) (L : List Nat) (f : Nat → va_E) (ar N : Nat) (g : Nat → Int32) (haL : ar ∈ L) (haf : f ar = .inl (K 0, 2048, .inl g)) (hN : N < 2048) (hfit : ∀ i, i < N → fits .byte (.int (g i)) = true) : Mc l yJ7_copyOf_9075b (wM yJ7_copyOf_9075b cJ7_copyOf_9075b 3 (some (.array .byte))) (rmL 1 1 2048) D (yY K) [.ref ar, .int (nI N)] (va_pl L f) (fun v w => ∃ (q : Nat) (gq : Nat → Int32) (f1 : Nat → va_E), q ∉ L ∧ v = some (.ref q) ∧ w = va_pl (L ++ [q]) f1 ∧ f1 = va_up f q (.inl (K 0, N, .inl gq)) ∧ ∀ i, i < N → gq i = g i) 1 2048 := by
  refine m_start (lv := [(0, .ref ar), (1, .int (nI N))]) rfl (Nat.le_of_ble_eq_true rfl) rfl (fun Γ hX hRm hnL hY hDD hLa hR hI hE => ?_)
  have hU : ∀ w ∈ wU, w ∈ wM yJ7_copyOf_9075b cJ7_copyOf_9075b 3 (some (.array .byte)) := fun w h => wM_in h
  subst hLa
  subst hDD
  refine g_iload_n (n := 1) hX dJ7_copyOf_9075b_0 rfl rfl rfl ?_
  refine g_aload_n (n := 2) hX dJ7_copyOf_9075b_1 rfl rfl rfl ?_
  refine g_palen (n := 3) (t0 := 0) (v := nI (2048)) hX hY dJ7_copyOf_9075b_2 rfl haL haf rfl rfl ?_
  refine g_icmp_ne (n := 6) (tgt := 14) hX dJ7_copyOf_9075b_3 rfl (by decide) (fun c3 => ?_) (fun c3 => absurd c3 (fun h9 => absurd ((nI_eq (by omega) (by decide)).mp h9) (by omega)))
  refine g_iload_n (n := 15) hX dJ7_copyOf_9075b_14 rfl rfl rfl ?_
  refine g_pnewa (n := 17) (atype := .byte) (N := N) (a0 := (N, .inl (fun _ => 0))) 0 ua_byte rfl rfl (Or.inl rfl) hX hU hY dJ7_copyOf_9075b_15 rfl (fun _ => rfl) (nI_pos (by omega)) (nI_clamp (by omega)) (by show N * 1 ≤ _; omega) (by rw [hRm]; exact (by decide)) (by rw [hRm]; exact (by show 0 + N ≤ 2048; omega)) (fun q1 f1 hq1 ef1 => ?_)
  have har_2 : f1 ar = .inl (K 0, 2048, .inl g) := by rw [ef1, va_up_ne _ _ (ne_new haL hq1)]; exact haf
  have hq1_3 : f1 q1 = .inl (K 0, N, .inl (fun _ => 0)) := by rw [ef1]; exact va_up_self _ _ _
  refine g_widen (kc' := 1) (ks' := 2048) (by decide) (by omega) ?_
  refine g_astore_n (lv' := [(2, .ref q1), (0, .ref ar), (1, .int (nI N))]) (n := 18) hX dJ7_copyOf_9075b_17 rfl rfl (by rw [hnL]; rfl) rfl ?_
  refine g_aload_n (n := 19) hX dJ7_copyOf_9075b_18 rfl rfl rfl ?_
  refine g_iconst (n := 20) (v := 0) hX dJ7_copyOf_9075b_19 rfl rfl ?_
  refine g_aload_n (n := 21) hX dJ7_copyOf_9075b_20 rfl rfl rfl ?_
  refine g_iconst (n := 22) (v := 0) hX dJ7_copyOf_9075b_21 rfl rfl ?_
  refine g_aload_n (n := 23) hX dJ7_copyOf_9075b_22 rfl rfl rfl ?_
  refine g_palen (n := 24) (t0 := 0) (v := nI (2048)) hX hY dJ7_copyOf_9075b_23 rfl (in_app haL) har_2 rfl rfl ?_
  refine g_iload_n (n := 25) hX dJ7_copyOf_9075b_24 rfl rfl rfl ?_
  refine g_mmin (n := 28) hX hU dJ7_copyOf_9075b_25 rfl um_J7_304 (by rw [hRm]; decide) (by rw [hRm]; exact Nat.le_of_ble_eq_true rfl) (by rw [hRm]; decide) (by rw [hRm]; exact Nat.le_refl _) ?_
  rw [if_pos (nI_lt (a := N) (b := 2048) hN (by decide))]
  refine g_pcopy (n := 31) hX hU hY dJ7_copyOf_9075b_28 rfl (in_app haL) har_2 in_new hq1_3 (m := N) (by omega) (by omega) (Nat.le_refl _) hfit (by rw [hRm]; decide) (by rw [hRm]; exact Nat.le_of_ble_eq_true rfl) (fun fz efz => ?_)
  refine g_aload_n (n := 32) hX dJ7_copyOf_9075b_31 rfl rfl rfl ?_
  exact g_aret hX hR dJ7_copyOf_9075b_32 (Or.inr ⟨_, rfl⟩) (Or.inr ⟨_, rfl⟩) ⟨q1, va_cpy g (fun _ => 0) 0 0 N, fz, hq1, rfl, rfl, by simp only [efz, ef1, up_up], fun i hi => by unfold va_cpy; rw [if_pos ⟨Nat.zero_le _, by omega⟩, Nat.zero_add, Nat.sub_zero]⟩

def sC (s : FS) (c : Int32 × Int32 × (Nat → Int32)) : FS := (s.1, s.2.1, c)
theorem aB_sC (s : FS) (c : Int32 × Int32 × (Nat → Int32)) (bs : List Int32) : aB (sC s c) bs = sC (aB s bs) c := by
  induction bs generalizing s with
  | nil => rfl
  | cons b bs ih => exact ih (wB s b)
theorem sC_sC (s : FS) (c d : Int32 × Int32 × (Nat → Int32)) : sC (sC s c) d = sC s d := rfl
theorem last_min (n k : Nat) (hn : n ≤ 60) (hk : k ≤ 6) : (if nI n < nI (10 * k + 10) then nI n else nI (10 * k + 10)) = nI (lastOf n k) := by
  unfold lastOf
  by_cases h : n < 10 * k + 10
  · rw [if_pos h, if_pos (nI_lt (a := n) (b := 10 * k + 10) h (by omega))]
  · rw [if_neg h, if_neg (nI_nlt (a := n) (b := 10 * k + 10) (by omega) (by omega))]
set_option maxHeartbeats 4000000 in
set_option maxRecDepth 100000 in
theorem lp_fileOf {Γ : gT} {K : Nat → ClassId} {L : List Nat} {f : Nat → va_E} {F B T : Nat} (hX : gOk Γ cX0_fileOf (wM yX0_fileOf cX0_fileOf 4 (some (.array .byte))) RX0) (hE : gEv Γ) (hRm : gRm Γ = rmL 6 1 2048) (hnL : gnL Γ = 4) (hY : gY Γ = yY K) (hF : fOk L F B T) (P ra cnt p : Nat) (z sf : Int32) (g : Nat → Option Nat) (RO : Nat → Nat) (pr : PR) (n : Nat) (hQ : prOk K L f F B T P ra cnt p z sf g RO pr n) (MC mh mw : Nat) (m0 m6 m7 m8 : Int32) (hMm : MC ∈ L) (hMe : f MC = .inr (4, [.int m0, .ref mh, .ref P, .int (nI n), .ref mw, .null, .int m6, .int m7, .int m8])) (hMn : nf F B T MC) (mem : Nat) (hmem : mem = (n + 9) / 10) (hn60 : n ≤ 60) (q : Nat) : ∀ (j k : Nat) (s : FS), k + j = mem → LB s (286 * j + q) → (∀ c : Int32 × Int32 × (Nat → Int32), LB (aB s (catR (fun k => bMember pr k (lastOf n k)) k j)) q → G Γ (va_pl L (fw K f F B T (aB (sC s c) (catR (fun k => bMember pr k (lastOf n k)) k j)))) 0 0 102 [(3, .int (nI mem)), (2, .int (nI mem)), (0, .ref F), (1, .ref MC)] []) → G Γ (va_pl L (fw K f F B T s)) 0 0 52 [(3, .int (nI k)), (2, .int (nI mem)), (0, .ref F), (1, .ref MC)] [] := by
  have hU : ∀ w ∈ wU, w ∈ wM yX0_fileOf cX0_fileOf 4 (some (.array .byte)) := fun w h => wM_in h
  have hQ2 := hQ
  obtain ⟨hPm, hPe, hPn, hAm, hAe, hAn, hc60, hnc, hg, hro⟩ := hQ2
  intro j
  induction j with
  | zero =>
    intro k s hi hr hk0
    have hii : k = mem := by omega
    rw [hii]
    rw [hii] at hk0
    refine g_iload_n (n := 53) hX dX0_fileOf_52 rfl rfl rfl ?_
    refine g_iload_n (n := 54) hX dX0_fileOf_53 rfl rfl rfl ?_
    refine g_icmp_ge (n := 57) (tgt := 102) hX dX0_fileOf_54 rfl (by decide) (fun c54 => ?_) (fun c54 => absurd (nI_le (a := mem) (b := mem) (Nat.le_refl _) (by omega)) c54)
    exact hk0 s.2.2 (hr.le (by omega))
  | succ j ih =>
    intro k s hi hr hk0
    have hin := lastOf_in (n := n) (k := k) (by omega)
    refine g_iload_n (n := 53) hX dX0_fileOf_52 rfl rfl rfl ?_
    refine g_iload_n (n := 54) hX dX0_fileOf_53 rfl rfl rfl ?_
    refine g_icmp_ge (n := 57) (tgt := 102) hX dX0_fileOf_54 rfl (by decide) (fun c54 => absurd c54 (nI_ge (a := k) (b := mem) (by omega) (by omega))) (fun c54 => ?_)
    refine g_aload_n (n := 58) hX dX0_fileOf_57 rfl rfl rfl ?_
    refine g_iload_n (n := 59) hX dX0_fileOf_58 rfl rfl rfl ?_
    refine g_bipush (n := 61) (v := 10) hX dX0_fileOf_59 rfl rfl ?_
    refine g_imul (n := 62) (v := nI (10 * k)) hX dX0_fileOf_61 rfl (by rw [show (10 : Int32) = nI 10 from rfl, pk_mul, Nat.mul_comm]) ?_
    refine g_iconst (n := 63) (v := 1) hX dX0_fileOf_62 rfl rfl ?_
    refine g_iadd (n := 64) (v := nI (10 * k + 1)) hX dX0_fileOf_63 rfl (nI_add _ 1) ?_
    refine g_fput (n := 67) 3 (sC s (nI (10 * k + 1), s.2.2.2.1, s.2.2.2.2)) hX hU hF dX0_fileOf_64 rfl rfl uf_X0_52 rfl rfl rfl rfl rfl ?_
    refine g_aload_n (n := 68) hX dX0_fileOf_67 rfl rfl rfl ?_
    refine g_aload_n (n := 69) hX dX0_fileOf_68 rfl rfl rfl ?_
    refine g_fget (n := 72) 3 (v := .int (nI (10 * k + 1))) hX hU hF dX0_fileOf_69 rfl rfl uf_X0_52 rfl ?_
    refine g_bipush (n := 74) (v := 10) hX dX0_fileOf_72 rfl rfl ?_
    refine g_iadd (n := 75) (v := nI (10 * k + 1 + 10)) hX dX0_fileOf_74 rfl (nI_add _ 10) ?_
    refine g_iconst (n := 76) (v := 1) hX dX0_fileOf_75 rfl rfl ?_
    refine g_isub (n := 77) (v := nI (10 * k + 10)) hX dX0_fileOf_76 rfl (nI_sub1 (a := 10 * k + 1 + 10) (by omega)) ?_
    refine g_aload_n (n := 78) hX dX0_fileOf_77 rfl rfl rfl ?_
    refine g_pget (n := 81) ux_X2 rfl hX hU dX0_fileOf_78 rfl hMm ((fw_o hMn).trans hMe) 3 rfl uf_X0_24 rfl ?_
    refine g_mmin (n := 84) hX hU dX0_fileOf_81 rfl um_X0_55 (by rw [hRm]; decide) (by rw [hRm]; exact Nat.le_of_ble_eq_true rfl) (by rw [hRm]; exact Nat.zero_le _) (by rw [hRm]; exact Nat.zero_le _) ?_
    rw [last_min n k hn60 (by omega)]
    refine g_fput (n := 87) 4 (sC s (nI (10 * k + 1), nI (lastOf n k), s.2.2.2.2)) hX hU hF dX0_fileOf_84 rfl rfl uf_X0_61 rfl rfl rfl rfl rfl ?_
    refine g_aload_n (n := 88) hX dX0_fileOf_87 rfl rfl rfl ?_
    refine g_aload_n (n := 89) hX dX0_fileOf_88 rfl rfl rfl ?_
    refine g_pget (n := 92) ux_X2 rfl hX hU dX0_fileOf_89 rfl hMm ((fw_o hMn).trans hMe) 2 rfl uf_X0_31 rfl ?_
    refine g_iload_n (n := 93) hX dX0_fileOf_92 rfl rfl rfl ?_
    refine g_pcallV (n := 96) (As := [.ref P, .int (nI k)]) (rest := []) hX hE hU hY dX0_fileOf_93 rfl yv_X0_writeMember um_X0_64 (f_writeMember _ _ K L f F B T (sC s (nI (10 * k + 1), nI (lastOf n k), s.2.2.2.2)) P ra cnt p z sf g RO pr n hQ k (lastOf n k) (by omega) (by omega) (by omega) rfl rfl hF (hr.le (by omega) : LB s 286)) ⟨rfl, rfl⟩ (rm_le hRm rfl rfl) rfl hF.1 fw_F rfl rfl rfl (Nat.le_of_ble_eq_true rfl) ⟨Nat.zero_le _, Nat.zero_le _⟩ (fun v0 w0 hq0 => ?_)
    obtain ⟨rfl, t, rfl⟩ := hq0
    show G Γ (va_pl L (fw K f F B T (aB (sC s (nI (10 * k + 1), nI (lastOf n k), t)) (bMember pr k (lastOf n k))))) 0 0 96 [(3, .int (nI k)), (2, .int (nI mem)), (0, .ref F), (1, .ref MC)] []
    have hr : LB (aB (sC s (nI (10 * k + 1), nI (lastOf n k), t)) (bMember pr k (lastOf n k))) (286 * j + q) := (show LB (sC s (nI (10 * k + 1), nI (lastOf n k), t)) (286 * (j + 1) + q) from hr).app (by have := bMember_len pr k (lastOf n k) (by omega); omega)
    refine g_iinc (n := 99) (v := nI (k + 1)) (lv' := [(3, .int (nI (k + 1))), (2, .int (nI mem)), (0, .ref F), (1, .ref MC)]) hX dX0_fileOf_96 rfl rfl (nI_add k 1) (by rw [hnL]; rfl) rfl ?_
    refine g_goto (n := 52) hX dX0_fileOf_99 (by decide) ?_
    refine g_pick (lv' := [(3, .int (nI (k + 1))), (2, .int (nI mem)), (0, .ref F), (1, .ref MC)]) [0, 1, 2, 3] rfl ?_
    refine ih (k + 1) _ (by omega) hr (fun c hr9 => ?_)
    have hk1 := hk0 c (by rw [catR_front, ← aB_aB]; rw [aB_sC, aB_sC] at hr9; exact hr9)
    rw [catR_front, ← aB_aB] at hk1
    rw [aB_sC s, sC_sC, ← aB_sC]
    exact hk1
