theorem arr_p {ty : FieldType} {args : Array Value} {s : State} (h : (Cond.arrayClass ty).before args s = true) : ∃ cA : ClassId, ArrOfT s cA ty ∧ s.vm.findClass ("[" ++ ty.toString) = some cA := by
  obtain ⟨c, k, comp, h1, h2, h3⟩ := Cond.arrayClass_spec h
  exact ⟨c, fun n z => ⟨(fun k h => by cases h), k, h2, comp, h3⟩, h1⟩
theorem arr_o {C : String} {args : Array Value} {s : State} (h : (Cond.arrayOver (.object C)).before args s = true) : ∃ cA : ClassId, ArrOfT s cA (.object C) ∧ va_RA s cA (.object C) := by
  obtain ⟨comp, c, k, h1, h2, h3, h4, h5⟩ := Cond.arrayOver_spec h
  exact ⟨c, fun n z => ⟨(fun k h => by cases h), k, h3, comp, h4⟩, k, comp, h3, h4, h1, h5⟩
theorem law_K {s : State} {args : Array Value} (hts : ∀ w ∈ lw_tbl, w.before args s = true) : ∃ (K : Nat → ClassId) (dC : Nat → ClassId) (dI : Nat → Nat → Nat), ∀ x : Nat → Nat → Nat, va_K (dC, fun k => if k < 1000 then dI k else x k) vwCl (yY K) s := by
  obtain ⟨c0, i0, h0⟩ := u_known (C := RJx00060) (T := TJx00060) (N := 6) (n := 6) hts tb_j0 (hts _ (wU_tbl _ ut_Jx00060))
  obtain ⟨c1, i1, h1⟩ := u_known (C := RJxde1cd) (T := TJxde1cd) (N := 6) (n := 6) hts tb_j1 (hts _ (wU_tbl _ ut_Jxde1cd))
  obtain ⟨c2, i2, h2⟩ := u_known (C := RX0) (T := TX0) (N := 5) (n := 5) hts (fun w h => wU_tbl w (ux_X0 w h)) (hts _ (wU_tbl _ ut_X0))
  obtain ⟨c3, i3, h3⟩ := u_known (C := RX1) (T := TX1) (N := 1) (n := 1) hts (fun w h => wU_tbl w (ux_X1 w h)) (hts _ (wU_tbl _ ut_X1))
  obtain ⟨c4, i4, h4⟩ := u_known (C := RX2) (T := TX2) (N := 9) (n := 9) hts (fun w h => wU_tbl w (ux_X2 w h)) (hts _ (wU_tbl _ ut_X2))
  obtain ⟨c5, i5, h5⟩ := u_known (C := RX3) (T := TX3) (N := 5) (n := 5) hts (fun w h => wU_tbl w (ux_X3 w h)) (hts _ (wU_tbl _ ut_X3))
  obtain ⟨c6, i6, h6⟩ := u_known (C := RX4) (T := TX4) (N := 3) (n := 3) hts (fun w h => wU_tbl w (ux_X4 w h)) (hts _ (wU_tbl _ ut_X4))
  obtain ⟨c7, i7, h7⟩ := u_known (C := RX5) (T := TX5) (N := 9) (n := 9) hts (fun w h => wU_tbl w (ux_X5 w h)) (hts _ (wU_tbl _ ut_X5))
  obtain ⟨c8, i8, h8⟩ := u_known (C := RX6) (T := TX6) (N := 4) (n := 4) hts (fun w h => wU_tbl w (ux_X6 w h)) (hts _ (wU_tbl _ ut_X6))
  obtain ⟨c9, i9, h9⟩ := u_known (C := RX7) (T := TX7) (N := 5) (n := 5) hts (fun w h => wU_tbl w (ux_X7 w h)) (hts _ (wU_tbl _ ut_X7))
  obtain ⟨c10, i10, h10⟩ := u_known (C := RX8) (T := TX8) (N := 31) (n := 31) hts (fun w h => wU_tbl w (ux_X8 w h)) (hts _ (wU_tbl _ ut_X8))
  obtain ⟨k0, a0, b0⟩ := arr_p (hts _ (wU_tbl _ ua_byte))
  obtain ⟨k1, a1, b1⟩ := arr_p (hts _ (wU_tbl _ ua_int))
  obtain ⟨k2, a2, b2⟩ := arr_p (hts _ (wU_tbl _ ua_boolean))
  obtain ⟨k7, a7, b7⟩ := arr_p (hts _ (wU_tbl _ ua_long))
  obtain ⟨k3, a3, b3⟩ := arr_o (hts _ tb_ao.2.1)
  obtain ⟨k4, a4, b4⟩ := arr_o (hts _ tb_ao.1)
  obtain ⟨k5, a5, b5⟩ := arr_o (hts _ tb_ao.2.2.2)
  obtain ⟨k6, a6, b6⟩ := arr_o (hts _ tb_ao.2.2.1)
  refine ⟨fun k => [k0, k1, k2, k3, k4, k5, k6, k7].getD k k0, fun k => [c0, c1, c2, c3, c4, c5, c6, c7, c8, c9, c10].getD k c0, fun k => [i0, i1, i2, i3, i4, i5, i6, i7, i8, i9, i10].getD k i0, fun x => ⟨?_, ?_⟩⟩
  · intro k q hq
    match k, hq with
    | 0, hq => cases hq; exact h0
    | 1, hq => cases hq; exact h1
    | 2, hq => cases hq; exact h2
    | 3, hq => cases hq; exact h3
    | 4, hq => cases hq; exact h4
    | 5, hq => cases hq; exact h5
    | 6, hq => cases hq; exact h6
    | 7, hq => cases hq; exact h7
    | 8, hq => cases hq; exact h8
    | 9, hq => cases hq; exact h9
    | 10, hq => cases hq; exact h10
    | k + 11, hq => cases hq
  · intro k q hq
    match k, hq with
    | 0, hq => cases hq; exact ⟨a0, b0⟩
    | 1, hq => cases hq; exact ⟨a1, b1⟩
    | 2, hq => cases hq; exact ⟨a2, b2⟩
    | 3, hq => cases hq; exact ⟨a3, b3⟩
    | 4, hq => cases hq; exact ⟨a4, b4⟩
    | 5, hq => cases hq; exact ⟨a5, b5⟩
    | 6, hq => cases hq; exact ⟨a6, b6⟩
    | 7, hq => cases hq; exact ⟨a7, b7⟩
    | k + 8, hq => cases hq

theorem law_E {s : State} {args : Array Value} (hts : ∀ w ∈ lw_tbl, w.before args s = true) (hnw : ∀ w ∈ nw, w.before args s = true) : ∃ x : Nat → Nat → Nat, ∀ (dC : Nat → ClassId) (dI : Nat → Nat → Nat), gE (dC, fun k => if k < 1000 then dI k else x k) (fun q => s.heap.size ≤ q) s s.heap ∧ tE (fun q => s.heap.size ≤ q) s s.heap := by
  have hA : ∀ a : Nat, a < s.heap.size → ¬ (fun q : Nat => s.heap.size ≤ q) a := fun a h => Nat.not_le.mpr h
  obtain ⟨t0, ht0, hT0⟩ := va_Tof (tm := rlT) (ty := .int) (N := 14) (f := rlV) (by decide) (hnw _ nw_rl.1) (va_eqt (hnw _ nw_rl.2.1)) (fun j hj => va_eqt (hnw _ (nw_rl.2.2 j hj))) hA
  obtain ⟨adK, adV, hvk, hev⟩ := vk_Sof (tm := sTm) (N := 18) (len := sLen) (byt := sByt) (by decide) (fun i hi => hnw _ (nw_ex i hi)) (fun i hi => hnw _ (nw_co i hi)) (fun i hi => hnw _ (nw_ar i hi)) (fun i hi => hnw _ (nw_le i hi)) (fun i hi j hj => hnw _ (nw_el i hi j hj)) (fun i j hi hj hn => (nw_ne i hi j hj hn).imp (fun h => hnw _ h) (fun h => hnw _ h)) hA
  refine ⟨fun k => if k = 1000 then adK else if k = 1001 then adV else fun _ => t0, fun dC dI => ⟨⟨⟨va_AO.of (hts _ tb_ao.1), va_AO.of (hts _ tb_ao.2.1), va_AO.of (hts _ tb_ao.2.2.1), va_AO.of (hts _ tb_ao.2.2.2)⟩, ⟨⟨va_Zof (hts _ tb_st.1) (hts _ tb_st.2.1) ht0 hA, hT0⟩, va_Zof (hts _ tb_st.2.2.1) (hts _ tb_st.2.2.2.1) (va_eqt (hnw _ nw_st.1)) hA, va_Zqof (hts _ tb_st.2.2.2.2.1) (hts _ tb_st.2.2.2.2.2.1) (hnw _ nw_st.2.1) hA, hvk⟩, fun i q hq => ?_⟩, vx_Zqof (hts _ tb_st.2.2.2.2.2.2.1) (hts _ tb_st.2.2.2.2.2.2.2.2) (hnw _ nw_st.2.2.1) hA, vx_Zqof (hts _ tb_st.2.2.2.2.2.2.2.1) (hts _ tb_st.2.2.2.2.2.2.2.2) (hnw _ nw_st.2.2.2.1) hA, va_Nc.of (hnw _ nw_st.2.2.2.2), fun w hw => va_any (dc_on (tB_dc w hw)) (hts _ (tb_B w hw))⟩⟩
  have hi : i < 18 := (List.getElem?_eq_some_iff.mp hq).1
  have e : sTab.getD i ("", 0, "") = q := by rw [List.getD_eq_getElem?_getD, hq]; rfl
  have h := vk_R.of (hts _ (tb_s i hi)) (hev i hi)
  rw [e] at h
  exact h
set_option maxHeartbeats 4000000 in
set_option maxRecDepth 100000 in
theorem law_G {Γ : gT} {K : Nat → ClassId} (hX : gOk Γ code wU RL) (hE : gEv Γ) (hT : gTv Γ) (hstk : (gLa Γ).stackTraces = false) (hRm : gRm Γ = room_1) (hnL : gnL Γ = 8) (hY : gY Γ = yY K) (b N : Nat) (xs : Nat → Int32) (hSc : gSc Γ b N xs) (hN : N ≤ 3072) (hend : ∀ (ws : va_W) (kc ks : Nat) (lv : List (Nat × Value)), kc ≤ 601024 → ks ≤ 7293034 → G Γ ws kc ks 837 lv []) (f0 : Nat → va_E) : G Γ (va_pl [] f0) 0 0 0 [(0, .ref b)] [] := by
  have hU : ∀ w ∈ wU, w ∈ wU := fun w h => h
  refine g_pnew (n := 3) (ci := 9) (fs := [.null, .null, .null, .null, .int 0]) tyX7 tyX7_ok ux_X7 rfl hX hU dL_law_0 rfl ul_L_8 ut_X7 un_X7 (by decide) (by rw [hRm]; decide) (by rw [hRm]; decide) (fun q1 f1 hq1 ef1 => ?_)
  have hq1_2 : f1 q1 = .inr (9, [.null, .null, .null, .null, .int 0]) := by rw [ef1]; exact va_up_self _ _ _
  refine g_dup (n := 4) hX dL_law_3 rfl rfl ?_
  refine g_callI0 (n := 7) (As := []) (rest := [.ref q1]) hX hE hU hY dL_law_4 rfl yi_X7_init um_L_27 (x_init _ _ K ([] ++ [q1]) f1 q1 in_new hq1_2) ⟨rfl, rfl⟩ ⟨by rw [hRm]; exact Nat.le_of_ble_eq_true rfl, by rw [hRm]; exact Nat.le_of_ble_eq_true rfl⟩ rfl rfl (Nat.le_of_ble_eq_true rfl) ⟨by rw [hRm]; exact Nat.le_of_ble_eq_true rfl, by rw [hRm]; exact Nat.le_of_ble_eq_true rfl⟩ (fun v0 w0 hq0 => ?_)
  obtain ⟨rfl, L1, g1, ad1, κ1, gx1, rfl, e1, hQ1⟩ := hq0
  show G Γ (va_pl L1 g1) 9 2134 7 [(0, .ref b)] [.ref q1]
  refine g_astore_n (lv' := [(1, .ref q1), (0, .ref b)]) (n := 8) hX dL_law_7 rfl rfl (by rw [hnL]; rfl) rfl ?_
  refine g_pnew (n := 11) (ci := 10) (fs := [.int 0, .int 0, .int 0, .int 0, .null, .null, .null, .null, .null, .null, .null, .null, .null, .null, .null, .null, .null, .null, .null, .null, .null, .null, .null, .null, .null, .null, .int 0, .null, .null, .int 0, .null]) tyX8 tyX8_ok ux_X8 rfl hX hU dL_law_8 rfl ul_L_28 ut_X8 un_X8 (by decide) (by rw [hRm]; decide) (by rw [hRm]; decide) (fun q3 f3 hq3 ef3 => ?_)
  have hq3_4 : f3 q3 = .inr (10, [.int 0, .int 0, .int 0, .int 0, .null, .null, .null, .null, .null, .null, .null, .null, .null, .null, .null, .null, .null, .null, .null, .null, .null, .null, .null, .null, .null, .null, .int 0, .null, .null, .int 0, .null]) := by rw [ef3]; exact va_up_self _ _ _
  refine g_dup (n := 12) hX dL_law_11 rfl rfl ?_
  have hpl : va_pl L1 f3 = va_pl L1 g1 := by
    unfold va_pl
    refine List.map_congr_left (fun a ha => ?_)
    rw [ef3, va_up_ne _ _ (ne_new ha hq3)]
  rw [show va_pl (L1 ++ [q3]) f3 = va_pl L1 f3 ++ va_pl [q3] f3 ++ [] from by unfold va_pl; rw [List.map_append, List.append_nil]]
  refine g_callI (va_pl L1 f3) [] (n := 15) (As := []) (rest := [.ref q3]) hX hE hU hY dL_law_12 rfl yi_X8_init um_L_30 (m_init _ _ K f3 q3 hq3_4) ⟨rfl, rfl⟩ ⟨by rw [hRm]; exact Nat.le_of_ble_eq_true rfl, by rw [hRm]; exact Nat.le_of_ble_eq_true rfl⟩ rfl rfl (Nat.le_of_ble_eq_true rfl) ⟨by rw [hRm]; exact Nat.le_of_ble_eq_true rfl, by rw [hRm]; exact Nat.le_of_ble_eq_true rfl⟩ (fun v0 w0 hq0 => ?_)
  obtain ⟨rfl, A, rfl⟩ := hq0
  show G Γ (va_pl L1 f3 ++ mW K q3 A σ0 ++ []) 35 20946 15 [(1, .ref q1), (0, .ref b)] [.ref q3]
  rw [hpl, List.append_nil]
  refine g_astore_n (n := 16) (lv' := [(2, .ref q3), (1, .ref q1), (0, .ref b)]) hX dL_law_15 rfl rfl (by rw [hnL]; rfl) rfl ?_
  refine g_iconst (n := 17) (v := 1) hX dL_law_16 rfl rfl ?_
  refine g_lnew (n := 19) hX hU hY dL_law_17 rfl (by rw [hRm]; exact Nat.le_of_ble_eq_true rfl) (by rw [hRm]; exact Nat.le_of_ble_eq_true rfl) (fun cel => ?_)
  refine g_astore_n (n := 20) (lv' := [(3, .ref cel), (2, .ref q3), (1, .ref q1), (0, .ref b)]) hX dL_law_19 rfl rfl (by rw [hnL]; rfl) rfl ?_
  refine g_iconst (n := 21) (v := 0) hX dL_law_20 rfl rfl ?_
  refine g_istore (n := 23) (lv' := [(4, .int 0), (3, .ref cel), (2, .ref q3), (1, .ref q1), (0, .ref b)]) hX dL_law_21 rfl (by rw [hnL]; rfl) rfl ?_
  rw [List.append_assoc]
  refine g_pick (lv' := [(4, .int (nI (6 * 0))), (0, .ref b), (1, .ref q1), (2, .ref q3), (3, .ref cel)]) [0, 4, 3, 2, 1] rfl ?_
  exact lp_law hX hE hT hstk hRm hnL hY b N q3 cel q1 A xs hSc hN hend 513 0 rfl L1 g1 ad1 κ1 gx1 σ0 (fun _ => 0) hQ1 e1

theorem whole_start {p : Program} {e : Env} {s : State} {m : MethodId} {below : List Frame} {meth : Method} {c : Code} (l : Launch) (hstk : l.stackTraces = false) {b L : Nat} {xs : Nat → Int32} (hL : L ≤ 3072) (C0 : lw_At p s m meth c b L xs) : W p l e room_1 s m #[Value.ref b] below meth c s.heap [] 0 0 (lw_Z below #[Value.ref b] s) (entryFrame m ([Value.ref b] : List Value).toArray 8) := by
  obtain ⟨hx, hb, hr, hml, hown, hts, hX, hbl, hlocks, hgv⟩ := id C0
  have hnw : ∀ w ∈ nw, w.before #[Value.ref b] s = true := flat_of_before _ hgv
  obtain ⟨K, dC, dI, hKK⟩ := law_K hts
  obtain ⟨x, hxE⟩ := law_E hts hnw
  obtain ⟨hE, hT⟩ := hxE dC dI
  have hK := hKK x
  have hl := lv_entry ([.ref b]) (n := 8) (Nat.le_of_ble_eq_true rfl)
  rw [lg_entry_eq]
  have hl : lv_has _ 8 [(0, .ref b)] := hl
  have hG := law_G (Γ := (p, l, e, room_1, s, m, #[Value.ref b], below, meth, c, (dC, fun k => if k < 1000 then dI k else x k), yY K, fun q => s.heap.size ≤ q, lw_Z below #[Value.ref b] s, 8)) (K := K) ⟨⟨hx, hb, hml, hown, fun w hw => hts w (wU_tbl w hw)⟩, hK, fun q h => h⟩ hE hT hstk rfl rfl rfl b L xs ⟨hX, hbl, Nat.not_le.mpr hbl⟩ hL (fun ws kc ks lv h1 h2 => by
    refine g_iconst (n := 838) (v := 1) ⟨⟨hx, hb, hml, hown, fun w hw => hts w (wU_tbl w hw)⟩, hK, fun q h => h⟩ dL_law_837 rfl rfl ?_
    intro H locs ls hP hD hS hl2
    refine va_forget (fun q hq => hS.2.2 q hq) ?_
    exact W.widen h1 h2 (lw_ret hx hb hr hlocks dL_law_838)) (fun _ => .inr (0, []))
  exact hG s.heap [] _ (fun k q h => by simp [va_pl] at h) ⟨fun i j p q h => by simp [va_pl] at h, fun k q h => by simp [va_pl] at h⟩ va_S.rf hl
