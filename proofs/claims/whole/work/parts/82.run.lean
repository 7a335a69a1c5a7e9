theorem Lk_12 {g : GX} {σ : MS} {run u : Nat} (h : Lk g σ run) (x : Int32) : Lk g (sA σ 12 u x) run := h
theorem Lk_13 {g : GX} {σ : MS} {run u : Nat} (h : Lk g σ run) (x : Int32) : Lk g (sA σ 13 u x) run := h
theorem Lk_17 {g : GX} {σ : MS} {run u : Nat} (h : Lk g σ run) (x : Int32) : Lk g (sA σ 17 u x) run := h
theorem Lk_18 {g : GX} {σ : MS} {run u : Nat} (h : Lk g σ run) (x : Int32) : Lk g (sA σ 18 u x) run := h
theorem r_abend5 (l : Launch) (D : va_G) {K : Nat → ClassId} {L : List Nat} {f : Nat → va_E} {ad : AD} {κ : TG} {g : GX} {σ : MS} {u c : Nat} (hP : PX K L f ad κ g (sA σ 11 c 1)) (hI : Inv σ) (hL : Lk g (sA σ 11 c 1) u) (hu1 : 1 ≤ u) (hu2 : u ≤ nF σ 2) (hc1 : 1 ≤ c) (hc2 : c ≤ nF σ 3) (h6 : nA σ 6 c = u) (hd : nF σ 26 ≤ 10) (hV : RV u σ) : Mc l yX5_abend (wM yX5_abend cX5_abend 3 none) (rmL 0 0 0) D (yY K) [.ref (ad 12 u 0), .int 5, .ref (ad 9 (nA σ 7 c) 0)] (va_pl L f) (fun v w => v = none ∧ RO K ad g (nF σ 3) u (5, sA (sA (pushF σ c) 11 c 1) 12 (nA σ 6 c) 1) w) 0 0 := by
  have hu8 : u ≤ 8 := Nat.le_trans hu2 hI.nu.2
  have hc40 := hI.nc.2
  have h12 := px12 hP u hu1 hu2
  have h9 := px9 hP _ (hI.cls c hc1 hc2).2.1.1 (hI.cls c hc1 hc2).2.1.2
  refine Mc.imp (x_abend l D K L f 5 (ad 12 u 0) (ad 9 (nA σ 7 c) 0) (ad 10 (nA σ 7 c) 0) (ad 13 u 0) (ad 14 u 0) (σ.1 12 u) (σ.1 13 u) (gfl g u) (geb g u) (σ.1 17 u) (σ.1 18 u) (nI (nA σ 19 u)) (nI (nA σ 7 c)) (nI (nA σ 0 (nA σ 7 c))) (σ.1 5 (nA σ 7 c)) (nI (nA σ 1 (nA σ 7 c))) h12.1 h12.2.2 h9.1 h9.2.2) (fun v w h => ?_)
  obtain ⟨rfl, f1, rfl, rfl⟩ := h
  rw [if_pos rfl, h6]
  have h1 := PX_unit hP hu1 hu2 1 (σ.1 13 u) 5 (nI (nA σ 7 c)) (σ.1 17 u) (σ.1 18 u) (σ.1 19 u)
  have e0 : sU (sA σ 11 c 1) u 1 (σ.1 13 u) (σ.1 17 u) (σ.1 18 u) (σ.1 19 u) = sA (sA σ 11 c 1) 12 u 1 := sU_12 (sA σ 11 c 1) u 1
  rw [e0] at h1
  have ec : cor (sA (sA (pushF σ c) 11 c 1) 12 u 1) = cor (sA (sA σ 11 c 1) 12 u 1) := cor_sA (cor_sA (cor_push σ c) 11 c 1) 12 u 1
  obtain ⟨k1, k2, k3⟩ := s5_k (c := c) hV
  obtain ⟨Y, hY⟩ : ∃ Y, sA (sA (pushF σ c) 11 c 1) 12 u 1 = Y := ⟨_, rfl⟩
  have y7 : Y.1 7 = σ.1 7 := by rw [← hY, sA_o _ _ _ (show 7 ≠ 12 by decide), sA_o _ _ _ (show 7 ≠ 11 by decide)]; exact cor_ar (cor_push σ c) (by decide)
  have y26 : Y.2 26 = nI (nF σ 26 + 1) := by rw [← hY]; exact push_h (c := c)
  rw [hY] at ec k2
  rw [hY]
  refine ⟨rfl, L, _, ad, κ, _, rfl, PX_c h1 ec, Lk_c (Lk_12 (Lk_gU hL 5 (nI (nA σ 7 c))) 1) ec, EX_rf ad _, ?_, ?_⟩
  · rw [if_neg (fun h9 => h9.elim (show ¬ (5 : Int32) = 0 by decide) (show ¬ (5 : Int32) = 99 by decide))]; exact pk_us
  · rw [if_neg (show ¬ (5 : Int32) = 0 by decide)]
    unfold ebv
    rw [if_pos rfl, nF_of y26 (by omega), Nat.add_sub_cancel, nA_of k2 (by omega), y7]
    show upd _ u _ u = _
    rw [pk_us, (hI.cp (c := c) (by omega)).1]
set_option maxHeartbeats 4000000 in
set_option maxRecDepth 100000 in
theorem x_enter (l : Launch) (D : va_G) (K : Nat → ClassId) (u : Nat) : ∀ N : Nat, EnterC l D K u N := by
  intro N
  induction N using Nat.strongRecOn with
  | ind N ihN =>
  intro L f ad κ g σ c d y hP hL hV hc1 hc2 h6 hl hd hd10 hy hdone
  refine m_start (lv := [(0, .ref (ad 2 0 0)), (1, .ref (ad 12 u 0)), (2, .ref (ad 15 c 0)), (3, .int (nI d))]) rfl (Nat.le_of_ble_eq_true rfl) rfl (fun Γ hX hRm hnL hY hDD hLa hR hI hE => ?_)
  have hU : ∀ w ∈ wU, w ∈ wM yX1_enter cX1_enter 7 (some .boolean) := fun w h => wM_in h
  subst hLa
  subst hDD
  have hI := hV.1
  have hu1 := hV.2.1.1
  have hu2 := hV.2.1.2
  have hS := SE_enter hV (by omega) hc1 hc2 h6 hl
  have hny : nF σ 3 ≤ nF y.2 3 := by rw [← hy, ← hS.2.1]; exact (TI_many N hS.1).2.1
  have hM := r_start (gLa Γ) (gD Γ) hP hI hL hu1 hu2 hc1 hc2 h6 hl
  by_cases hfail : ¬ σ.1 5 (nA σ 7 c) = 0 ∧ σ.1 10 c = 0
  · have h5 : ¬ (S_enter σ c).1 = 0 := by rw [ent_5 hfail.2 hfail.1]; exact (show ¬ (5 : Int32) = 0 by decide)
    have hyv : y = (5, sA (sA (pushF σ c) 11 c 1) 12 (nA σ 6 c) 1) := by rw [← hy, ent_5 hfail.2 hfail.1]; exact itD_stop (fun h9 => absurd h9.1 (show ¬ (5 : Int32) = 0 by decide))
    have r2_1 : f (ad 2 0 0) = .inr (3, [.ref (ad 1 0 0)]) := (px2 hP).2.2
    have r12_2 : f (ad 12 u 0) = .inr (7, [.ref (ad 13 u 0), .ref (ad 14 u 0), .int (σ.1 12 u), .int (σ.1 13 u), .int (gfl g u), .int (geb g u), .int (σ.1 17 u), .int (σ.1 18 u), .int (nI (nA σ 19 u))]) := (px12 hP u hu1 hu2).2.2
    have r15_3 : f (ad 15 c 0) = .inr (4, [.int (nI c), .ref (ad 12 (nA σ 6 c) 0), .ref (ad 9 (nA σ 7 c) 0), .int (nI (nA σ 8 c)), .ref (ad 16 c 0), va_rf (if gfa g c = true then some (ad 17 c 0) else none), .int (gsd g c), .int (σ.1 11 c), .int (σ.1 9 c)]) := (px15 hP c hc1 hc2).2.2
    refine g_aload_n (n := 1) hX dX1_enter_0 rfl rfl rfl ?_
    refine g_pcallV (n := 4) (As := []) (rest := []) hX hE hU hY dX1_enter_1 rfl yv_X2_start um_X1_15 hM ⟨rfl, rfl⟩ (rm_lt hRm (by omega) rfl) rfl (px15 hP c hc1 hc2).1 r15_3 rfl rfl rfl (Nat.le_of_ble_eq_true rfl) ⟨by rw [hRm]; exact Nat.zero_le _, by rw [hRm]; exact Nat.zero_le _⟩ (fun v0 w0 hq0 => ?_)
    obtain ⟨-, -, rfl, f1, g1, rfl, hP1, hL1, hg1, hg2⟩ := hq0.resolve_left (fun h9 => h5 h9.1)
    show G Γ (va_pl L f1) 0 0 4 [(0, .ref (ad 2 0 0)), (1, .ref (ad 12 u 0)), (2, .ref (ad 15 c 0)), (3, .int (nI d))] [.int 0]
    have h12 := px12 hP1 u hu1 hu2
    have h15 := px15 hP1 c hc1 hc2
    refine g_if_ne (n := 7) (tgt := 18) hX dX1_enter_4 rfl (by decide) (fun c4 => absurd rfl c4) (fun c4 => ?_)
    refine g_aload_n (n := 8) hX dX1_enter_7 rfl rfl rfl ?_
    refine g_iconst (n := 9) (v := 5) hX dX1_enter_8 rfl rfl ?_
    refine g_aload_n (n := 10) hX dX1_enter_9 rfl rfl rfl ?_
    refine g_pget (n := 13) ux_X2 rfl hX hU dX1_enter_10 rfl h15.1 h15.2.2 2 rfl uf_X1_21 rfl ?_
    refine g_pcallV (n := 16) (As := [.int 5, .ref (ad 9 (nA σ 7 c) 0)]) (rest := []) hX hE hU hY dX1_enter_13 rfl yv_X5_abend um_X1_25 (r_abend5 _ _ hP1 hI hL1 hu1 hu2 hc1 hc2 h6 (by omega) hV) ⟨rfl, rfl⟩ (rm_lt hRm (by omega) rfl) rfl h12.1 h12.2.2 rfl rfl rfl (Nat.le_of_ble_eq_true rfl) ⟨by rw [hRm]; exact Nat.zero_le _, by rw [hRm]; exact Nat.zero_le _⟩ (fun v0 w0 hq0 => ?_)
    obtain ⟨rfl, hRO⟩ := hq0
    show G Γ (w0) 0 0 16 [(0, .ref (ad 2 0 0)), (1, .ref (ad 12 u 0)), (2, .ref (ad 15 c 0)), (3, .int (nI d))] []
    refine g_iconst (n := 17) (v := 0) hX dX1_enter_16 rfl rfl ?_
    refine g_widen (kc' := 2 * (nF y.2 3 - nF σ 3)) (ks' := 109 * (nF y.2 3 - nF σ 3)) (Nat.zero_le _) (Nat.zero_le _) ?_
    exact g_zret hX hR dX1_enter_17 rfl ⟨by rw [hyv, bI_f (show ¬ (5 : Int32) = 0 by decide)], by rw [hyv]; exact RO_of hRO (EX_rf ad _) (Nat.le_refl _) (congrFun hg1 u) (congrFun hg2 u)⟩
  · have r2_4 : f (ad 2 0 0) = .inr (3, [.ref (ad 1 0 0)]) := (px2 hP).2.2
    have r12_5 : f (ad 12 u 0) = .inr (7, [.ref (ad 13 u 0), .ref (ad 14 u 0), .int (σ.1 12 u), .int (σ.1 13 u), .int (gfl g u), .int (geb g u), .int (σ.1 17 u), .int (σ.1 18 u), .int (nI (nA σ 19 u))]) := (px12 hP u hu1 hu2).2.2
    have r15_6 : f (ad 15 c 0) = .inr (4, [.int (nI c), .ref (ad 12 (nA σ 6 c) 0), .ref (ad 9 (nA σ 7 c) 0), .int (nI (nA σ 8 c)), .ref (ad 16 c 0), va_rf (if gfa g c = true then some (ad 17 c 0) else none), .int (gsd g c), .int (σ.1 11 c), .int (σ.1 9 c)]) := (px15 hP c hc1 hc2).2.2
    refine g_aload_n (n := 1) hX dX1_enter_0 rfl rfl rfl ?_
    refine g_pcallV (n := 4) (As := []) (rest := []) hX hE hU hY dX1_enter_1 rfl yv_X2_start um_X1_15 hM ⟨rfl, rfl⟩ (rm_lt hRm (by omega) rfl) rfl (px15 hP c hc1 hc2).1 r15_6 rfl rfl rfl (Nat.le_of_ble_eq_true rfl) ⟨by rw [hRm]; exact Nat.zero_le _, by rw [hRm]; exact Nat.zero_le _⟩ (fun v0 w0 hq0 => ?_)
    obtain ⟨h0, rfl, f1, g1, rfl, hP1, hL1, hg1, hg2⟩ := hq0.resolve_right (fun h9 => hfail ⟨h9.1, h9.2.1⟩)
    show G Γ (va_pl L f1) 0 0 4 [(0, .ref (ad 2 0 0)), (1, .ref (ad 12 u 0)), (2, .ref (ad 15 c 0)), (3, .int (nI d))] [.int 1]
    refine g_if_ne (n := 7) (tgt := 18) hX dX1_enter_4 rfl (by decide) (fun c4 => ?_) (fun c4 => absurd c4 (by decide))
    refine g_iconst (n := 19) (v := 1) hX dX1_enter_18 rfl rfl ?_
    refine g_istore (lv' := [(4, .int 1), (0, .ref (ad 2 0 0)), (1, .ref (ad 12 u 0)), (2, .ref (ad 15 c 0)), (3, .int (nI d))]) (n := 21) hX dX1_enter_19 rfl (by rw [hnL]; rfl) rfl ?_
    refine g_iconst (n := 22) (v := 0) hX dX1_enter_21 rfl rfl ?_
    refine g_istore (lv' := [(5, .int 0), (4, .int 1), (0, .ref (ad 2 0 0)), (1, .ref (ad 12 u 0)), (2, .ref (ad 15 c 0)), (3, .int (nI d))]) (n := 24) hX dX1_enter_22 rfl (by rw [hnL]; rfl) rfl ?_
    have hz : nF (S_enter σ c).2 3 - nF σ 3 = 0 := by rw [hS.2.1]; exact Nat.sub_self _
    refine g_pick (lv' := [(5, .int (nI 0)), (4, .int (nI 1)), (0, .ref (ad 2 0 0)), (1, .ref (ad 12 u 0)), (2, .ref (ad 15 c 0)), (3, .int (nI d))]) [0, 1, 2, 3, 4, 5] rfl ?_
    have h9 := lp_ent hX hE hnL hY u d c (nF σ 3) N g ad y hRm ihN hR (fun w hw => ⟨rfl, hw⟩) hd10 hdone N (Nat.le_refl _) L f1 ad κ g1 (S_enter σ c).2 0 1 _ _ _ hP1 hL1 (hS.1.1 h0) (by rw [nF_of hS.2.2.1 (by omega), hd]) (by rw [← hd]; exact nA_of hS.2.2.2.2.2.1 (by have := hI.nc.2; omega)) (by rw [← hd]; exact nA_of (n := 1) hS.2.2.2.2.2.2 (by decide)) (Nat.zero_le _) (EX_rf ad _) (congrFun hg1 u) (congrFun hg2 u) (by rw [hS.2.1]; exact Nat.le_refl _) (by rw [show ((0, (S_enter σ c).2) : Int32 × MS) = S_enter σ c from Prod.ext h0.symm rfl]; exact hy) rfl rfl rfl
    rw [hz] at h9
    exact h9

def sB (σ : MS) (u : Nat) : MS := sA (sA (sA (sA (sA (sA σ 13 u 1) 15 u 0) 16 u (-1)) 17 u (-1)) 18 u 0) 19 u 0
theorem cor_runBeg (σ : MS) (u : Nat) : cor (runBeg σ u) = cor (sB σ u) := cor_e (fun _ _ => rfl) (fun k hk => by rcases hk with rfl | rfl | rfl <;> rfl)
theorem sB_U (σ : MS) (u : Nat) : sU (sA (sA σ 15 u 0) 16 u (-1)) u (σ.1 12 u) 1 (-1) 0 0 = sB σ u := by
  unfold sU sB
  have e : sA (sA (sA σ 15 u 0) 16 u (-1)) 12 u (σ.1 12 u) = sA (sA σ 15 u 0) 16 u (-1) := sA_id (sA (sA σ 15 u 0) 16 u (-1)) 12 u
  rw [e, sA_comm (sA σ 15 u 0) u u (-1) 1 (show 16 ≠ 13 by decide), sA_comm σ u u 0 1 (show 15 ≠ 13 by decide)]
theorem Inv_runBeg {σ : MS} (hI : Inv σ) {u : Nat} (hu2 : u ≤ nF σ 2) : Inv (runBeg σ u) :=
  Inv_cor2 (Inv_19 (Inv_18 (Inv_17 (Inv_16 (Inv_15 (Inv_13 hI hu2 1) hu2 0) hu2 (-1)) hu2 (-1)) hu2 ⟨0, rfl, Nat.zero_le _⟩) hu2 ⟨0, rfl, Nat.zero_le _⟩) (cor_runBeg σ u)
theorem RV_runBeg {σ : MS} (hI : Inv σ) {u : Nat} (hu1 : 1 ≤ u) (hu2 : u ≤ nF σ 2) : RV u (runBeg σ u) := by
  have e : nF (runBeg σ u) 26 = 0 := nF_of (show (runBeg σ u).2 26 = nI 0 from rfl) (by decide)
  exact ⟨Inv_runBeg hI hu2, ⟨hu1, hu2⟩, ⟨by rw [e]; rfl, by rw [e]; exact Nat.zero_le _⟩, fun i hi => by rw [e] at hi; omega⟩
theorem Lk_runBeg {g : GX} {σ : MS} {u : Nat} (hL : Lk g σ 0) : Lk (gU g u 0 (-1)) (runBeg σ u) u :=
  Lk_c (Lk_19z (Lk_18 (Lk_17 (Lk_16 (Lk_15 (Lk_13 (Lk_gU0 hL u 0 (-1)) 1) 0) (-1)) (-1)) 0) u) (cor_runBeg σ u)
theorem PX_runBeg {K : Nat → ClassId} {L : List Nat} {f : Nat → va_E} {ad : AD} {κ : TG} {g : GX} {σ : MS} (hP : PX K L f ad κ g σ) {u : Nat} (hu1 : 1 ≤ u) (hu2 : u ≤ nF σ 2) : PX K L (va_up f (ad 12 u 0) (.inr (7, [.ref (ad 13 u 0), .ref (ad 14 u 0), .int (σ.1 12 u), .int 1, .int 0, .int (-1), .int (-1), .int 0, .int 0]))) ad κ (gU g u 0 (-1)) (runBeg σ u) := by
  have h1 := PX_unit (PX_kept (PX_kept hP (j := 15) (by decide) u 0) (j := 16) (by decide) u (-1)) hu1 hu2 (σ.1 12 u) 1 0 (-1) (-1) 0 0
  rw [sB_U] at h1
  exact PX_c h1 (cor_runBeg σ u)
/-- the end of a run, within n turns -/
theorem run_facts {σ : MS} (hI : Inv σ) {u p c n : Nat} (hn : 2011 ≤ n) (hu1 : 1 ≤ u) (hu2 : u ≤ nF σ 2) (hp1 : 1 ≤ p) (hp12 : p ≤ 12) (hlat : nA σ 14 (13 * u + p) = c) (hc0 : c ≠ 0) : (1 ≤ c ∧ c ≤ nF σ 3 ∧ nA σ 6 c = u ∧ nA σ 7 c = p) ∧ SE u c (runBeg σ u) (S_enter (runBeg σ u) c) ∧ doneD 0 (itD u 0 n (S_enter (runBeg σ u) c)) := by
  have hu8 : u ≤ 8 := Nat.le_trans hu2 hI.nu.2
  have hcl := (hI.lat u p hu1 hu8 hp1 hp12).resolve_left (by rw [hlat]; exact hc0)
  rw [hlat] at hcl
  have hV := RV_runBeg hI hu1 hu2
  have e26 : nF (runBeg σ u) 26 = 0 := nF_of (show (runBeg σ u).2 26 = nI 0 from rfl) (by decide)
  have hS := SE_enter hV (by omega) (c := c) (by omega) hcl.1 hcl.2.1 (show nA σ 14 (13 * u + nA σ 7 c) = c by rw [hcl.2.2]; exact hlat)
  refine ⟨⟨by omega, hcl⟩, hS, TI_ends n hS.1 ?_⟩
  have h26 : nF (S_enter (runBeg σ u) c).2 26 = 1 := by rw [nF_of hS.2.2.1 (by omega), e26]
  unfold pot
  omega
theorem run_H {σ : MS} (hI : Inv σ) {uu pp : Int32} {n : Nat} (hn : 2011 ≤ n) (hu : 1 ≤ uu ∧ uu ≤ σ.2 2) : ∀ u p : Nat, uu = nI u → pp = nI p → 1 ≤ u → u ≤ 8 → 1 ≤ p → p ≤ 12 → σ.1 12 u = 0 → 0 < nA σ 14 (13 * u + p) → σ.1 6 (nA σ 14 (13 * u + p)) = nI u ∧ (∃ pq, σ.1 7 (nA σ 14 (13 * u + p)) = nI pq ∧ 1 ≤ pq ∧ pq ≤ 12) ∧ RA u (S_enter (runBeg σ u) (nA σ 14 (13 * u + p))) ∧ doneD 0 (itD u 0 n (S_enter (runBeg σ u) (nA σ 14 (13 * u + p)))) ∧ ((itD u 0 n (S_enter (runBeg σ u) (nA σ 14 (13 * u + p)))).1 = 5 → ∃ d c : Nat, (itD u 0 n (S_enter (runBeg σ u) (nA σ 14 (13 * u + p)))).2.2 26 = nI (d + 1) ∧ d ≤ 11 ∧ (itD u 0 n (S_enter (runBeg σ u) (nA σ 14 (13 * u + p)))).2.1 22 d = nI c ∧ c ≤ 40) := by
  intro u p e1 e2 hu1 hu8 hp1 hp12 h12 hl
  have h40 := hI.nc.2
  have hu2 : u ≤ nF σ 2 := by
    rw [e1, hI.nu.1] at hu
    exact (nI_leI (by omega) (by have := hI.nu.2; omega)).mp hu.2
  obtain ⟨⟨f1, f2, f3, f4⟩, hS, hD⟩ := run_facts hI hn hu1 hu2 hp1 hp12 rfl (by omega)
  refine ⟨by rw [(hI.cu (by omega)).1, f3], ⟨p, by rw [(hI.cp (by omega)).1, f4], hp1, hp12⟩, RUx_RA hS.1, hD, fun h5 => ?_⟩
  obtain ⟨d, c, a1, a2, a3, a4⟩ := ((TI_many (d := 0) n hS.1).1).2.2 h5
  exact ⟨d, c, a1, by omega, a3, a4⟩
theorem run_end {K : Nat → ClassId} {L : List Nat} {f : Nat → va_E} {ad : AD} {κ : TG} {g : GX} {u : Nat} {y : Int32 × MS} (hP : PX K L f ad κ g y.2) (hL : Lk g y.2 u) (hI : Inv y.2) (hu2 : u ≤ nF y.2 2) (h1 : gfl g u = (if y.1 = 0 ∨ y.1 = 99 then 0 else y.1)) (h2 : geb g u = (if y.1 = 0 then -1 else ebv u y)) : RX K L f ad κ g (runEnd u y).2 0 ∧ (runEnd u y).1 = (if gfl g u = 0 then 1 else 2) := by
  obtain ⟨z, hz⟩ : ∃ z, (if y.1 = 5 then sA y.2 16 u (y.2.1 7 (nA y.2 22 (nF y.2 26 - 1))) else if y.1 = 0 then sA y.2 16 u (-1) else y.2) = z := ⟨_, rfl⟩
  have hzz : z = sA y.2 16 u (if y.1 = 0 then -1 else ebv u y) := by
    rw [← hz]
    unfold ebv
    by_cases h5 : y.1 = 5
    · rw [if_pos h5, if_pos h5, if_neg (by rw [h5]; decide)]
    · rw [if_neg h5, if_neg h5]
      by_cases h0 : y.1 = 0
      · rw [if_pos h0, if_pos h0]
      · rw [if_neg h0, if_neg h0, sA_id]
  have e : (runEnd u y).2 = sA (sA y.2 16 u (if y.1 = 0 then -1 else ebv u y)) 15 u (if y.1 = 99 then 0 else y.1) := by
    unfold runEnd
    rw [← hzz, ← hz]
  rw [e]
  refine ⟨⟨PX_kept (PX_kept hP (j := 16) (by decide) _ _) (j := 15) (by decide) _ _, Lk_end (Lk_15 (Lk_16 hL _) _) ?_ ?_, Inv_15 (Inv_16 hI hu2 _) hu2 _⟩, ?_⟩
  · rw [sA_s, h1]
    by_cases h9 : y.1 = 99
    · rw [if_pos (Or.inr h9), if_pos h9]
    · rw [if_neg h9]
      by_cases h0 : y.1 = 0
      · rw [if_pos (Or.inl h0), h0]
      · rw [if_neg (fun h8 => h8.elim h0 h9)]
  · rw [sA_o _ _ _ (show 16 ≠ 15 by decide), sA_s, h2]
  · show (if y.1 = 0 then (1 : Int32) else if y.1 = 99 then 1 else 2) = if gfl g u = 0 then 1 else 2
    rw [h1]
    by_cases h0 : y.1 = 0
    · rw [if_pos h0, if_pos (Or.inl h0), if_pos rfl]
    · rw [if_neg h0]
      by_cases h9 : y.1 = 99
      · rw [if_pos h9, if_pos (Or.inr h9), if_pos rfl]
      · rw [if_neg h9, if_neg (show ¬ (y.1 = 0 ∨ y.1 = 99) from fun h8 => h8.elim h0 h9), if_neg h0]
theorem ent_2 (σ : MS) (c : Nat) : (S_enter σ c).2.2 2 = σ.2 2 := by
  by_cases hs : σ.1 10 c = 0
  · by_cases h5 : σ.1 5 (nA σ 7 c) = 0
    · rw [ent_0 hs h5]
      obtain ⟨ζ, hζ⟩ : ∃ ζ, zW (pushF σ c) (wk (nA σ 6 c) (nA σ 7 c) 0) 100 = ζ := ⟨_, rfl⟩
      have e : ζ.2 = (pushF σ c).2 := hζ ▸ zW_fld _ _ _
      rw [hζ]
      show ζ.2 2 = σ.2 2
      rw [e]; rfl
    · rw [ent_5 hs h5]; rfl
  · rw [ent_s hs]; rfl
theorem if2 {c : Prop} [Decidable c] {x y : Int32 × MS} {k : Int32} (h1 : x.2.2 2 = k) (h2 : y.2.2 2 = k) : (if c then x else y).2.2 2 = k := by
  split
  · exact h1
  · exact h2
theorem made_2 (σ : MS) (u p : Nat) : (S_made σ u p).2.2 2 = σ.2 2 := by
  unfold S_made
  repeat' split
  all_goals rfl
theorem called_2 (σ : MS) (u : Nat) (a : Int32) : (S_called σ u a).2.2 2 = σ.2 2 := by
  unfold S_called
  split
  · rfl
  · split
    · split
      · split
        · exact made_2 σ u _
        · rw [ent_2]; exact made_2 σ u _
      · exact ent_2 σ _
    · rfl
theorem stepO_2 (σ : MS) (u p : Nat) (o a b : Int32) : (S_stepO σ u p o a b).2.2 2 = σ.2 2 := by
  unfold S_stepO
  exact if2 rfl (if2 rfl (if2 rfl (if2 rfl (if2 rfl (if2 (if2 rfl rfl) (if2 (if2 rfl rfl) (if2 (if2 rfl (if2 rfl rfl)) (if2 (if2 rfl rfl) (if2 rfl (if2 (called_2 σ u a) (if2 (if2 rfl rfl) (if2 rfl (if2 rfl rfl)))))))))))))
theorem it_2 (u : Nat) (σ : MS) : (S_it u σ).2.2 2 = σ.2 2 := by
  by_cases hp : nA σ 8 (nA σ 22 (nF σ 26 - 1)) < nA σ 23 (nF σ 26 - 1)
  · rw [it_pop hp]; rfl
  · by_cases hs : nA σ 18 u = 1000
    · rw [it_end hp hs]; rfl
    · rw [it_row hp hs]
      unfold S_step
      rw [stepO_2]; rfl
theorem ent_nu {σ : MS} {u c n : Nat} (h : n ≤ nF σ 2) : n ≤ nF (S_enter (runBeg σ u) c).2 2 := by
  rw [nF_e (σ := σ) ((ent_2 (runBeg σ u) c).trans rfl)]; exact h
theorem it_nu {u : Nat} {n : Nat} : ∀ (N : Nat) {x : Int32 × MS}, RUx u x → (hnu : n ≤ nF x.2 2) → n ≤ nF (itD u 0 N x).2 2
  | 0, x, _, hnu => hnu
  | N + 1, x, h, hnu => by
    by_cases hg : x.1 = 0 ∧ 0 < nF x.2 26
    · rw [itD_next hg]
      have hT := TI_it (h.1 hg.1) (by omega)
      exact it_nu N hT.1 (by rw [nF_e (it_2 u x.2)]; exact hnu)
    · rw [itD_stop hg]; exact hnu
set_option maxHeartbeats 4000000 in
set_option maxRecDepth 100000 in
theorem F_run (l : Launch) (D : va_G) (K : Nat → ClassId) (L : List Nat) (f : Nat → va_E) (ad : AD) (κ : TG) (g : GX) (σ : MS) (u p : Int32) (N : Nat) (hN : 2011 ≤ N) (hQ : RX K L f ad κ g σ 0) : Mc l yX7_run (wM yX7_run cX7_run 6 (some .int)) (rmL 38 80 4360) D (yY K) [.ref (ad 0 0 0), .int u, .int p] (va_pl L f) (fun v w => v = some (.int (S_run N σ u p).1) ∧ RW K (ad 0 0 0) (S_run N σ u p).2 w) 80 4360 := by
  refine m_start (lv := [(0, .ref (ad 0 0 0)), (1, .int u), (2, .int p)]) rfl (Nat.le_of_ble_eq_true rfl) rfl (fun Γ hX hRm hnL hY hDD hLa hR hI hE => ?_)
  have hU : ∀ w ∈ wU, w ∈ wM yX7_run cX7_run 6 (some .int) := fun w h => wM_in h
  subst hLa
  subst hDD
  have hP := hQ.1
  have hL := hQ.2.1
  have hI := hQ.2.2
  by_cases hu : 1 ≤ u ∧ u ≤ σ.2 2
  · obtain ⟨n, rfl, hu1, hu8, -, hu2⟩ := in1 hI.1.2.1 (by decide) hu
    have hu2 : n ≤ nF σ 2 := hu2
    have ehu : (nI n).toNatClampNeg = n := nI_clamp (by omega)
    by_cases hp : 1 ≤ p ∧ p ≤ σ.2 1
    · obtain ⟨m, rfl, hp1, hp8, -, hp2⟩ := in1 hI.1.1 (by decide) hp
      have hp2 : m ≤ nF σ 1 := hp2
      have ehp : (nI m).toNatClampNeg = m := nI_clamp (by omega)
      by_cases h12 : σ.1 12 n = 0
      · obtain ⟨c, hlat⟩ : ∃ c, nA σ 14 (13 * n + m) = c := ⟨_, rfl⟩
        by_cases hc0 : c = 0
        · subst hc0
          have hS : S_run N σ (nI n) (nI m) = (-5, sF σ 0 0) := by simp only [S_run, if_pos hu, if_pos hp, ehu, ehp, if_pos h12, if_pos hlat]
          have r0_7 : f (ad 0 0 0) = .inr (9, [.ref (ad 1 0 0), .ref (ad 2 0 0), .ref (ad 3 0 0), .ref (ad 8 0 0), .int (nI (nF σ 2))]) := (px0 hP).2.2
          have r1_8 : f (ad 1 0 0) = .inr (8, [.ref (ad 6 0 0), .ref (ad 7 0 0), .int (nI (nF σ 1)), .int (nI (nF σ 3))]) := (px1 hP).2.2
          have r12_9 : f (ad 12 n 0) = .inr (7, [.ref (ad 13 n 0), .ref (ad 14 n 0), .int (σ.1 12 n), .int (σ.1 13 n), .int (gfl g n), .int (geb g n), .int (σ.1 17 n), .int (σ.1 18 n), .int (nI (nA σ 19 n))]) := (px12 hP n hu1 hu2).2.2
          have r9_10 : f (ad 9 m 0) = .inr (5, [.int (nI m), .int (nI (nA σ 0 m)), .int (σ.1 5 m), .ref (ad 10 m 0), .int (nI (nA σ 1 m))]) := (px9 hP m hp1 hp2).2.2
          refine g_aload_n (n := 1) hX dX7_run_0 rfl rfl rfl ?_
          refine g_iload_n (n := 2) hX dX7_run_1 rfl rfl rfl ?_
          refine g_pcallV (n := 5) (As := [.int (nI n)]) (rest := []) hX hE hU hY dX7_run_2 rfl yv_X7_findUnit um_X7_61 (r_findUnitY _ _ hP hI hu1 hu2) ⟨rfl, rfl⟩ (rm_le hRm rfl rfl) rfl (px0 hP).1 r0_7 rfl rfl rfl (Nat.le_of_ble_eq_true rfl) ⟨Nat.zero_le _, Nat.zero_le _⟩ (fun v0 w0 hq0 => ?_)
          obtain ⟨rfl, rfl⟩ := hq0
          show G Γ (va_pl L f) 0 0 5 [(0, .ref (ad 0 0 0)), (1, .int (nI n)), (2, .int (nI m))] [.ref (ad 12 n 0)]
          refine g_astore_n (lv' := [(3, .ref (ad 12 n 0)), (0, .ref (ad 0 0 0)), (1, .int (nI n)), (2, .int (nI m))]) (n := 6) hX dX7_run_5 rfl rfl (by rw [hnL]; rfl) rfl ?_
          refine g_aload_n (n := 7) hX dX7_run_6 rfl rfl rfl ?_
          refine g_pget (n := 10) ux_X7 rfl hX hU dX7_run_7 rfl (px0 hP).1 r0_7 0 rfl uf_X7_10 rfl ?_
          refine g_iload_n (n := 11) hX dX7_run_10 rfl rfl rfl ?_
          refine g_pcallV (n := 14) (As := [.int (nI m)]) (rest := []) hX hE hU hY dX7_run_11 rfl yv_X6_findProgram um_X7_42 (r_findProgramY _ _ hP hI hp1 hp2) ⟨rfl, rfl⟩ (rm_le hRm rfl rfl) rfl (px1 hP).1 r1_8 rfl rfl rfl (Nat.le_of_ble_eq_true rfl) ⟨Nat.zero_le _, Nat.zero_le _⟩ (fun v0 w0 hq0 => ?_)
          obtain ⟨rfl, rfl⟩ := hq0
          show G Γ (va_pl L f) 0 0 14 [(3, .ref (ad 12 n 0)), (0, .ref (ad 0 0 0)), (1, .int (nI n)), (2, .int (nI m))] [.ref (ad 9 m 0)]
          refine g_astore (lv' := [(4, .ref (ad 9 m 0)), (3, .ref (ad 12 n 0)), (0, .ref (ad 0 0 0)), (1, .int (nI n)), (2, .int (nI m))]) (n := 16) hX dX7_run_14 rfl (by rw [hnL]; rfl) rfl ?_
          refine g_aload_n (n := 17) hX dX7_run_16 rfl rfl rfl ?_
          refine g_ifnull (n := 20) hX dX7_run_17 rfl ?_
          refine g_aload (n := 22) hX dX7_run_20 rfl rfl ?_
          refine g_ifnonnull (tgt := 28) hX dX7_run_22 (by decide) ?_
          refine g_aload_n (n := 29) hX dX7_run_28 rfl rfl rfl ?_
          refine g_aload (n := 31) hX dX7_run_29 rfl rfl ?_
          refine g_pcallV (n := 34) (As := [.ref (ad 9 m 0)]) (rest := []) hX hE hU hY dX7_run_31 rfl yv_X5_latestOf um_X7_78 (r_latestN _ _ hP hI hu1 hu2 hp1 hp2 hlat) ⟨rfl, rfl⟩ (rm_le hRm rfl rfl) rfl (px12 hP n hu1 hu2).1 r12_9 rfl rfl rfl (Nat.le_of_ble_eq_true rfl) ⟨Nat.zero_le _, Nat.zero_le _⟩ (fun v0 w0 hq0 => ?_)
          obtain ⟨rfl, rfl⟩ := hq0
          show G Γ (va_pl L f) 0 0 34 [(4, .ref (ad 9 m 0)), (3, .ref (ad 12 n 0)), (0, .ref (ad 0 0 0)), (1, .int (nI n)), (2, .int (nI m))] [.null]
          refine g_astoreN (lv' := [(5, .null), (4, .ref (ad 9 m 0)), (3, .ref (ad 12 n 0)), (0, .ref (ad 0 0 0)), (1, .int (nI n)), (2, .int (nI m))]) (n := 36) hX dX7_run_34 rfl (by rw [hnL]; rfl) rfl ?_
          refine g_aload_n (n := 37) hX dX7_run_36 rfl rfl rfl ?_
          refine g_pget (n := 40) ux_X5 rfl hX hU dX7_run_37 rfl (px12 hP n hu1 hu2).1 r12_9 2 rfl uf_X7_65 rfl ?_
          refine g_if_ne (n := 43) (tgt := 48) hX dX7_run_40 rfl (by decide) (fun c40 => absurd h12 c40) (fun c40 => ?_)
          refine g_aloadN (n := 45) hX dX7_run_43 rfl rfl ?_
          refine g_ifnonnullN (n := 48) hX dX7_run_45 rfl ?_
          refine g_bipush (n := 50) (v := (-5)) hX dX7_run_48 rfl rfl ?_
          refine g_widen (kc' := 80) (ks' := 4360) (Nat.le_of_ble_eq_true rfl) (Nat.le_of_ble_eq_true rfl) ?_
          exact g_iret hX hR dX7_run_50 ⟨by rw [hS], by rw [hS]; exact RW_rd hQ (cor_F0 σ 0)⟩
        · obtain ⟨⟨hc1, hc2, hc6, hc7⟩, hSE, hDn⟩ := run_facts hI hN hu1 hu2 hp1 hp8 hlat hc0
          have h40 := hI.nc.2
          obtain ⟨y, hyd⟩ : ∃ y, itD n 0 N (S_enter (runBeg σ n) c) = y := ⟨_, rfl⟩
          have hcl0 : ¬ nA σ 14 (13 * n + m) = 0 := by rw [hlat]; exact hc0
          have hSr : S_run N σ (nI n) (nI m) = runEnd n y := by rw [← hyd]; simp only [S_run, if_pos hu, if_pos hp, ehu, ehp, if_pos h12, hlat, if_neg hc0]
          rw [hSr] at hR
          rw [hyd] at hDn
          have hTM := TI_many (d := 0) N hSE.1
          rw [hyd] at hTM
          have hy40 := hTM.1.2.1.nc.2
          have hu2y : n ≤ nF y.2 2 := by rw [← hyd]; exact it_nu N hSE.1 (ent_nu hu2)
          have r0_11 : f (ad 0 0 0) = .inr (9, [.ref (ad 1 0 0), .ref (ad 2 0 0), .ref (ad 3 0 0), .ref (ad 8 0 0), .int (nI (nF σ 2))]) := (px0 hP).2.2
          have r1_12 : f (ad 1 0 0) = .inr (8, [.ref (ad 6 0 0), .ref (ad 7 0 0), .int (nI (nF σ 1)), .int (nI (nF σ 3))]) := (px1 hP).2.2
          have r12_13 : f (ad 12 n 0) = .inr (7, [.ref (ad 13 n 0), .ref (ad 14 n 0), .int (σ.1 12 n), .int (σ.1 13 n), .int (gfl g n), .int (geb g n), .int (σ.1 17 n), .int (σ.1 18 n), .int (nI (nA σ 19 n))]) := (px12 hP n hu1 hu2).2.2
          have r9_14 : f (ad 9 m 0) = .inr (5, [.int (nI m), .int (nI (nA σ 0 m)), .int (σ.1 5 m), .ref (ad 10 m 0), .int (nI (nA σ 1 m))]) := (px9 hP m hp1 hp2).2.2
          have r15_15 : f (ad 15 c 0) = .inr (4, [.int (nI c), .ref (ad 12 (nA σ 6 c) 0), .ref (ad 9 (nA σ 7 c) 0), .int (nI (nA σ 8 c)), .ref (ad 16 c 0), va_rf (if gfa g c = true then some (ad 17 c 0) else none), .int (gsd g c), .int (σ.1 11 c), .int (σ.1 9 c)]) := (px15 hP c hc1 hc2).2.2
          refine g_aload_n (n := 1) hX dX7_run_0 rfl rfl rfl ?_
          refine g_iload_n (n := 2) hX dX7_run_1 rfl rfl rfl ?_
          refine g_pcallV (n := 5) (As := [.int (nI n)]) (rest := []) hX hE hU hY dX7_run_2 rfl yv_X7_findUnit um_X7_61 (r_findUnitY _ _ hP hI hu1 hu2) ⟨rfl, rfl⟩ (rm_le hRm rfl rfl) rfl (px0 hP).1 r0_11 rfl rfl rfl (Nat.le_of_ble_eq_true rfl) ⟨Nat.zero_le _, Nat.zero_le _⟩ (fun v0 w0 hq0 => ?_)
          obtain ⟨rfl, rfl⟩ := hq0
          show G Γ (va_pl L f) 0 0 5 [(0, .ref (ad 0 0 0)), (1, .int (nI n)), (2, .int (nI m))] [.ref (ad 12 n 0)]
          refine g_astore_n (lv' := [(3, .ref (ad 12 n 0)), (0, .ref (ad 0 0 0)), (1, .int (nI n)), (2, .int (nI m))]) (n := 6) hX dX7_run_5 rfl rfl (by rw [hnL]; rfl) rfl ?_
          refine g_aload_n (n := 7) hX dX7_run_6 rfl rfl rfl ?_
          refine g_pget (n := 10) ux_X7 rfl hX hU dX7_run_7 rfl (px0 hP).1 r0_11 0 rfl uf_X7_10 rfl ?_
          refine g_iload_n (n := 11) hX dX7_run_10 rfl rfl rfl ?_
          refine g_pcallV (n := 14) (As := [.int (nI m)]) (rest := []) hX hE hU hY dX7_run_11 rfl yv_X6_findProgram um_X7_42 (r_findProgramY _ _ hP hI hp1 hp2) ⟨rfl, rfl⟩ (rm_le hRm rfl rfl) rfl (px1 hP).1 r1_12 rfl rfl rfl (Nat.le_of_ble_eq_true rfl) ⟨Nat.zero_le _, Nat.zero_le _⟩ (fun v0 w0 hq0 => ?_)
          obtain ⟨rfl, rfl⟩ := hq0
          show G Γ (va_pl L f) 0 0 14 [(3, .ref (ad 12 n 0)), (0, .ref (ad 0 0 0)), (1, .int (nI n)), (2, .int (nI m))] [.ref (ad 9 m 0)]
          refine g_astore (lv' := [(4, .ref (ad 9 m 0)), (3, .ref (ad 12 n 0)), (0, .ref (ad 0 0 0)), (1, .int (nI n)), (2, .int (nI m))]) (n := 16) hX dX7_run_14 rfl (by rw [hnL]; rfl) rfl ?_
          refine g_aload_n (n := 17) hX dX7_run_16 rfl rfl rfl ?_
          refine g_ifnull (n := 20) hX dX7_run_17 rfl ?_
          refine g_aload (n := 22) hX dX7_run_20 rfl rfl ?_
          refine g_ifnonnull (tgt := 28) hX dX7_run_22 (by decide) ?_
          refine g_aload_n (n := 29) hX dX7_run_28 rfl rfl rfl ?_
          refine g_aload (n := 31) hX dX7_run_29 rfl rfl ?_
          refine g_pcallV (n := 34) (As := [.ref (ad 9 m 0)]) (rest := []) hX hE hU hY dX7_run_31 rfl yv_X5_latestOf um_X7_78 (r_latestY _ _ hP hI hu1 hu2 hp1 hp2 hlat hc0) ⟨rfl, rfl⟩ (rm_le hRm rfl rfl) rfl (px12 hP n hu1 hu2).1 r12_13 rfl rfl rfl (Nat.le_of_ble_eq_true rfl) ⟨Nat.zero_le _, Nat.zero_le _⟩ (fun v0 w0 hq0 => ?_)
          obtain ⟨rfl, rfl⟩ := hq0
          show G Γ (va_pl L f) 0 0 34 [(4, .ref (ad 9 m 0)), (3, .ref (ad 12 n 0)), (0, .ref (ad 0 0 0)), (1, .int (nI n)), (2, .int (nI m))] [.ref (ad 15 c 0)]
          refine g_astore (lv' := [(5, .ref (ad 15 c 0)), (4, .ref (ad 9 m 0)), (3, .ref (ad 12 n 0)), (0, .ref (ad 0 0 0)), (1, .int (nI n)), (2, .int (nI m))]) (n := 36) hX dX7_run_34 rfl (by rw [hnL]; rfl) rfl ?_
          refine g_aload_n (n := 37) hX dX7_run_36 rfl rfl rfl ?_
          refine g_pget (n := 40) ux_X5 rfl hX hU dX7_run_37 rfl (px12 hP n hu1 hu2).1 r12_13 2 rfl uf_X7_65 rfl ?_
          refine g_if_ne (n := 43) (tgt := 48) hX dX7_run_40 rfl (by decide) (fun c40 => absurd h12 c40) (fun c40 => ?_)
          refine g_aload (n := 45) hX dX7_run_43 rfl rfl ?_
          refine g_ifnonnull (tgt := 51) hX dX7_run_45 (by decide) ?_
          refine g_aload_n (n := 52) hX dX7_run_51 rfl rfl rfl ?_
          refine g_pcallV (n := 55) (As := []) (rest := []) hX hE hU hY dX7_run_52 rfl yv_X5_beginRun um_X7_82 (x_beginRun _ _ K L f (ad 12 n 0) (ad 13 n 0) (ad 14 n 0) (σ.1 12 n) (σ.1 13 n) (gfl g n) (geb g n) (σ.1 17 n) (σ.1 18 n) (nI (nA σ 19 n)) (px12 hP n hu1 hu2).1 (px12 hP n hu1 hu2).2.2) ⟨rfl, rfl⟩ (rm_le hRm rfl rfl) rfl (px12 hP n hu1 hu2).1 r12_13 rfl rfl rfl (Nat.le_of_ble_eq_true rfl) ⟨Nat.zero_le _, Nat.zero_le _⟩ (fun v0 w0 hq0 => ?_)
          obtain ⟨rfl, f1, rfl, ef⟩ := hq0
          show G Γ (va_pl L f1) 0 0 55 [(5, .ref (ad 15 c 0)), (4, .ref (ad 9 m 0)), (3, .ref (ad 12 n 0)), (0, .ref (ad 0 0 0)), (1, .int (nI n)), (2, .int (nI m))] []
          have hP1 := PX_runBeg hP hu1 hu2
          rw [← ef] at hP1
          have hL1 := Lk_runBeg (u := n) hL
          have e26 : nF (runBeg σ n) 26 = 0 := nF_of (show (runBeg σ n).2 26 = nI 0 from rfl) (by decide)
          have hM := x_enter (gLa Γ) (gD Γ) K n N L f1 ad κ (gU g n 0 (-1)) (runBeg σ n) c 0 y hP1 hL1 (RV_runBeg hI hu1 hu2) hc1 hc2 hc6 (show nA σ 14 (13 * n + nA σ 7 c) = c by rw [hc7]; exact hlat) e26 (Nat.zero_le _) hyd hDn
          refine g_aload_n (n := 56) hX dX7_run_55 rfl rfl rfl ?_
          refine g_pget (n := 59) ux_X7 rfl hX hU dX7_run_56 rfl (px0 hP1).1 (px0 hP1).2.2 1 rfl uf_X7_21 rfl ?_
          refine g_aload_n (n := 60) hX dX7_run_59 rfl rfl rfl ?_
          refine g_aload (n := 62) hX dX7_run_60 rfl rfl ?_
          refine g_iconst (n := 63) (v := 0) hX dX7_run_62 rfl rfl ?_
          refine g_pcallV (n := 66) (As := [.ref (ad 12 n 0), .ref (ad 15 c 0), .int 0]) (rest := []) hX hE hU hY dX7_run_63 rfl yv_X1_enter um_X7_85 hM ⟨rfl, rfl⟩ (rm_le hRm rfl rfl) rfl (px2 hP1).1 (px2 hP1).2.2 rfl rfl rfl (Nat.le_of_ble_eq_true rfl) ⟨by rw [hRm]; show 0 + 2 * _ ≤ 80; omega, by rw [hRm]; show 0 + 109 * _ ≤ 4360; omega⟩ (fun v0 w0 hq0 => ?_)
          obtain ⟨rfl, L2, f2, ad2, κ2, g2, rfl, hP2, hL2, hEX, hgE⟩ := hq0
          show G Γ (va_pl L2 f2) (0 + 2 * (nF y.2 3 - nF (runBeg σ n) 3)) (0 + 109 * (nF y.2 3 - nF (runBeg σ n) 3)) 66 [(5, .ref (ad 15 c 0)), (4, .ref (ad 9 m 0)), (3, .ref (ad 12 n 0)), (0, .ref (ad 0 0 0)), (1, .int (nI n)), (2, .int (nI m))] [.int (bI (y.1 = 0))]
          refine g_widen (kc' := 80) (ks' := 4360) (by omega) (by omega) ?_
          have e12 : ad2 12 n 0 = ad 12 n 0 := hEX 12 n 0 (Or.inl ⟨by decide, by decide⟩)
          have e0 : ad2 0 0 0 = ad 0 0 0 := hEX 0 0 0 (Or.inl ⟨by decide, by decide⟩)
          have h12 := px12 hP2 n hu1 hu2y
          have m12 : ad 12 n 0 ∈ L2 := e12 ▸ h12.1
          have q12 : f2 (ad 12 n 0) = c12 K ad2 g2 y.2 n := by rw [← e12]; exact h12.2.2
          obtain ⟨hX1, hX2⟩ := run_end hP2 hL2 hTM.1.2.1 hu2y (hgE.1.trans (by rw [show gfl (gU g n 0 (-1)) n = 0 from pk_us])) (hgE.2.trans (by rw [show geb (gU g n 0 (-1)) n = -1 from pk_us]))
          refine g_pop (n := 67) hX dX7_run_66 rfl rfl ?_
          refine g_aload_n (n := 68) hX dX7_run_67 rfl rfl rfl ?_
          refine g_pget (n := 71) ux_X5 rfl hX hU dX7_run_68 rfl m12 q12 4 rfl uf_X7_89 rfl ?_
          refine g_if_ne (n := 74) (tgt := 78) hX dX7_run_71 rfl (by decide) (fun c71 => ?_) (fun c71 => ?_)
          · refine g_iconst (n := 79) (v := 2) hX dX7_run_78 rfl rfl ?_
            exact g_iret hX hR dX7_run_79 ⟨by rw [hX2, if_neg c71], ⟨L2, f2, ad2, κ2, g2, rfl, e0, hX1⟩⟩
          · refine g_iconst (n := 75) (v := 1) hX dX7_run_74 rfl rfl ?_
            refine g_goto (n := 79) hX dX7_run_75 (by decide) ?_
            exact g_iret hX hR dX7_run_79 ⟨by rw [hX2, if_pos c71], ⟨L2, f2, ad2, κ2, g2, rfl, e0, hX1⟩⟩
      · obtain ⟨c, hlat⟩ : ∃ c, nA σ 14 (13 * n + m) = c := ⟨_, rfl⟩
        by_cases hc0 : c = 0
        · subst hc0
          have hS : S_run N σ (nI n) (nI m) = (-5, sF σ 0 0) := by simp only [S_run, if_pos hu, if_pos hp, ehu, ehp, if_neg h12]
          have r0_16 : f (ad 0 0 0) = .inr (9, [.ref (ad 1 0 0), .ref (ad 2 0 0), .ref (ad 3 0 0), .ref (ad 8 0 0), .int (nI (nF σ 2))]) := (px0 hP).2.2
          have r1_17 : f (ad 1 0 0) = .inr (8, [.ref (ad 6 0 0), .ref (ad 7 0 0), .int (nI (nF σ 1)), .int (nI (nF σ 3))]) := (px1 hP).2.2
          have r12_18 : f (ad 12 n 0) = .inr (7, [.ref (ad 13 n 0), .ref (ad 14 n 0), .int (σ.1 12 n), .int (σ.1 13 n), .int (gfl g n), .int (geb g n), .int (σ.1 17 n), .int (σ.1 18 n), .int (nI (nA σ 19 n))]) := (px12 hP n hu1 hu2).2.2
          have r9_19 : f (ad 9 m 0) = .inr (5, [.int (nI m), .int (nI (nA σ 0 m)), .int (σ.1 5 m), .ref (ad 10 m 0), .int (nI (nA σ 1 m))]) := (px9 hP m hp1 hp2).2.2
          refine g_aload_n (n := 1) hX dX7_run_0 rfl rfl rfl ?_
          refine g_iload_n (n := 2) hX dX7_run_1 rfl rfl rfl ?_
          refine g_pcallV (n := 5) (As := [.int (nI n)]) (rest := []) hX hE hU hY dX7_run_2 rfl yv_X7_findUnit um_X7_61 (r_findUnitY _ _ hP hI hu1 hu2) ⟨rfl, rfl⟩ (rm_le hRm rfl rfl) rfl (px0 hP).1 r0_16 rfl rfl rfl (Nat.le_of_ble_eq_true rfl) ⟨Nat.zero_le _, Nat.zero_le _⟩ (fun v0 w0 hq0 => ?_)
          obtain ⟨rfl, rfl⟩ := hq0
          show G Γ (va_pl L f) 0 0 5 [(0, .ref (ad 0 0 0)), (1, .int (nI n)), (2, .int (nI m))] [.ref (ad 12 n 0)]
          refine g_astore_n (lv' := [(3, .ref (ad 12 n 0)), (0, .ref (ad 0 0 0)), (1, .int (nI n)), (2, .int (nI m))]) (n := 6) hX dX7_run_5 rfl rfl (by rw [hnL]; rfl) rfl ?_
          refine g_aload_n (n := 7) hX dX7_run_6 rfl rfl rfl ?_
          refine g_pget (n := 10) ux_X7 rfl hX hU dX7_run_7 rfl (px0 hP).1 r0_16 0 rfl uf_X7_10 rfl ?_
          refine g_iload_n (n := 11) hX dX7_run_10 rfl rfl rfl ?_
          refine g_pcallV (n := 14) (As := [.int (nI m)]) (rest := []) hX hE hU hY dX7_run_11 rfl yv_X6_findProgram um_X7_42 (r_findProgramY _ _ hP hI hp1 hp2) ⟨rfl, rfl⟩ (rm_le hRm rfl rfl) rfl (px1 hP).1 r1_17 rfl rfl rfl (Nat.le_of_ble_eq_true rfl) ⟨Nat.zero_le _, Nat.zero_le _⟩ (fun v0 w0 hq0 => ?_)
          obtain ⟨rfl, rfl⟩ := hq0
          show G Γ (va_pl L f) 0 0 14 [(3, .ref (ad 12 n 0)), (0, .ref (ad 0 0 0)), (1, .int (nI n)), (2, .int (nI m))] [.ref (ad 9 m 0)]
          refine g_astore (lv' := [(4, .ref (ad 9 m 0)), (3, .ref (ad 12 n 0)), (0, .ref (ad 0 0 0)), (1, .int (nI n)), (2, .int (nI m))]) (n := 16) hX dX7_run_14 rfl (by rw [hnL]; rfl) rfl ?_
          refine g_aload_n (n := 17) hX dX7_run_16 rfl rfl rfl ?_
          refine g_ifnull (n := 20) hX dX7_run_17 rfl ?_
          refine g_aload (n := 22) hX dX7_run_20 rfl rfl ?_
          refine g_ifnonnull (tgt := 28) hX dX7_run_22 (by decide) ?_
          refine g_aload_n (n := 29) hX dX7_run_28 rfl rfl rfl ?_
          refine g_aload (n := 31) hX dX7_run_29 rfl rfl ?_
          refine g_pcallV (n := 34) (As := [.ref (ad 9 m 0)]) (rest := []) hX hE hU hY dX7_run_31 rfl yv_X5_latestOf um_X7_78 (r_latestN _ _ hP hI hu1 hu2 hp1 hp2 hlat) ⟨rfl, rfl⟩ (rm_le hRm rfl rfl) rfl (px12 hP n hu1 hu2).1 r12_18 rfl rfl rfl (Nat.le_of_ble_eq_true rfl) ⟨Nat.zero_le _, Nat.zero_le _⟩ (fun v0 w0 hq0 => ?_)
          obtain ⟨rfl, rfl⟩ := hq0
          show G Γ (va_pl L f) 0 0 34 [(4, .ref (ad 9 m 0)), (3, .ref (ad 12 n 0)), (0, .ref (ad 0 0 0)), (1, .int (nI n)), (2, .int (nI m))] [.null]
          refine g_astoreN (lv' := [(5, .null), (4, .ref (ad 9 m 0)), (3, .ref (ad 12 n 0)), (0, .ref (ad 0 0 0)), (1, .int (nI n)), (2, .int (nI m))]) (n := 36) hX dX7_run_34 rfl (by rw [hnL]; rfl) rfl ?_
          refine g_aload_n (n := 37) hX dX7_run_36 rfl rfl rfl ?_
          refine g_pget (n := 40) ux_X5 rfl hX hU dX7_run_37 rfl (px12 hP n hu1 hu2).1 r12_18 2 rfl uf_X7_65 rfl ?_
          refine g_if_ne (n := 43) (tgt := 48) hX dX7_run_40 rfl (by decide) (fun c40 => ?_) (fun c40 => absurd c40 h12)
          refine g_bipush (n := 50) (v := (-5)) hX dX7_run_48 rfl rfl ?_
          refine g_widen (kc' := 80) (ks' := 4360) (Nat.le_of_ble_eq_true rfl) (Nat.le_of_ble_eq_true rfl) ?_
          exact g_iret hX hR dX7_run_50 ⟨by rw [hS], by rw [hS]; exact RW_rd hQ (cor_F0 σ 0)⟩
        · have hS : S_run N σ (nI n) (nI m) = (-5, sF σ 0 0) := by simp only [S_run, if_pos hu, if_pos hp, ehu, ehp, if_neg h12]
          have r0_20 : f (ad 0 0 0) = .inr (9, [.ref (ad 1 0 0), .ref (ad 2 0 0), .ref (ad 3 0 0), .ref (ad 8 0 0), .int (nI (nF σ 2))]) := (px0 hP).2.2
          have r1_21 : f (ad 1 0 0) = .inr (8, [.ref (ad 6 0 0), .ref (ad 7 0 0), .int (nI (nF σ 1)), .int (nI (nF σ 3))]) := (px1 hP).2.2
          have r12_22 : f (ad 12 n 0) = .inr (7, [.ref (ad 13 n 0), .ref (ad 14 n 0), .int (σ.1 12 n), .int (σ.1 13 n), .int (gfl g n), .int (geb g n), .int (σ.1 17 n), .int (σ.1 18 n), .int (nI (nA σ 19 n))]) := (px12 hP n hu1 hu2).2.2
          have r9_23 : f (ad 9 m 0) = .inr (5, [.int (nI m), .int (nI (nA σ 0 m)), .int (σ.1 5 m), .ref (ad 10 m 0), .int (nI (nA σ 1 m))]) := (px9 hP m hp1 hp2).2.2
          refine g_aload_n (n := 1) hX dX7_run_0 rfl rfl rfl ?_
          refine g_iload_n (n := 2) hX dX7_run_1 rfl rfl rfl ?_
          refine g_pcallV (n := 5) (As := [.int (nI n)]) (rest := []) hX hE hU hY dX7_run_2 rfl yv_X7_findUnit um_X7_61 (r_findUnitY _ _ hP hI hu1 hu2) ⟨rfl, rfl⟩ (rm_le hRm rfl rfl) rfl (px0 hP).1 r0_20 rfl rfl rfl (Nat.le_of_ble_eq_true rfl) ⟨Nat.zero_le _, Nat.zero_le _⟩ (fun v0 w0 hq0 => ?_)
          obtain ⟨rfl, rfl⟩ := hq0
          show G Γ (va_pl L f) 0 0 5 [(0, .ref (ad 0 0 0)), (1, .int (nI n)), (2, .int (nI m))] [.ref (ad 12 n 0)]
          refine g_astore_n (lv' := [(3, .ref (ad 12 n 0)), (0, .ref (ad 0 0 0)), (1, .int (nI n)), (2, .int (nI m))]) (n := 6) hX dX7_run_5 rfl rfl (by rw [hnL]; rfl) rfl ?_
          refine g_aload_n (n := 7) hX dX7_run_6 rfl rfl rfl ?_
          refine g_pget (n := 10) ux_X7 rfl hX hU dX7_run_7 rfl (px0 hP).1 r0_20 0 rfl uf_X7_10 rfl ?_
          refine g_iload_n (n := 11) hX dX7_run_10 rfl rfl rfl ?_
          refine g_pcallV (n := 14) (As := [.int (nI m)]) (rest := []) hX hE hU hY dX7_run_11 rfl yv_X6_findProgram um_X7_42 (r_findProgramY _ _ hP hI hp1 hp2) ⟨rfl, rfl⟩ (rm_le hRm rfl rfl) rfl (px1 hP).1 r1_21 rfl rfl rfl (Nat.le_of_ble_eq_true rfl) ⟨Nat.zero_le _, Nat.zero_le _⟩ (fun v0 w0 hq0 => ?_)
          obtain ⟨rfl, rfl⟩ := hq0
          show G Γ (va_pl L f) 0 0 14 [(3, .ref (ad 12 n 0)), (0, .ref (ad 0 0 0)), (1, .int (nI n)), (2, .int (nI m))] [.ref (ad 9 m 0)]
          refine g_astore (lv' := [(4, .ref (ad 9 m 0)), (3, .ref (ad 12 n 0)), (0, .ref (ad 0 0 0)), (1, .int (nI n)), (2, .int (nI m))]) (n := 16) hX dX7_run_14 rfl (by rw [hnL]; rfl) rfl ?_
          refine g_aload_n (n := 17) hX dX7_run_16 rfl rfl rfl ?_
          refine g_ifnull (n := 20) hX dX7_run_17 rfl ?_
          refine g_aload (n := 22) hX dX7_run_20 rfl rfl ?_
          refine g_ifnonnull (tgt := 28) hX dX7_run_22 (by decide) ?_
          refine g_aload_n (n := 29) hX dX7_run_28 rfl rfl rfl ?_
          refine g_aload (n := 31) hX dX7_run_29 rfl rfl ?_
          refine g_pcallV (n := 34) (As := [.ref (ad 9 m 0)]) (rest := []) hX hE hU hY dX7_run_31 rfl yv_X5_latestOf um_X7_78 (r_latestY _ _ hP hI hu1 hu2 hp1 hp2 hlat hc0) ⟨rfl, rfl⟩ (rm_le hRm rfl rfl) rfl (px12 hP n hu1 hu2).1 r12_22 rfl rfl rfl (Nat.le_of_ble_eq_true rfl) ⟨Nat.zero_le _, Nat.zero_le _⟩ (fun v0 w0 hq0 => ?_)
          obtain ⟨rfl, rfl⟩ := hq0
          show G Γ (va_pl L f) 0 0 34 [(4, .ref (ad 9 m 0)), (3, .ref (ad 12 n 0)), (0, .ref (ad 0 0 0)), (1, .int (nI n)), (2, .int (nI m))] [.ref (ad 15 c 0)]
          refine g_astore (lv' := [(5, .ref (ad 15 c 0)), (4, .ref (ad 9 m 0)), (3, .ref (ad 12 n 0)), (0, .ref (ad 0 0 0)), (1, .int (nI n)), (2, .int (nI m))]) (n := 36) hX dX7_run_34 rfl (by rw [hnL]; rfl) rfl ?_
          refine g_aload_n (n := 37) hX dX7_run_36 rfl rfl rfl ?_
          refine g_pget (n := 40) ux_X5 rfl hX hU dX7_run_37 rfl (px12 hP n hu1 hu2).1 r12_22 2 rfl uf_X7_65 rfl ?_
          refine g_if_ne (n := 43) (tgt := 48) hX dX7_run_40 rfl (by decide) (fun c40 => ?_) (fun c40 => absurd c40 h12)
          refine g_bipush (n := 50) (v := (-5)) hX dX7_run_48 rfl rfl ?_
          refine g_widen (kc' := 80) (ks' := 4360) (Nat.le_of_ble_eq_true rfl) (Nat.le_of_ble_eq_true rfl) ?_
          exact g_iret hX hR dX7_run_50 ⟨by rw [hS], by rw [hS]; exact RW_rd hQ (cor_F0 σ 0)⟩
    · have hS : S_run N σ (nI n) p = (-2, sF σ 0 0) := by simp only [S_run, if_pos hu, if_neg hp]
      have r0_24 : f (ad 0 0 0) = .inr (9, [.ref (ad 1 0 0), .ref (ad 2 0 0), .ref (ad 3 0 0), .ref (ad 8 0 0), .int (nI (nF σ 2))]) := (px0 hP).2.2
      have r1_25 : f (ad 1 0 0) = .inr (8, [.ref (ad 6 0 0), .ref (ad 7 0 0), .int (nI (nF σ 1)), .int (nI (nF σ 3))]) := (px1 hP).2.2
      have r12_26 : f (ad 12 n 0) = .inr (7, [.ref (ad 13 n 0), .ref (ad 14 n 0), .int (σ.1 12 n), .int (σ.1 13 n), .int (gfl g n), .int (geb g n), .int (σ.1 17 n), .int (σ.1 18 n), .int (nI (nA σ 19 n))]) := (px12 hP n hu1 hu2).2.2
      refine g_aload_n (n := 1) hX dX7_run_0 rfl rfl rfl ?_
      refine g_iload_n (n := 2) hX dX7_run_1 rfl rfl rfl ?_
      refine g_pcallV (n := 5) (As := [.int (nI n)]) (rest := []) hX hE hU hY dX7_run_2 rfl yv_X7_findUnit um_X7_61 (r_findUnitY _ _ hP hI hu1 hu2) ⟨rfl, rfl⟩ (rm_le hRm rfl rfl) rfl (px0 hP).1 r0_24 rfl rfl rfl (Nat.le_of_ble_eq_true rfl) ⟨Nat.zero_le _, Nat.zero_le _⟩ (fun v0 w0 hq0 => ?_)
      obtain ⟨rfl, rfl⟩ := hq0
      show G Γ (va_pl L f) 0 0 5 [(0, .ref (ad 0 0 0)), (1, .int (nI n)), (2, .int p)] [.ref (ad 12 n 0)]
      refine g_astore_n (lv' := [(3, .ref (ad 12 n 0)), (0, .ref (ad 0 0 0)), (1, .int (nI n)), (2, .int p)]) (n := 6) hX dX7_run_5 rfl rfl (by rw [hnL]; rfl) rfl ?_
      refine g_aload_n (n := 7) hX dX7_run_6 rfl rfl rfl ?_
      refine g_pget (n := 10) ux_X7 rfl hX hU dX7_run_7 rfl (px0 hP).1 r0_24 0 rfl uf_X7_10 rfl ?_
      refine g_iload_n (n := 11) hX dX7_run_10 rfl rfl rfl ?_
      refine g_pcallV (n := 14) (As := [.int p]) (rest := []) hX hE hU hY dX7_run_11 rfl yv_X6_findProgram um_X7_42 (r_findProgramN _ _ hP hI hp) ⟨rfl, rfl⟩ (rm_le hRm rfl rfl) rfl (px1 hP).1 r1_25 rfl rfl rfl (Nat.le_of_ble_eq_true rfl) ⟨Nat.zero_le _, Nat.zero_le _⟩ (fun v0 w0 hq0 => ?_)
      obtain ⟨rfl, rfl⟩ := hq0
      show G Γ (va_pl L f) 0 0 14 [(3, .ref (ad 12 n 0)), (0, .ref (ad 0 0 0)), (1, .int (nI n)), (2, .int p)] [.null]
      refine g_astoreN (lv' := [(4, .null), (3, .ref (ad 12 n 0)), (0, .ref (ad 0 0 0)), (1, .int (nI n)), (2, .int p)]) (n := 16) hX dX7_run_14 rfl (by rw [hnL]; rfl) rfl ?_
      refine g_aload_n (n := 17) hX dX7_run_16 rfl rfl rfl ?_
      refine g_ifnull (n := 20) hX dX7_run_17 rfl ?_
      refine g_aloadN (n := 22) hX dX7_run_20 rfl rfl ?_
      refine g_ifnonnullN (n := 25) hX dX7_run_22 rfl ?_
      refine g_bipush (n := 27) (v := (-2)) hX dX7_run_25 rfl rfl ?_
      refine g_widen (kc' := 80) (ks' := 4360) (Nat.le_of_ble_eq_true rfl) (Nat.le_of_ble_eq_true rfl) ?_
      exact g_iret hX hR dX7_run_27 ⟨by rw [hS], by rw [hS]; exact RW_rd hQ (cor_F0 σ 0)⟩
  · have hS : S_run N σ u p = (-2, sF σ 0 0) := by simp only [S_run, if_neg hu]
    by_cases hp : 1 ≤ p ∧ p ≤ σ.2 1
    · obtain ⟨m, rfl, hp1, hp8, -, hp2⟩ := in1 hI.1.1 (by decide) hp
      have r0_27 : f (ad 0 0 0) = .inr (9, [.ref (ad 1 0 0), .ref (ad 2 0 0), .ref (ad 3 0 0), .ref (ad 8 0 0), .int (nI (nF σ 2))]) := (px0 hP).2.2
      have r1_28 : f (ad 1 0 0) = .inr (8, [.ref (ad 6 0 0), .ref (ad 7 0 0), .int (nI (nF σ 1)), .int (nI (nF σ 3))]) := (px1 hP).2.2
      refine g_aload_n (n := 1) hX dX7_run_0 rfl rfl rfl ?_
      refine g_iload_n (n := 2) hX dX7_run_1 rfl rfl rfl ?_
      refine g_pcallV (n := 5) (As := [.int u]) (rest := []) hX hE hU hY dX7_run_2 rfl yv_X7_findUnit um_X7_61 (r_findUnitN _ _ hP hI hu) ⟨rfl, rfl⟩ (rm_le hRm rfl rfl) rfl (px0 hP).1 r0_27 rfl rfl rfl (Nat.le_of_ble_eq_true rfl) ⟨Nat.zero_le _, Nat.zero_le _⟩ (fun v0 w0 hq0 => ?_)
      obtain ⟨rfl, rfl⟩ := hq0
      show G Γ (va_pl L f) 0 0 5 [(0, .ref (ad 0 0 0)), (1, .int u), (2, .int (nI m))] [.null]
      refine g_astore_nN (lv' := [(3, .null), (0, .ref (ad 0 0 0)), (1, .int u), (2, .int (nI m))]) (n := 6) hX dX7_run_5 rfl rfl (by rw [hnL]; rfl) rfl ?_
      refine g_aload_n (n := 7) hX dX7_run_6 rfl rfl rfl ?_
      refine g_pget (n := 10) ux_X7 rfl hX hU dX7_run_7 rfl (px0 hP).1 r0_27 0 rfl uf_X7_10 rfl ?_
      refine g_iload_n (n := 11) hX dX7_run_10 rfl rfl rfl ?_
      refine g_pcallV (n := 14) (As := [.int (nI m)]) (rest := []) hX hE hU hY dX7_run_11 rfl yv_X6_findProgram um_X7_42 (r_findProgramY _ _ hP hI hp1 hp2) ⟨rfl, rfl⟩ (rm_le hRm rfl rfl) rfl (px1 hP).1 r1_28 rfl rfl rfl (Nat.le_of_ble_eq_true rfl) ⟨Nat.zero_le _, Nat.zero_le _⟩ (fun v0 w0 hq0 => ?_)
      obtain ⟨rfl, rfl⟩ := hq0
      show G Γ (va_pl L f) 0 0 14 [(3, .null), (0, .ref (ad 0 0 0)), (1, .int u), (2, .int (nI m))] [.ref (ad 9 m 0)]
      refine g_astore (lv' := [(4, .ref (ad 9 m 0)), (3, .null), (0, .ref (ad 0 0 0)), (1, .int u), (2, .int (nI m))]) (n := 16) hX dX7_run_14 rfl (by rw [hnL]; rfl) rfl ?_
      refine g_aload_nN (n := 17) hX dX7_run_16 rfl rfl rfl ?_
      refine g_ifnullN (tgt := 25) hX dX7_run_17 (by decide) ?_
      refine g_bipush (n := 27) (v := (-2)) hX dX7_run_25 rfl rfl ?_
      refine g_widen (kc' := 80) (ks' := 4360) (Nat.le_of_ble_eq_true rfl) (Nat.le_of_ble_eq_true rfl) ?_
      exact g_iret hX hR dX7_run_27 ⟨by rw [hS], by rw [hS]; exact RW_rd hQ (cor_F0 σ 0)⟩
    · have r0_29 : f (ad 0 0 0) = .inr (9, [.ref (ad 1 0 0), .ref (ad 2 0 0), .ref (ad 3 0 0), .ref (ad 8 0 0), .int (nI (nF σ 2))]) := (px0 hP).2.2
      have r1_30 : f (ad 1 0 0) = .inr (8, [.ref (ad 6 0 0), .ref (ad 7 0 0), .int (nI (nF σ 1)), .int (nI (nF σ 3))]) := (px1 hP).2.2
      refine g_aload_n (n := 1) hX dX7_run_0 rfl rfl rfl ?_
      refine g_iload_n (n := 2) hX dX7_run_1 rfl rfl rfl ?_
      refine g_pcallV (n := 5) (As := [.int u]) (rest := []) hX hE hU hY dX7_run_2 rfl yv_X7_findUnit um_X7_61 (r_findUnitN _ _ hP hI hu) ⟨rfl, rfl⟩ (rm_le hRm rfl rfl) rfl (px0 hP).1 r0_29 rfl rfl rfl (Nat.le_of_ble_eq_true rfl) ⟨Nat.zero_le _, Nat.zero_le _⟩ (fun v0 w0 hq0 => ?_)
      obtain ⟨rfl, rfl⟩ := hq0
      show G Γ (va_pl L f) 0 0 5 [(0, .ref (ad 0 0 0)), (1, .int u), (2, .int p)] [.null]
      refine g_astore_nN (lv' := [(3, .null), (0, .ref (ad 0 0 0)), (1, .int u), (2, .int p)]) (n := 6) hX dX7_run_5 rfl rfl (by rw [hnL]; rfl) rfl ?_
      refine g_aload_n (n := 7) hX dX7_run_6 rfl rfl rfl ?_
      refine g_pget (n := 10) ux_X7 rfl hX hU dX7_run_7 rfl (px0 hP).1 r0_29 0 rfl uf_X7_10 rfl ?_
      refine g_iload_n (n := 11) hX dX7_run_10 rfl rfl rfl ?_
      refine g_pcallV (n := 14) (As := [.int p]) (rest := []) hX hE hU hY dX7_run_11 rfl yv_X6_findProgram um_X7_42 (r_findProgramN _ _ hP hI hp) ⟨rfl, rfl⟩ (rm_le hRm rfl rfl) rfl (px1 hP).1 r1_30 rfl rfl rfl (Nat.le_of_ble_eq_true rfl) ⟨Nat.zero_le _, Nat.zero_le _⟩ (fun v0 w0 hq0 => ?_)
      obtain ⟨rfl, rfl⟩ := hq0
      show G Γ (va_pl L f) 0 0 14 [(3, .null), (0, .ref (ad 0 0 0)), (1, .int u), (2, .int p)] [.null]
      refine g_astoreN (lv' := [(4, .null), (3, .null), (0, .ref (ad 0 0 0)), (1, .int u), (2, .int p)]) (n := 16) hX dX7_run_14 rfl (by rw [hnL]; rfl) rfl ?_
      refine g_aload_nN (n := 17) hX dX7_run_16 rfl rfl rfl ?_
      refine g_ifnullN (tgt := 25) hX dX7_run_17 (by decide) ?_
      refine g_bipush (n := 27) (v := (-2)) hX dX7_run_25 rfl rfl ?_
      refine g_widen (kc' := 80) (ks' := 4360) (Nat.le_of_ble_eq_true rfl) (Nat.le_of_ble_eq_true rfl) ?_
      exact g_iret hX hR dX7_run_27 ⟨by rw [hS], by rw [hS]; exact RW_rd hQ (cor_F0 σ 0)⟩

