theorem cor_ar {σ σ' : MS} (e : cor σ' = cor σ) {j : Nat} (hj : j < 22) : σ'.1 j = σ.1 j := by
  have h := congrFun (congrArg Prod.fst e) j
  have h2 : (if j < 22 then σ'.1 j else fun _ => 0) = (if j < 22 then σ.1 j else fun _ => 0) := h
  rw [if_pos hj, if_pos hj] at h2
  exact h2
theorem cor_fd {σ σ' : MS} (e : cor σ' = cor σ) {k : Nat} (hk : k = 1 ∨ k = 2 ∨ k = 3) : σ'.2 k = σ.2 k := by
  have h := congrFun (congrArg Prod.snd e) k
  have h2 : (if k = 1 ∨ k = 2 ∨ k = 3 then σ'.2 k else 0) = (if k = 1 ∨ k = 2 ∨ k = 3 then σ.2 k else 0) := h
  rw [if_pos hk, if_pos hk] at h2
  exact h2
theorem cor_sA {σ σ' : MS} (e : cor σ' = cor σ) (j i : Nat) (x : Int32) : cor (sA σ' j i x) = cor (sA σ j i x) := by
  refine cor_e (fun k hk => ?_) (fun k hk => cor_fd e hk)
  by_cases h : k = j
  · subst h
    unfold sA
    show va_up σ'.1 k (upd (σ'.1 k) i x) k = va_up σ.1 k (upd (σ.1 k) i x) k
    rw [va_up_self, va_up_self, cor_ar e hk]
  · rw [sA_o _ _ _ h, sA_o _ _ _ h, cor_ar e hk]
/-- the row that comes next -/
theorem row_next {ad : AD} {σ : MS} {p r n : Nat} (hr1 : 1 ≤ r) (hr : r ≤ 61) (hn : n ≤ nA σ 1 p) (hn6 : nA σ 1 p ≤ 60) : (if nI r ≤ nI n then grw ad σ p ((nI r).toNatClampNeg - 1) else none) = (if r ≤ n then some (ad 11 p r) else none) := by
  rw [nI_clamp (by omega)]
  by_cases h : r ≤ n
  · rw [if_pos h, if_pos (nI_le h (by omega)), grw_at hr1 (by omega)]
  · rw [if_neg h, if_neg (nI_ge (by omega) (by omega))]
set_option maxHeartbeats 4000000 in
set_option maxRecDepth 100000 in
theorem lp_ent {Γ : gT} {K : Nat → ClassId} (hX : gOk Γ cX1_enter (wM yX1_enter cX1_enter 7 (some .boolean)) RX1) (hE : gEv Γ) (hnL : gnL Γ = 7) (hY : gY Γ = yY K) (u d c n0 N : Nat) (g0 : GX) (ad0 : AD) (y : Int32 × MS) (hRm : gRm Γ = rmL (3 * (10 - d) + 7) (2 * (nF y.2 3 - n0)) (109 * (nF y.2 3 - n0))) (hIH : ∀ m, m < N → EnterC (gLa Γ) (gD Γ) K u m) {post : Option Value → va_W → Prop} (hR : gRet Γ (some .boolean) post (2 * (nF y.2 3 - n0)) (109 * (nF y.2 3 - n0))) (hpost : ∀ w, RO K ad0 g0 n0 u y w → post (some (.int (bI (y.1 = 0)))) w) (hd10 : d ≤ 10) (hdone : doneD d y) : ∀ (k : Nat), k ≤ N → ∀ (L : List Nat) (f : Nat → va_E) (ad : AD) (κ : TG) (g : GX) (σ : MS) (t r aM aU aC : Nat), PX K L f ad κ g σ → Lk g σ u → RV u σ → nF σ 26 = d + 1 → nA σ 22 d = c → nA σ 23 d = r → t ≤ nA σ 18 u → EX ad0 ad n0 → gfl g u = gfl g0 u → geb g u = geb g0 u → n0 ≤ nF σ 3 → itD u d k (0, σ) = y → ad 2 0 0 = aM → ad 12 u 0 = aU → ad 15 c 0 = aC → G Γ (va_pl L f) (2 * (nF σ 3 - n0)) (109 * (nF σ 3 - n0)) 24 [(5, .int (nI t)), (4, .int (nI r)), (0, .ref aM), (1, .ref aU), (2, .ref aC), (3, .int (nI d))] [] := by
  have hU : ∀ w ∈ wU, w ∈ wM yX1_enter cX1_enter 7 (some .boolean) := fun w h => wM_in h
  intro k
  induction k using Nat.strongRecOn with
  | ind k ih =>
  intro hkN L f ad κ g σ t r aM aU aC hP hL hV hd h22 h23 ht hEX hg1 hg2 hn0 hy eM eU eC
  subst eM eU eC
  have hI := hV.1
  have hu1 := hV.2.1.1
  have hu2 := hV.2.1.2
  have hu8 : u ≤ 8 := Nat.le_trans hu2 hI.nu.2
  have h40 := hI.nc.2
  obtain ⟨c1, r1, t1, t2, t3, t4, t5, t6, t7, t8, t9, t10⟩ := hV.top hd
  obtain rfl : c1 = c := t1.symm.trans h22
  obtain rfl : r1 = r := t7.symm.trans h23
  have hst := hI.st hu8
  have hcl := hI.cls c1 t3.1 t3.2
  have hp12 := hI.np.2
  have hrc := (hI.rc (p := nA σ 7 c1) (by omega)).2
  have ed : nF σ 26 - 1 = d := by omega
  have ecc : nA σ 22 (nF σ 26 - 1) = c1 := by rw [ed, t1]
  have err : nA σ 23 (nF σ 26 - 1) = r1 := by rw [ed, t7]
  cases k with
  | zero => exact absurd (show doneD d (0, σ) by rw [show ((0, σ) : Int32 × MS) = y from hy]; exact hdone) (fun h9 => h9 ⟨rfl, by show d < nF σ 26; omega⟩)
  | succ k =>
  rw [itD_next (show ((0, σ) : Int32 × MS).1 = 0 ∧ d < nF ((0, σ) : Int32 × MS).2 26 from ⟨rfl, by show d < nF σ 26; omega⟩)] at hy
  have hy : itD u d k (S_it u σ) = y := hy
  by_cases hpop : nA σ 8 c1 < r1
  · have hyv : y = (0, sF σ 26 (nI d)) := by
      rw [← hy, it_pop (by rw [ecc, err]; exact hpop), ed]
      exact itD_stop (fun h9 => by have h8 : d < nF (sF σ 26 (nI d)) 26 := h9.2; rw [nF_of (show (sF σ 26 (nI d)).2 26 = nI d from rfl) (by omega)] at h8; omega)
    have hy3 : nF y.2 3 = nF σ 3 := by rw [hyv]; rfl
    have r2_1 : f (ad 2 0 0) = .inr (3, [.ref (ad 1 0 0)]) := (px2 hP).2.2
    have r12_2 : f (ad 12 u 0) = .inr (7, [.ref (ad 13 u 0), .ref (ad 14 u 0), .int (σ.1 12 u), .int (σ.1 13 u), .int (gfl g u), .int (geb g u), .int (σ.1 17 u), .int (σ.1 18 u), .int (nI (nA σ 19 u))]) := (px12 hP u hu1 hu2).2.2
    have r15_3 : f (ad 15 c1 0) = .inr (4, [.int (nI c1), .ref (ad 12 (nA σ 6 c1) 0), .ref (ad 9 (nA σ 7 c1) 0), .int (nI (nA σ 8 c1)), .ref (ad 16 c1 0), va_rf (if gfa g c1 = true then some (ad 17 c1 0) else none), .int (gsd g c1), .int (σ.1 11 c1), .int (σ.1 9 c1)]) := (px15 hP c1 t3.1 t3.2).2.2
    have r9_4 : f (ad 9 (nA σ 7 c1) 0) = .inr (5, [.int (nI (nA σ 7 c1)), .int (nI (nA σ 0 (nA σ 7 c1))), .int (σ.1 5 (nA σ 7 c1)), .ref (ad 10 (nA σ 7 c1) 0), .int (nI (nA σ 1 (nA σ 7 c1)))]) := (px9 hP _ hcl.2.1.1 hcl.2.1.2).2.2
    refine g_iload (n := 26) hX dX1_enter_24 rfl rfl ?_
    refine g_sipush (n := 29) (v := 1000) hX dX1_enter_26 rfl rfl ?_
    refine g_icmp_gt (n := 32) (tgt := 92) hX dX1_enter_29 rfl (by decide) (fun c29 => absurd c29 (nI_nlt (a := 1000) (b := t) (by omega) (by omega))) (fun c29 => ?_)
    refine g_aload_n (n := 33) hX dX1_enter_32 rfl rfl rfl ?_
    refine g_iload (n := 35) hX dX1_enter_33 rfl rfl ?_
    refine g_pcallV (n := 38) (As := [.int (nI r1)]) (rest := []) hX hE hU hY dX1_enter_35 rfl yv_X2_findRow um_X1_31 (x_findRow2 _ _ K L f (nI r1) (ad 15 c1 0) (nA σ 8 c1) (nA σ 1 (nA σ 7 c1)) (ad 10 (nA σ 7 c1) 0) (ad 12 (nA σ 6 c1) 0) (ad 9 (nA σ 7 c1) 0) (ad 16 c1 0) (if gfa g c1 = true then some (ad 17 c1 0) else none) (nI c1) (gsd g c1) (σ.1 11 c1) (σ.1 9 c1) (nI (nA σ 7 c1)) (nI (nA σ 0 (nA σ 7 c1))) (σ.1 5 (nA σ 7 c1)) (grw ad σ (nA σ 7 c1)) (px15 hP c1 t3.1 t3.2).1 (px15 hP c1 t3.1 t3.2).2.2 (px9 hP _ hcl.2.1.1 hcl.2.1.2).1 (px9 hP _ hcl.2.1.1 hcl.2.1.2).2.2 (px10 hP _ hcl.2.1.1 hcl.2.1.2).1 (px10 hP _ hcl.2.1.1 hcl.2.1.2).2.2 hrc hcl.2.2.1 (nI_le (a := 1) (b := r1) t9 (by omega))) ⟨rfl, rfl⟩ (rm_lt hRm (by omega) rfl) rfl (px15 hP c1 t3.1 t3.2).1 r15_3 rfl rfl rfl (Nat.le_of_ble_eq_true rfl) ⟨by rw [hRm]; show 2 * _ + 0 ≤ 2 * _; omega, by rw [hRm]; show 109 * _ + 0 ≤ 109 * _; omega⟩ (fun v0 w0 hq0 => ?_)
    rw [row_next t9 t10 hcl.2.2.1 hrc, if_neg (by omega)] at hq0; obtain ⟨rfl, rfl⟩ := hq0
    show G Γ (va_pl L f) (2 * (nF σ 3 - n0)) (109 * (nF σ 3 - n0)) 38 [(5, .int (nI t)), (4, .int (nI r1)), (0, .ref (ad 2 0 0)), (1, .ref (ad 12 u 0)), (2, .ref (ad 15 c1 0)), (3, .int (nI d))] [.null]
    refine g_astoreN (lv' := [(6, .null), (5, .int (nI t)), (4, .int (nI r1)), (0, .ref (ad 2 0 0)), (1, .ref (ad 12 u 0)), (2, .ref (ad 15 c1 0)), (3, .int (nI d))]) (n := 40) hX dX1_enter_38 rfl (by rw [hnL]; rfl) rfl ?_
    refine g_aloadN (n := 42) hX dX1_enter_40 rfl rfl ?_
    refine g_ifnonnullN (n := 45) hX dX1_enter_42 rfl ?_
    refine g_iconst (n := 46) (v := 1) hX dX1_enter_45 rfl rfl ?_
    refine g_widen (kc' := 2 * (nF y.2 3 - n0)) (ks' := 109 * (nF y.2 3 - n0)) (by omega) (by omega) ?_
    exact g_zret hX hR dX1_enter_46 rfl (by have h9 := hpost (va_pl L f) (by rw [hyv]; exact ⟨L, f, ad, κ, g, rfl, PX_c hP (cor_F (Or.inr (by decide))), Lk_c hL (cor_F (Or.inr (by decide))), hEX, gEn_eq hg1 hg2 (gEn_0 g u _)⟩); rw [hyv, bI_t rfl] at h9; exact h9)
  · have hr8 : r1 ≤ nA σ 8 c1 := by omega
    have hr60 := (hI.cr (c := c1) (by omega)).2
    have hny : nF σ 3 ≤ nF y.2 3 := by rw [← hy]; exact Nat.le_trans (TI_it hV (by omega)).2.1 (TI_many k (TI_it hV (by omega)).1).2.1
    have hpop2 : ¬ nA σ 8 (nA σ 22 (nF σ 26 - 1)) < nA σ 23 (nF σ 26 - 1) := by rw [ecc, err]; exact hpop
    obtain ⟨τ, hτ⟩ : ∃ τ, sA (sA σ 16 u (σ.1 7 c1)) 23 d (nI (r1 + 1)) = τ := ⟨_, rfl⟩
    have hPτ : PX K L f ad κ g τ := by rw [← hτ]; exact PX_c (PX_kept hP (j := 16) (by decide) u (σ.1 7 c1)) (cor_A (by decide))
    have hLτ : Lk g τ u := by rw [← hτ]; exact Lk_c (Lk_16 hL (σ.1 7 c1)) (cor_A (by decide))
    have hIτ : Inv τ := by rw [← hτ]; exact Inv_cor2 (Inv_16 hI hu2 (σ.1 7 c1)) (cor_A (by decide))
    have aτ : ∀ j, j ≠ 16 → j ≠ 23 → τ.1 j = σ.1 j := fun j h1 h2 => by rw [← hτ, sA_o _ _ _ h2, sA_o _ _ _ h1]
    have fτ : τ.2 = σ.2 := by rw [← hτ]; rfl
    have e18 : nA τ 18 u = nA σ 18 u := nA_e (aτ 18 (by decide) (by decide)) u
    have e7 : nA τ 7 c1 = nA σ 7 c1 := nA_e (aτ 7 (by decide) (by decide)) c1
    have e3 : nF τ 3 = nF σ 3 := nF_e (congrFun fτ 3)
    have hu3 : u ≤ nF τ 2 := by rw [nF_e (congrFun fτ 2)]; exact hu2
    have hc3 : c1 ≤ nF τ 3 := by rw [e3]; exact t3.2
    have h16 : τ.1 16 u = τ.1 7 c1 := by rw [aτ 7 (by decide) (by decide), ← hτ, sA_o _ _ _ (show 16 ≠ 23 by decide), sA_s]
    have hTS := r_takeStep (gLa Γ) (gD Γ) hPτ hIτ hLτ hu1 hu3
    rw [e18] at hTS
    by_cases hs : nA σ 18 u = 1000
    · have hyv : y = (7, τ) := by
        rw [← hy, it_end hpop2 hs, ecc, err, ed, hτ]
        exact itD_stop (fun h9 => absurd h9.1 (show ¬ (7 : Int32) = 0 by decide))
      simp only [if_pos hs] at hTS
      have hA := r_abend (gLa Γ) (gD Γ) hPτ hIτ hLτ hu1 hu3 t3.1 hc3 (k := 7) (by decide) (by decide) (by decide) h16
      rw [e7] at hA
      have r2_5 : f (ad 2 0 0) = .inr (3, [.ref (ad 1 0 0)]) := (px2 hP).2.2
      have r12_6 : f (ad 12 u 0) = .inr (7, [.ref (ad 13 u 0), .ref (ad 14 u 0), .int (σ.1 12 u), .int (σ.1 13 u), .int (gfl g u), .int (geb g u), .int (σ.1 17 u), .int (σ.1 18 u), .int (nI (nA σ 19 u))]) := (px12 hP u hu1 hu2).2.2
      have r15_7 : f (ad 15 c1 0) = .inr (4, [.int (nI c1), .ref (ad 12 (nA σ 6 c1) 0), .ref (ad 9 (nA σ 7 c1) 0), .int (nI (nA σ 8 c1)), .ref (ad 16 c1 0), va_rf (if gfa g c1 = true then some (ad 17 c1 0) else none), .int (gsd g c1), .int (σ.1 11 c1), .int (σ.1 9 c1)]) := (px15 hP c1 t3.1 t3.2).2.2
      have r9_8 : f (ad 9 (nA σ 7 c1) 0) = .inr (5, [.int (nI (nA σ 7 c1)), .int (nI (nA σ 0 (nA σ 7 c1))), .int (σ.1 5 (nA σ 7 c1)), .ref (ad 10 (nA σ 7 c1) 0), .int (nI (nA σ 1 (nA σ 7 c1)))]) := (px9 hP _ hcl.2.1.1 hcl.2.1.2).2.2
      refine g_iload (n := 26) hX dX1_enter_24 rfl rfl ?_
      refine g_sipush (n := 29) (v := 1000) hX dX1_enter_26 rfl rfl ?_
      refine g_icmp_gt (n := 32) (tgt := 92) hX dX1_enter_29 rfl (by decide) (fun c29 => absurd c29 (nI_nlt (a := 1000) (b := t) (by omega) (by omega))) (fun c29 => ?_)
      refine g_aload_n (n := 33) hX dX1_enter_32 rfl rfl rfl ?_
      refine g_iload (n := 35) hX dX1_enter_33 rfl rfl ?_
      refine g_pcallV (n := 38) (As := [.int (nI r1)]) (rest := []) hX hE hU hY dX1_enter_35 rfl yv_X2_findRow um_X1_31 (x_findRow2 _ _ K L f (nI r1) (ad 15 c1 0) (nA σ 8 c1) (nA σ 1 (nA σ 7 c1)) (ad 10 (nA σ 7 c1) 0) (ad 12 (nA σ 6 c1) 0) (ad 9 (nA σ 7 c1) 0) (ad 16 c1 0) (if gfa g c1 = true then some (ad 17 c1 0) else none) (nI c1) (gsd g c1) (σ.1 11 c1) (σ.1 9 c1) (nI (nA σ 7 c1)) (nI (nA σ 0 (nA σ 7 c1))) (σ.1 5 (nA σ 7 c1)) (grw ad σ (nA σ 7 c1)) (px15 hP c1 t3.1 t3.2).1 (px15 hP c1 t3.1 t3.2).2.2 (px9 hP _ hcl.2.1.1 hcl.2.1.2).1 (px9 hP _ hcl.2.1.1 hcl.2.1.2).2.2 (px10 hP _ hcl.2.1.1 hcl.2.1.2).1 (px10 hP _ hcl.2.1.1 hcl.2.1.2).2.2 hrc hcl.2.2.1 (nI_le (a := 1) (b := r1) t9 (by omega))) ⟨rfl, rfl⟩ (rm_lt hRm (by omega) rfl) rfl (px15 hP c1 t3.1 t3.2).1 r15_7 rfl rfl rfl (Nat.le_of_ble_eq_true rfl) ⟨by rw [hRm]; show 2 * _ + 0 ≤ 2 * _; omega, by rw [hRm]; show 109 * _ + 0 ≤ 109 * _; omega⟩ (fun v0 w0 hq0 => ?_)
      rw [row_next t9 t10 hcl.2.2.1 hrc, if_pos (by omega)] at hq0; obtain ⟨rfl, rfl⟩ := hq0
      show G Γ (va_pl L f) (2 * (nF σ 3 - n0)) (109 * (nF σ 3 - n0)) 38 [(5, .int (nI t)), (4, .int (nI r1)), (0, .ref (ad 2 0 0)), (1, .ref (ad 12 u 0)), (2, .ref (ad 15 c1 0)), (3, .int (nI d))] [.ref (ad 11 (nA σ 7 c1) r1)]
      refine g_astore (lv' := [(6, .ref (ad 11 (nA σ 7 c1) r1)), (5, .int (nI t)), (4, .int (nI r1)), (0, .ref (ad 2 0 0)), (1, .ref (ad 12 u 0)), (2, .ref (ad 15 c1 0)), (3, .int (nI d))]) (n := 40) hX dX1_enter_38 rfl (by rw [hnL]; rfl) rfl ?_
      refine g_aload (n := 42) hX dX1_enter_40 rfl rfl ?_
      refine g_ifnonnull (tgt := 47) hX dX1_enter_42 (by decide) ?_
      refine g_aload_n (n := 48) hX dX1_enter_47 rfl rfl rfl ?_
      refine g_pcallV (n := 51) (As := []) (rest := []) hX hE hU hY dX1_enter_48 rfl yv_X5_takeStep um_X1_35 hTS ⟨rfl, rfl⟩ (rm_lt hRm (by omega) rfl) rfl (px12 hP u hu1 hu2).1 r12_6 rfl rfl rfl (Nat.le_of_ble_eq_true rfl) ⟨by rw [hRm]; show 2 * _ + 0 ≤ 2 * _; omega, by rw [hRm]; show 109 * _ + 0 ≤ 109 * _; omega⟩ (fun v0 w0 hq0 => ?_)
      obtain ⟨rfl, rfl⟩ := hq0
      show G Γ (va_pl L f) (2 * (nF σ 3 - n0)) (109 * (nF σ 3 - n0)) 51 [(6, .ref (ad 11 (nA σ 7 c1) r1)), (5, .int (nI t)), (4, .int (nI r1)), (0, .ref (ad 2 0 0)), (1, .ref (ad 12 u 0)), (2, .ref (ad 15 c1 0)), (3, .int (nI d))] [.int 0]
      refine g_if_ne (n := 54) (tgt := 66) hX dX1_enter_51 rfl (by decide) (fun c51 => absurd rfl c51) (fun c51 => ?_)
      refine g_aload_n (n := 55) hX dX1_enter_54 rfl rfl rfl ?_
      refine g_bipush (n := 57) (v := 7) hX dX1_enter_55 rfl rfl ?_
      refine g_aload_n (n := 58) hX dX1_enter_57 rfl rfl rfl ?_
      refine g_pget (n := 61) ux_X2 rfl hX hU dX1_enter_58 rfl (px15 hP c1 t3.1 t3.2).1 r15_7 2 rfl uf_X1_21 rfl ?_
      refine g_pcallV (n := 64) (As := [.int 7, .ref (ad 9 (nA σ 7 c1) 0)]) (rest := []) hX hE hU hY dX1_enter_61 rfl yv_X5_abend um_X1_25 hA ⟨rfl, rfl⟩ (rm_lt hRm (by omega) rfl) rfl (px12 hP u hu1 hu2).1 r12_6 rfl rfl rfl (Nat.le_of_ble_eq_true rfl) ⟨by rw [hRm]; show 2 * _ + 0 ≤ 2 * _; omega, by rw [hRm]; show 109 * _ + 0 ≤ 109 * _; omega⟩ (fun v0 w0 hq0 => ?_)
      obtain ⟨rfl, hRO⟩ := hq0
      show G Γ (w0) (2 * (nF σ 3 - n0)) (109 * (nF σ 3 - n0)) 64 [(6, .ref (ad 11 (nA σ 7 c1) r1)), (5, .int (nI t)), (4, .int (nI r1)), (0, .ref (ad 2 0 0)), (1, .ref (ad 12 u 0)), (2, .ref (ad 15 c1 0)), (3, .int (nI d))] []
      refine g_iconst (n := 65) (v := 0) hX dX1_enter_64 rfl rfl ?_
      refine g_widen (kc' := 2 * (nF y.2 3 - n0)) (ks' := 109 * (nF y.2 3 - n0)) (by omega) (by omega) ?_
      exact g_zret hX hR dX1_enter_65 rfl (by have h9 := hpost w0 (by rw [hyv]; exact RO_of hRO hEX (by rw [e3]; exact hn0) hg1 hg2); rw [hyv, bI_f (show ¬ (7 : Int32) = 0 by decide)] at h9; exact h9)
    · simp only [if_neg hs] at hTS
      have hT1 : sA τ 18 u (nI (nA σ 18 u + 1)) = sTk u σ := by unfold sTk; rw [← hτ, ecc, err, ed]
      rw [hT1] at hTS
      obtain ⟨hVT, hT18⟩ := RV_sTk hV hd t7 (by omega) hs
      have aT : ∀ j, j ≠ 16 → j ≠ 18 → j ≠ 23 → (sTk u σ).1 j = σ.1 j := fun j h1 h2 h3 => sTk_arr u σ h1 h2 h3
      have hT23 : (sTk u σ).1 23 d = nI (r1 + 1) := by rw [← hT1, sA_o _ _ _ (show 23 ≠ 18 by decide), ← hτ, sA_s]
      have hT16 : (sTk u σ).1 16 u = (sTk u σ).1 7 c1 := by rw [← hT1, sA_o _ _ _ (show 16 ≠ 18 by decide), sA_o _ _ _ (show 7 ≠ 18 by decide)]; exact h16
      have hT22 : (sTk u σ).1 22 d = nI c1 := by rw [aT 22 (by decide) (by decide) (by decide)]; exact t2
      have n7 : nA (sTk u σ) 7 c1 = nA σ 7 c1 := sTk_n u σ (by decide) (by decide) (by decide) c1
      have n6 : nA (sTk u σ) 6 c1 = u := (sTk_n u σ (by decide) (by decide) (by decide) c1).trans t4
      have n8 : nA (sTk u σ) 8 c1 = nA σ 8 c1 := sTk_n u σ (by decide) (by decide) (by decide) c1
      have n14 : nA (sTk u σ) 14 (13 * u + nA (sTk u σ) 7 c1) = c1 := by rw [n7, sTk_n u σ (by decide) (by decide) (by decide)]; exact t5
      have n10 : ¬ (sTk u σ).1 10 c1 = 0 := by rw [aT 10 (by decide) (by decide) (by decide)]; exact t6
      have n3 : nF (sTk u σ) 3 = nF σ 3 := nF_e (congrFun (sTk_fld u σ) 3)
      have n26 : nF (sTk u σ) 26 = d + 1 := (nF_e (congrFun (sTk_fld u σ) 26)).trans hd
      obtain ⟨m, k2, hmk, hm1, hm2⟩ := it_split k (x := S_it u σ) (by rw [hy]; exact hdone)
      have hSit : S_it u σ = S_step (sTk u σ) c1 r1 := by rw [it_row hpop2 hs, ecc, err]
      obtain ⟨ρ, hρ⟩ : ∃ ρ, itD u (d + 1) m (S_it u σ) = ρ := ⟨_, rfl⟩
      rw [hρ] at hm1 hm2
      rw [hy] at hm2
      obtain ⟨s1, s2, s3, s4, s5⟩ := step_top hVT n26 t3.1 (by rw [n3]; exact t3.2) n6 t9 (by rw [n8]; exact hr8)
      rw [← hSit] at s1 s2 s3 s4 s5
      obtain ⟨q1, q2, q3, q4, q5⟩ := TI_many (d := d + 1) m s1
      rw [hρ] at q1 q2 q3 q4 q5
      rw [hSit] at hρ
      have hnr : nF σ 3 ≤ nF ρ.2 3 := by omega
      have hny2 : nF ρ.2 3 ≤ nF y.2 3 := by rw [hm2]; exact (TI_many k2 q1).2.1
      have hFo := fun (f1 : Nat → va_E) (hP1 : PX K L f1 ad κ g (sTk u σ)) (hL1 : Lk g (sTk u σ) u) => x_follow (gLa Γ) (gD Γ) K L f1 ad κ g (sTk u σ) hP1 u c1 r1 d m ρ hL1 hVT t3.1 (by rw [n3]; exact t3.2) n6 n14 n10 t9 (by rw [n8]; exact hr8) hT16 hT23 n26 hd10 (hIH m (by omega)) hρ hm1
      rw [n7, n3] at hFo
      by_cases hρ0 : ρ.1 = 0
      · have hVρ := q1.1 hρ0
        have h26 : nF ρ.2 26 = d + 1 := by
          have h8 : ¬ d + 1 < nF ρ.2 26 := fun h9 => hm1 ⟨hρ0, h9⟩
          have h7 := q5 s5
          omega
        obtain ⟨c2, r2, w1, w2, w3, w4, w5, w6, w7, w8, w9, w10⟩ := hVρ.top h26
        have hr2 : ρ.2.1 23 d = nI r2 := w8
        have hc22 : nA ρ.2 22 d = c1 := by unfold nA; rw [(q4 d (by omega)).1, s2, hT22, nI_clamp (by omega)]
        have r2_9 : f (ad 2 0 0) = .inr (3, [.ref (ad 1 0 0)]) := (px2 hP).2.2
        have r12_10 : f (ad 12 u 0) = .inr (7, [.ref (ad 13 u 0), .ref (ad 14 u 0), .int (σ.1 12 u), .int (σ.1 13 u), .int (gfl g u), .int (geb g u), .int (σ.1 17 u), .int (σ.1 18 u), .int (nI (nA σ 19 u))]) := (px12 hP u hu1 hu2).2.2
        have r15_11 : f (ad 15 c1 0) = .inr (4, [.int (nI c1), .ref (ad 12 (nA σ 6 c1) 0), .ref (ad 9 (nA σ 7 c1) 0), .int (nI (nA σ 8 c1)), .ref (ad 16 c1 0), va_rf (if gfa g c1 = true then some (ad 17 c1 0) else none), .int (gsd g c1), .int (σ.1 11 c1), .int (σ.1 9 c1)]) := (px15 hP c1 t3.1 t3.2).2.2
        have r9_12 : f (ad 9 (nA σ 7 c1) 0) = .inr (5, [.int (nI (nA σ 7 c1)), .int (nI (nA σ 0 (nA σ 7 c1))), .int (σ.1 5 (nA σ 7 c1)), .ref (ad 10 (nA σ 7 c1) 0), .int (nI (nA σ 1 (nA σ 7 c1)))]) := (px9 hP _ hcl.2.1.1 hcl.2.1.2).2.2
        refine g_iload (n := 26) hX dX1_enter_24 rfl rfl ?_
        refine g_sipush (n := 29) (v := 1000) hX dX1_enter_26 rfl rfl ?_
        refine g_icmp_gt (n := 32) (tgt := 92) hX dX1_enter_29 rfl (by decide) (fun c29 => absurd c29 (nI_nlt (a := 1000) (b := t) (by omega) (by omega))) (fun c29 => ?_)
        refine g_aload_n (n := 33) hX dX1_enter_32 rfl rfl rfl ?_
        refine g_iload (n := 35) hX dX1_enter_33 rfl rfl ?_
        refine g_pcallV (n := 38) (As := [.int (nI r1)]) (rest := []) hX hE hU hY dX1_enter_35 rfl yv_X2_findRow um_X1_31 (x_findRow2 _ _ K L f (nI r1) (ad 15 c1 0) (nA σ 8 c1) (nA σ 1 (nA σ 7 c1)) (ad 10 (nA σ 7 c1) 0) (ad 12 (nA σ 6 c1) 0) (ad 9 (nA σ 7 c1) 0) (ad 16 c1 0) (if gfa g c1 = true then some (ad 17 c1 0) else none) (nI c1) (gsd g c1) (σ.1 11 c1) (σ.1 9 c1) (nI (nA σ 7 c1)) (nI (nA σ 0 (nA σ 7 c1))) (σ.1 5 (nA σ 7 c1)) (grw ad σ (nA σ 7 c1)) (px15 hP c1 t3.1 t3.2).1 (px15 hP c1 t3.1 t3.2).2.2 (px9 hP _ hcl.2.1.1 hcl.2.1.2).1 (px9 hP _ hcl.2.1.1 hcl.2.1.2).2.2 (px10 hP _ hcl.2.1.1 hcl.2.1.2).1 (px10 hP _ hcl.2.1.1 hcl.2.1.2).2.2 hrc hcl.2.2.1 (nI_le (a := 1) (b := r1) t9 (by omega))) ⟨rfl, rfl⟩ (rm_lt hRm (by omega) rfl) rfl (px15 hP c1 t3.1 t3.2).1 r15_11 rfl rfl rfl (Nat.le_of_ble_eq_true rfl) ⟨by rw [hRm]; show 2 * _ + 0 ≤ 2 * _; omega, by rw [hRm]; show 109 * _ + 0 ≤ 109 * _; omega⟩ (fun v0 w0 hq0 => ?_)
        rw [row_next t9 t10 hcl.2.2.1 hrc, if_pos (by omega)] at hq0; obtain ⟨rfl, rfl⟩ := hq0
        show G Γ (va_pl L f) (2 * (nF σ 3 - n0)) (109 * (nF σ 3 - n0)) 38 [(5, .int (nI t)), (4, .int (nI r1)), (0, .ref (ad 2 0 0)), (1, .ref (ad 12 u 0)), (2, .ref (ad 15 c1 0)), (3, .int (nI d))] [.ref (ad 11 (nA σ 7 c1) r1)]
        refine g_astore (lv' := [(6, .ref (ad 11 (nA σ 7 c1) r1)), (5, .int (nI t)), (4, .int (nI r1)), (0, .ref (ad 2 0 0)), (1, .ref (ad 12 u 0)), (2, .ref (ad 15 c1 0)), (3, .int (nI d))]) (n := 40) hX dX1_enter_38 rfl (by rw [hnL]; rfl) rfl ?_
        refine g_aload (n := 42) hX dX1_enter_40 rfl rfl ?_
        refine g_ifnonnull (tgt := 47) hX dX1_enter_42 (by decide) ?_
        refine g_aload_n (n := 48) hX dX1_enter_47 rfl rfl rfl ?_
        refine g_pcallV (n := 51) (As := []) (rest := []) hX hE hU hY dX1_enter_48 rfl yv_X5_takeStep um_X1_35 hTS ⟨rfl, rfl⟩ (rm_lt hRm (by omega) rfl) rfl (px12 hP u hu1 hu2).1 r12_10 rfl rfl rfl (Nat.le_of_ble_eq_true rfl) ⟨by rw [hRm]; show 2 * _ + 0 ≤ 2 * _; omega, by rw [hRm]; show 109 * _ + 0 ≤ 109 * _; omega⟩ (fun v0 w0 hq0 => ?_)
        obtain ⟨rfl, f1, rfl, hP1, hL1⟩ := hq0
        show G Γ (va_pl L f1) (2 * (nF σ 3 - n0)) (109 * (nF σ 3 - n0)) 51 [(6, .ref (ad 11 (nA σ 7 c1) r1)), (5, .int (nI t)), (4, .int (nI r1)), (0, .ref (ad 2 0 0)), (1, .ref (ad 12 u 0)), (2, .ref (ad 15 c1 0)), (3, .int (nI d))] [.int 1]
        refine g_if_ne (n := 54) (tgt := 66) hX dX1_enter_51 rfl (by decide) (fun c51 => ?_) (fun c51 => absurd c51 (by decide))
        refine g_aload_n (n := 67) hX dX1_enter_66 rfl rfl rfl ?_
        refine g_aload_n (n := 68) hX dX1_enter_67 rfl rfl rfl ?_
        refine g_aload_n (n := 69) hX dX1_enter_68 rfl rfl rfl ?_
        refine g_aload (n := 71) hX dX1_enter_69 rfl rfl ?_
        refine g_iload (n := 73) hX dX1_enter_71 rfl rfl ?_
        refine g_iload_n (n := 74) hX dX1_enter_73 rfl rfl rfl ?_
        refine g_pcallV (n := 77) (As := [.ref (ad 12 u 0), .ref (ad 15 c1 0), .ref (ad 11 (nA σ 7 c1) r1), .int (nI r1), .int (nI d)]) (rest := []) hX hE hU hY dX1_enter_74 rfl yv_X1_follow um_X1_38 (hFo f1 hP1 hL1) ⟨rfl, rfl⟩ (rm_lt hRm (by omega) rfl) rfl (px2 hP1).1 (px2 hP1).2.2 rfl rfl rfl (Nat.le_of_ble_eq_true rfl) ⟨by rw [hRm]; show 2 * _ + 2 * _ ≤ 2 * _; omega, by rw [hRm]; show 109 * _ + 109 * _ ≤ 109 * _; omega⟩ (fun v0 w0 hq0 => ?_)
        rw [if_pos hρ0, hr2] at hq0; obtain ⟨rfl, hRO⟩ := hq0
        show G Γ (w0) (2 * (nF σ 3 - n0) + 2 * (nF ρ.2 3 - nF σ 3)) (109 * (nF σ 3 - n0) + 109 * (nF ρ.2 3 - nF σ 3)) 77 [(6, .ref (ad 11 (nA σ 7 c1) r1)), (5, .int (nI t)), (4, .int (nI r1)), (0, .ref (ad 2 0 0)), (1, .ref (ad 12 u 0)), (2, .ref (ad 15 c1 0)), (3, .int (nI d))] [.int (nI r2)]
        refine g_istore (lv' := [(4, .int (nI r2)), (6, .ref (ad 11 (nA σ 7 c1) r1)), (5, .int (nI t)), (0, .ref (ad 2 0 0)), (1, .ref (ad 12 u 0)), (2, .ref (ad 15 c1 0)), (3, .int (nI d))]) (n := 79) hX dX1_enter_77 rfl (by rw [hnL]; rfl) rfl ?_
        refine g_iload (n := 81) hX dX1_enter_79 rfl rfl ?_
        refine g_if_ne (n := 84) (tgt := 86) hX dX1_enter_81 rfl (by decide) (fun c81 => ?_) (fun c81 => absurd c81 (nI_ne0 w9 (by omega)))
        refine g_iinc (n := 89) (v := nI (t + 1)) (lv' := [(5, .int (nI (t + 1))), (4, .int (nI r2)), (6, .ref (ad 11 (nA σ 7 c1) r1)), (0, .ref (ad 2 0 0)), (1, .ref (ad 12 u 0)), (2, .ref (ad 15 c1 0)), (3, .int (nI d))]) hX dX1_enter_86 rfl rfl (nI_1 t) (by rw [hnL]; rfl) rfl ?_
        refine g_goto (n := 24) hX dX1_enter_89 (by decide) ?_
        obtain ⟨L2, f2, ad2, κ2, g2, rfl, hP2, hL2, hEX2, hge⟩ := hRO
        have hge : gfl g2 u = gfl g u ∧ geb g2 u = geb g u := ⟨hge.1.trans (if_pos (Or.inl hρ0)), hge.2.trans (if_pos hρ0)⟩
        rw [show 2 * (nF σ 3 - n0) + 2 * (nF ρ.2 3 - nF σ 3) = 2 * (nF ρ.2 3 - n0) by omega, show 109 * (nF σ 3 - n0) + 109 * (nF ρ.2 3 - nF σ 3) = 109 * (nF ρ.2 3 - n0) by omega]
        refine g_pick (lv' := [(5, .int (nI (t + 1))), (4, .int (nI r2)), (0, .ref (ad 2 0 0)), (1, .ref (ad 12 u 0)), (2, .ref (ad 15 c1 0)), (3, .int (nI d))]) [0, 1, 3, 4, 5, 6] rfl ?_
        exact ih k2 (by omega) (by omega) L2 f2 ad2 κ2 g2 ρ.2 (t + 1) r2 _ _ _ hP2 hL2 hVρ h26 hc22 w7 (by omega) (EX_tr hEX hEX2 hn0) (hge.1.trans hg1) (hge.2.trans hg2) (by omega) (by rw [show ((0, ρ.2) : Int32 × MS) = ρ from Prod.ext hρ0.symm rfl]; exact hm2.symm) (hEX2 2 0 0 (Or.inl ⟨by decide, by decide⟩)) (hEX2 12 u 0 (Or.inl ⟨by decide, by decide⟩)) (hEX2 15 c1 0 (Or.inr t3.2))
      · have hyv : y = ρ := by rw [hm2]; exact itD_stop (fun h9 => hρ0 h9.1)
        have r2_13 : f (ad 2 0 0) = .inr (3, [.ref (ad 1 0 0)]) := (px2 hP).2.2
        have r12_14 : f (ad 12 u 0) = .inr (7, [.ref (ad 13 u 0), .ref (ad 14 u 0), .int (σ.1 12 u), .int (σ.1 13 u), .int (gfl g u), .int (geb g u), .int (σ.1 17 u), .int (σ.1 18 u), .int (nI (nA σ 19 u))]) := (px12 hP u hu1 hu2).2.2
        have r15_15 : f (ad 15 c1 0) = .inr (4, [.int (nI c1), .ref (ad 12 (nA σ 6 c1) 0), .ref (ad 9 (nA σ 7 c1) 0), .int (nI (nA σ 8 c1)), .ref (ad 16 c1 0), va_rf (if gfa g c1 = true then some (ad 17 c1 0) else none), .int (gsd g c1), .int (σ.1 11 c1), .int (σ.1 9 c1)]) := (px15 hP c1 t3.1 t3.2).2.2
        have r9_16 : f (ad 9 (nA σ 7 c1) 0) = .inr (5, [.int (nI (nA σ 7 c1)), .int (nI (nA σ 0 (nA σ 7 c1))), .int (σ.1 5 (nA σ 7 c1)), .ref (ad 10 (nA σ 7 c1) 0), .int (nI (nA σ 1 (nA σ 7 c1)))]) := (px9 hP _ hcl.2.1.1 hcl.2.1.2).2.2
        refine g_iload (n := 26) hX dX1_enter_24 rfl rfl ?_
        refine g_sipush (n := 29) (v := 1000) hX dX1_enter_26 rfl rfl ?_
        refine g_icmp_gt (n := 32) (tgt := 92) hX dX1_enter_29 rfl (by decide) (fun c29 => absurd c29 (nI_nlt (a := 1000) (b := t) (by omega) (by omega))) (fun c29 => ?_)
        refine g_aload_n (n := 33) hX dX1_enter_32 rfl rfl rfl ?_
        refine g_iload (n := 35) hX dX1_enter_33 rfl rfl ?_
        refine g_pcallV (n := 38) (As := [.int (nI r1)]) (rest := []) hX hE hU hY dX1_enter_35 rfl yv_X2_findRow um_X1_31 (x_findRow2 _ _ K L f (nI r1) (ad 15 c1 0) (nA σ 8 c1) (nA σ 1 (nA σ 7 c1)) (ad 10 (nA σ 7 c1) 0) (ad 12 (nA σ 6 c1) 0) (ad 9 (nA σ 7 c1) 0) (ad 16 c1 0) (if gfa g c1 = true then some (ad 17 c1 0) else none) (nI c1) (gsd g c1) (σ.1 11 c1) (σ.1 9 c1) (nI (nA σ 7 c1)) (nI (nA σ 0 (nA σ 7 c1))) (σ.1 5 (nA σ 7 c1)) (grw ad σ (nA σ 7 c1)) (px15 hP c1 t3.1 t3.2).1 (px15 hP c1 t3.1 t3.2).2.2 (px9 hP _ hcl.2.1.1 hcl.2.1.2).1 (px9 hP _ hcl.2.1.1 hcl.2.1.2).2.2 (px10 hP _ hcl.2.1.1 hcl.2.1.2).1 (px10 hP _ hcl.2.1.1 hcl.2.1.2).2.2 hrc hcl.2.2.1 (nI_le (a := 1) (b := r1) t9 (by omega))) ⟨rfl, rfl⟩ (rm_lt hRm (by omega) rfl) rfl (px15 hP c1 t3.1 t3.2).1 r15_15 rfl rfl rfl (Nat.le_of_ble_eq_true rfl) ⟨by rw [hRm]; show 2 * _ + 0 ≤ 2 * _; omega, by rw [hRm]; show 109 * _ + 0 ≤ 109 * _; omega⟩ (fun v0 w0 hq0 => ?_)
        rw [row_next t9 t10 hcl.2.2.1 hrc, if_pos (by omega)] at hq0; obtain ⟨rfl, rfl⟩ := hq0
        show G Γ (va_pl L f) (2 * (nF σ 3 - n0)) (109 * (nF σ 3 - n0)) 38 [(5, .int (nI t)), (4, .int (nI r1)), (0, .ref (ad 2 0 0)), (1, .ref (ad 12 u 0)), (2, .ref (ad 15 c1 0)), (3, .int (nI d))] [.ref (ad 11 (nA σ 7 c1) r1)]
        refine g_astore (lv' := [(6, .ref (ad 11 (nA σ 7 c1) r1)), (5, .int (nI t)), (4, .int (nI r1)), (0, .ref (ad 2 0 0)), (1, .ref (ad 12 u 0)), (2, .ref (ad 15 c1 0)), (3, .int (nI d))]) (n := 40) hX dX1_enter_38 rfl (by rw [hnL]; rfl) rfl ?_
        refine g_aload (n := 42) hX dX1_enter_40 rfl rfl ?_
        refine g_ifnonnull (tgt := 47) hX dX1_enter_42 (by decide) ?_
        refine g_aload_n (n := 48) hX dX1_enter_47 rfl rfl rfl ?_
        refine g_pcallV (n := 51) (As := []) (rest := []) hX hE hU hY dX1_enter_48 rfl yv_X5_takeStep um_X1_35 hTS ⟨rfl, rfl⟩ (rm_lt hRm (by omega) rfl) rfl (px12 hP u hu1 hu2).1 r12_14 rfl rfl rfl (Nat.le_of_ble_eq_true rfl) ⟨by rw [hRm]; show 2 * _ + 0 ≤ 2 * _; omega, by rw [hRm]; show 109 * _ + 0 ≤ 109 * _; omega⟩ (fun v0 w0 hq0 => ?_)
        obtain ⟨rfl, f1, rfl, hP1, hL1⟩ := hq0
        show G Γ (va_pl L f1) (2 * (nF σ 3 - n0)) (109 * (nF σ 3 - n0)) 51 [(6, .ref (ad 11 (nA σ 7 c1) r1)), (5, .int (nI t)), (4, .int (nI r1)), (0, .ref (ad 2 0 0)), (1, .ref (ad 12 u 0)), (2, .ref (ad 15 c1 0)), (3, .int (nI d))] [.int 1]
        refine g_if_ne (n := 54) (tgt := 66) hX dX1_enter_51 rfl (by decide) (fun c51 => ?_) (fun c51 => absurd c51 (by decide))
        refine g_aload_n (n := 67) hX dX1_enter_66 rfl rfl rfl ?_
        refine g_aload_n (n := 68) hX dX1_enter_67 rfl rfl rfl ?_
        refine g_aload_n (n := 69) hX dX1_enter_68 rfl rfl rfl ?_
        refine g_aload (n := 71) hX dX1_enter_69 rfl rfl ?_
        refine g_iload (n := 73) hX dX1_enter_71 rfl rfl ?_
        refine g_iload_n (n := 74) hX dX1_enter_73 rfl rfl rfl ?_
        refine g_pcallV (n := 77) (As := [.ref (ad 12 u 0), .ref (ad 15 c1 0), .ref (ad 11 (nA σ 7 c1) r1), .int (nI r1), .int (nI d)]) (rest := []) hX hE hU hY dX1_enter_74 rfl yv_X1_follow um_X1_38 (hFo f1 hP1 hL1) ⟨rfl, rfl⟩ (rm_lt hRm (by omega) rfl) rfl (px2 hP1).1 (px2 hP1).2.2 rfl rfl rfl (Nat.le_of_ble_eq_true rfl) ⟨by rw [hRm]; show 2 * _ + 2 * _ ≤ 2 * _; omega, by rw [hRm]; show 109 * _ + 109 * _ ≤ 109 * _; omega⟩ (fun v0 w0 hq0 => ?_)
        rw [if_neg hρ0] at hq0; obtain ⟨rfl, hRO⟩ := hq0
        show G Γ (w0) (2 * (nF σ 3 - n0) + 2 * (nF ρ.2 3 - nF σ 3)) (109 * (nF σ 3 - n0) + 109 * (nF ρ.2 3 - nF σ 3)) 77 [(6, .ref (ad 11 (nA σ 7 c1) r1)), (5, .int (nI t)), (4, .int (nI r1)), (0, .ref (ad 2 0 0)), (1, .ref (ad 12 u 0)), (2, .ref (ad 15 c1 0)), (3, .int (nI d))] [.int 0]
        refine g_istore (lv' := [(4, .int 0), (6, .ref (ad 11 (nA σ 7 c1) r1)), (5, .int (nI t)), (0, .ref (ad 2 0 0)), (1, .ref (ad 12 u 0)), (2, .ref (ad 15 c1 0)), (3, .int (nI d))]) (n := 79) hX dX1_enter_77 rfl (by rw [hnL]; rfl) rfl ?_
        refine g_iload (n := 81) hX dX1_enter_79 rfl rfl ?_
        refine g_if_ne (n := 84) (tgt := 86) hX dX1_enter_81 rfl (by decide) (fun c81 => absurd rfl c81) (fun c81 => ?_)
        refine g_iconst (n := 85) (v := 0) hX dX1_enter_84 rfl rfl ?_
        refine g_widen (kc' := 2 * (nF y.2 3 - n0)) (ks' := 109 * (nF y.2 3 - n0)) (by omega) (by omega) ?_
        exact g_zret hX hR dX1_enter_85 rfl (by have h9 := hpost w0 (by rw [hyv]; exact RO_of hRO hEX hn0 hg1 hg2); rw [hyv, bI_f hρ0] at h9; exact h9)

