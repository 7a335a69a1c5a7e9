theorem rm_lt {Γ : gT} {h1 h2 a b c d maxL : Nat} (hR : gRm Γ = rmL h2 c d) (hh : h1 < h2) (hm : Nat.ble maxL 21 = true) : (rmL h1 a b).frames + 1 ≤ (gRm Γ).frames ∧ 8 + (maxL + 11) + (rmL h1 a b).locals ≤ (gRm Γ).locals := rm_le hR (Nat.ble_eq_true_of_le hh) hm
theorem RO_of {K : Nat → ClassId} {ad ad' : AD} {g g' : GX} {n m u : Nat} {y : Int32 × MS} {w : va_W} (h : RO K ad' g' m u y w) (hE : EX ad ad' n) (hm : n ≤ m) (h1 : gfl g' u = gfl g u) (h2 : geb g' u = geb g u) : RO K ad g n u y w := by
  obtain ⟨L1, f1, ad1, κ1, g1, a1, a2, a3, a4, a5⟩ := h
  exact ⟨L1, f1, ad1, κ1, g1, a1, a2, a3, EX_tr hE a4 hm, gEn_eq h1 h2 a5⟩
set_option maxHeartbeats 4000000 in
set_option maxRecDepth 100000 in
theorem r_called0 (l : Launch) (D : va_G) (K : Nat → ClassId) (L : List Nat) (f : Nat → va_E) (ad : AD) (κ : TG) (g : GX) (σ : MS) (hP : PX K L f ad κ g σ) (hJ : Inv σ) (u : Nat) (hu1 : 1 ≤ u) (hu2 : u ≤ nF σ 2) : Mc l yX1_calledClass (wM yX1_calledClass cX1_calledClass 4 (some (.object "ClassMaker4$MadeClass"))) (rmL 0 0 0) D (yY K) [.ref (ad 2 0 0), .ref (ad 12 u 0), .null] (va_pl L f) (fun v w => v = some (.null) ∧ w = va_pl L f) 0 0 := by
  refine m_start (lv := [(0, .ref (ad 2 0 0)), (1, .ref (ad 12 u 0)), (2, .null)]) rfl (Nat.le_of_ble_eq_true rfl) rfl (fun Γ hX hRm hnL hY hDD hLa hR hI hE => ?_)
  have hU : ∀ w ∈ wU, w ∈ wM yX1_calledClass cX1_calledClass 4 (some (.object "ClassMaker4$MadeClass")) := fun w h => wM_in h
  subst hLa
  subst hDD
  have hI := hJ
  have r2_1 : f (ad 2 0 0) = .inr (3, [.ref (ad 1 0 0)]) := (px2 hP).2.2
  have r1_2 : f (ad 1 0 0) = .inr (8, [.ref (ad 6 0 0), .ref (ad 7 0 0), .int (nI (nF σ 1)), .int (nI (nF σ 3))]) := (px1 hP).2.2
  have r12_3 : f (ad 12 u 0) = .inr (7, [.ref (ad 13 u 0), .ref (ad 14 u 0), .int (σ.1 12 u), .int (σ.1 13 u), .int (gfl g u), .int (geb g u), .int (σ.1 17 u), .int (σ.1 18 u), .int (nI (nA σ 19 u))]) := (px12 hP u hu1 hu2).2.2
  refine g_aload_nN (n := 1) hX dX1_calledClass_0 rfl rfl rfl ?_
  refine g_ifnonnullN (n := 4) hX dX1_calledClass_1 rfl ?_
  refine g_null (n := 5) hX dX1_calledClass_4 rfl ?_
  exact g_aret hX hR dX1_calledClass_5 (Or.inl ⟨_, rfl⟩) (Or.inl rfl) ⟨rfl, rfl⟩

set_option maxHeartbeats 4000000 in
set_option maxRecDepth 100000 in
theorem r_calledL (l : Launch) (D : va_G) (K : Nat → ClassId) (L : List Nat) (f : Nat → va_E) (ad : AD) (κ : TG) (g : GX) (σ : MS) (hP : PX K L f ad κ g σ) (hJ : Inv σ) (u p : Nat) (hu1 : 1 ≤ u) (hu2 : u ≤ nF σ 2) (hp1 : 1 ≤ p) (hp2 : p ≤ nF σ 1) (c : Nat) (hlat : nA σ 14 (13 * u + p) = c) (hc0 : c ≠ 0) : Mc l yX1_calledClass (wM yX1_calledClass cX1_calledClass 4 (some (.object "ClassMaker4$MadeClass"))) (rmL 1 0 0) D (yY K) [.ref (ad 2 0 0), .ref (ad 12 u 0), .ref (ad 9 p 0)] (va_pl L f) (fun v w => v = some (.ref (ad 15 c 0)) ∧ w = va_pl L f) 0 0 := by
  refine m_start (lv := [(0, .ref (ad 2 0 0)), (1, .ref (ad 12 u 0)), (2, .ref (ad 9 p 0))]) rfl (Nat.le_of_ble_eq_true rfl) rfl (fun Γ hX hRm hnL hY hDD hLa hR hI hE => ?_)
  have hU : ∀ w ∈ wU, w ∈ wM yX1_calledClass cX1_calledClass 4 (some (.object "ClassMaker4$MadeClass")) := fun w h => wM_in h
  subst hLa
  subst hDD
  have hI := hJ
  have r2_4 : f (ad 2 0 0) = .inr (3, [.ref (ad 1 0 0)]) := (px2 hP).2.2
  have r1_5 : f (ad 1 0 0) = .inr (8, [.ref (ad 6 0 0), .ref (ad 7 0 0), .int (nI (nF σ 1)), .int (nI (nF σ 3))]) := (px1 hP).2.2
  have r12_6 : f (ad 12 u 0) = .inr (7, [.ref (ad 13 u 0), .ref (ad 14 u 0), .int (σ.1 12 u), .int (σ.1 13 u), .int (gfl g u), .int (geb g u), .int (σ.1 17 u), .int (σ.1 18 u), .int (nI (nA σ 19 u))]) := (px12 hP u hu1 hu2).2.2
  have r9_7 : f (ad 9 p 0) = .inr (5, [.int (nI p), .int (nI (nA σ 0 p)), .int (σ.1 5 p), .ref (ad 10 p 0), .int (nI (nA σ 1 p))]) := (px9 hP p hp1 hp2).2.2
  refine g_aload_n (n := 1) hX dX1_calledClass_0 rfl rfl rfl ?_
  refine g_ifnonnull (tgt := 6) hX dX1_calledClass_1 (by decide) ?_
  refine g_aload_n (n := 7) hX dX1_calledClass_6 rfl rfl rfl ?_
  refine g_aload_n (n := 8) hX dX1_calledClass_7 rfl rfl rfl ?_
  refine g_pcallV (n := 11) (As := [.ref (ad 9 p 0)]) (rest := []) hX hE hU hY dX1_calledClass_8 rfl yv_X5_latestOf um_X1_87 (r_latestY _ _ hP hI hu1 hu2 hp1 hp2 hlat hc0) ⟨rfl, rfl⟩ (rm_le hRm rfl rfl) rfl (px12 hP u hu1 hu2).1 r12_6 rfl rfl rfl (Nat.le_of_ble_eq_true rfl) ⟨Nat.zero_le _, Nat.zero_le _⟩ (fun v0 w0 hq0 => ?_)
  obtain ⟨rfl, rfl⟩ := hq0
  show G Γ (va_pl L f) 0 0 11 [(0, .ref (ad 2 0 0)), (1, .ref (ad 12 u 0)), (2, .ref (ad 9 p 0))] [.ref (ad 15 c 0)]
  refine g_astore_n (lv' := [(3, .ref (ad 15 c 0)), (0, .ref (ad 2 0 0)), (1, .ref (ad 12 u 0)), (2, .ref (ad 9 p 0))]) (n := 12) hX dX1_calledClass_11 rfl rfl (by rw [hnL]; rfl) rfl ?_
  refine g_aload_n (n := 13) hX dX1_calledClass_12 rfl rfl rfl ?_
  refine g_ifnull (n := 16) hX dX1_calledClass_13 rfl ?_
  refine g_aload_n (n := 17) hX dX1_calledClass_16 rfl rfl rfl ?_
  refine g_goto (n := 29) hX dX1_calledClass_17 (by decide) ?_
  exact g_aret hX hR dX1_calledClass_29 (Or.inl ⟨_, rfl⟩) (Or.inr ⟨_, rfl⟩) ⟨rfl, rfl⟩

set_option maxHeartbeats 4000000 in
set_option maxRecDepth 100000 in
theorem r_calledF (l : Launch) (D : va_G) (K : Nat → ClassId) (L : List Nat) (f : Nat → va_E) (ad : AD) (κ : TG) (g : GX) (σ : MS) (hP : PX K L f ad κ g σ) (hJ : Inv σ) (u p : Nat) (hu1 : 1 ≤ u) (hu2 : u ≤ nF σ 2) (hp1 : 1 ≤ p) (hp2 : p ≤ nF σ 1) (hlat : nA σ 14 (13 * u + p) = 0) (hnc : nF σ 3 = 40) : Mc l yX1_calledClass (wM yX1_calledClass cX1_calledClass 4 (some (.object "ClassMaker4$MadeClass"))) (rmL 2 0 0) D (yY K) [.ref (ad 2 0 0), .ref (ad 12 u 0), .ref (ad 9 p 0)] (va_pl L f) (fun v w => v = some (.null) ∧ w = va_pl L f) 0 0 := by
  refine m_start (lv := [(0, .ref (ad 2 0 0)), (1, .ref (ad 12 u 0)), (2, .ref (ad 9 p 0))]) rfl (Nat.le_of_ble_eq_true rfl) rfl (fun Γ hX hRm hnL hY hDD hLa hR hI hE => ?_)
  have hU : ∀ w ∈ wU, w ∈ wM yX1_calledClass cX1_calledClass 4 (some (.object "ClassMaker4$MadeClass")) := fun w h => wM_in h
  subst hLa
  subst hDD
  have hI := hJ
  have r2_8 : f (ad 2 0 0) = .inr (3, [.ref (ad 1 0 0)]) := (px2 hP).2.2
  have r1_9 : f (ad 1 0 0) = .inr (8, [.ref (ad 6 0 0), .ref (ad 7 0 0), .int (nI (nF σ 1)), .int (nI (nF σ 3))]) := (px1 hP).2.2
  have r12_10 : f (ad 12 u 0) = .inr (7, [.ref (ad 13 u 0), .ref (ad 14 u 0), .int (σ.1 12 u), .int (σ.1 13 u), .int (gfl g u), .int (geb g u), .int (σ.1 17 u), .int (σ.1 18 u), .int (nI (nA σ 19 u))]) := (px12 hP u hu1 hu2).2.2
  have r9_11 : f (ad 9 p 0) = .inr (5, [.int (nI p), .int (nI (nA σ 0 p)), .int (σ.1 5 p), .ref (ad 10 p 0), .int (nI (nA σ 1 p))]) := (px9 hP p hp1 hp2).2.2
  refine g_aload_n (n := 1) hX dX1_calledClass_0 rfl rfl rfl ?_
  refine g_ifnonnull (tgt := 6) hX dX1_calledClass_1 (by decide) ?_
  refine g_aload_n (n := 7) hX dX1_calledClass_6 rfl rfl rfl ?_
  refine g_aload_n (n := 8) hX dX1_calledClass_7 rfl rfl rfl ?_
  refine g_pcallV (n := 11) (As := [.ref (ad 9 p 0)]) (rest := []) hX hE hU hY dX1_calledClass_8 rfl yv_X5_latestOf um_X1_87 (r_latestN _ _ hP hI hu1 hu2 hp1 hp2 hlat) ⟨rfl, rfl⟩ (rm_le hRm rfl rfl) rfl (px12 hP u hu1 hu2).1 r12_10 rfl rfl rfl (Nat.le_of_ble_eq_true rfl) ⟨Nat.zero_le _, Nat.zero_le _⟩ (fun v0 w0 hq0 => ?_)
  obtain ⟨rfl, rfl⟩ := hq0
  show G Γ (va_pl L f) 0 0 11 [(0, .ref (ad 2 0 0)), (1, .ref (ad 12 u 0)), (2, .ref (ad 9 p 0))] [.null]
  refine g_astore_nN (lv' := [(3, .null), (0, .ref (ad 2 0 0)), (1, .ref (ad 12 u 0)), (2, .ref (ad 9 p 0))]) (n := 12) hX dX1_calledClass_11 rfl rfl (by rw [hnL]; rfl) rfl ?_
  refine g_aload_nN (n := 13) hX dX1_calledClass_12 rfl rfl rfl ?_
  refine g_ifnullN (tgt := 20) hX dX1_calledClass_13 (by decide) ?_
  refine g_aload_n (n := 21) hX dX1_calledClass_20 rfl rfl rfl ?_
  refine g_pget (n := 24) ux_X1 rfl hX hU dX1_calledClass_21 rfl (px2 hP).1 r2_8 0 rfl uf_X1_9 rfl ?_
  refine g_aload_n (n := 25) hX dX1_calledClass_24 rfl rfl rfl ?_
  refine g_aload_n (n := 26) hX dX1_calledClass_25 rfl rfl rfl ?_
  refine g_pcallV (n := 29) (As := [.ref (ad 12 u 0), .ref (ad 9 p 0)]) (rest := []) hX hE hU hY dX1_calledClass_26 rfl yv_X6_classFor um_X1_91 (r_classForF _ _ hP hI hu1 hu2 hp1 hp2 hlat hnc) ⟨rfl, rfl⟩ (rm_le hRm rfl rfl) rfl (px1 hP).1 r1_9 rfl rfl rfl (Nat.le_of_ble_eq_true rfl) ⟨Nat.zero_le _, Nat.zero_le _⟩ (fun v0 w0 hq0 => ?_)
  obtain ⟨rfl, rfl⟩ := hq0
  show G Γ (va_pl L f) 0 0 29 [(3, .null), (0, .ref (ad 2 0 0)), (1, .ref (ad 12 u 0)), (2, .ref (ad 9 p 0))] [.null]
  exact g_aret hX hR dX1_calledClass_29 (Or.inl ⟨_, rfl⟩) (Or.inl rfl) ⟨rfl, rfl⟩

set_option maxHeartbeats 4000000 in
set_option maxRecDepth 100000 in
theorem r_calledN (l : Launch) (D : va_G) (K : Nat → ClassId) (L : List Nat) (f : Nat → va_E) (ad : AD) (κ : TG) (g : GX) (σ : MS) (hP : PX K L f ad κ g σ) (hJ : Inv σ) (u p : Nat) (hu1 : 1 ≤ u) (hu2 : u ≤ nF σ 2) (hp1 : 1 ≤ p) (hp2 : p ≤ nF σ 1) (run : Nat) (hL : Lk g σ run) (hlat : nA σ 14 (13 * u + p) = 0) (hnc : nF σ 3 < 40) : Mc l yX1_calledClass (wM yX1_calledClass cX1_calledClass 4 (some (.object "ClassMaker4$MadeClass"))) (rmL 3 2 109) D (yY K) [.ref (ad 2 0 0), .ref (ad 12 u 0), .ref (ad 9 p 0)] (va_pl L f) (CFP K ad g σ (sM σ u p) run) 2 109 := by
  refine m_start (lv := [(0, .ref (ad 2 0 0)), (1, .ref (ad 12 u 0)), (2, .ref (ad 9 p 0))]) rfl (Nat.le_of_ble_eq_true rfl) rfl (fun Γ hX hRm hnL hY hDD hLa hR hI hE => ?_)
  have hU : ∀ w ∈ wU, w ∈ wM yX1_calledClass cX1_calledClass 4 (some (.object "ClassMaker4$MadeClass")) := fun w h => wM_in h
  subst hLa
  subst hDD
  have hI := hJ
  have r2_12 : f (ad 2 0 0) = .inr (3, [.ref (ad 1 0 0)]) := (px2 hP).2.2
  have r1_13 : f (ad 1 0 0) = .inr (8, [.ref (ad 6 0 0), .ref (ad 7 0 0), .int (nI (nF σ 1)), .int (nI (nF σ 3))]) := (px1 hP).2.2
  have r12_14 : f (ad 12 u 0) = .inr (7, [.ref (ad 13 u 0), .ref (ad 14 u 0), .int (σ.1 12 u), .int (σ.1 13 u), .int (gfl g u), .int (geb g u), .int (σ.1 17 u), .int (σ.1 18 u), .int (nI (nA σ 19 u))]) := (px12 hP u hu1 hu2).2.2
  have r9_15 : f (ad 9 p 0) = .inr (5, [.int (nI p), .int (nI (nA σ 0 p)), .int (σ.1 5 p), .ref (ad 10 p 0), .int (nI (nA σ 1 p))]) := (px9 hP p hp1 hp2).2.2
  refine g_aload_n (n := 1) hX dX1_calledClass_0 rfl rfl rfl ?_
  refine g_ifnonnull (tgt := 6) hX dX1_calledClass_1 (by decide) ?_
  refine g_aload_n (n := 7) hX dX1_calledClass_6 rfl rfl rfl ?_
  refine g_aload_n (n := 8) hX dX1_calledClass_7 rfl rfl rfl ?_
  refine g_pcallV (n := 11) (As := [.ref (ad 9 p 0)]) (rest := []) hX hE hU hY dX1_calledClass_8 rfl yv_X5_latestOf um_X1_87 (r_latestN _ _ hP hI hu1 hu2 hp1 hp2 hlat) ⟨rfl, rfl⟩ (rm_le hRm rfl rfl) rfl (px12 hP u hu1 hu2).1 r12_14 rfl rfl rfl (Nat.le_of_ble_eq_true rfl) ⟨Nat.zero_le _, Nat.zero_le _⟩ (fun v0 w0 hq0 => ?_)
  obtain ⟨rfl, rfl⟩ := hq0
  show G Γ (va_pl L f) 0 0 11 [(0, .ref (ad 2 0 0)), (1, .ref (ad 12 u 0)), (2, .ref (ad 9 p 0))] [.null]
  refine g_astore_nN (lv' := [(3, .null), (0, .ref (ad 2 0 0)), (1, .ref (ad 12 u 0)), (2, .ref (ad 9 p 0))]) (n := 12) hX dX1_calledClass_11 rfl rfl (by rw [hnL]; rfl) rfl ?_
  refine g_aload_nN (n := 13) hX dX1_calledClass_12 rfl rfl rfl ?_
  refine g_ifnullN (tgt := 20) hX dX1_calledClass_13 (by decide) ?_
  refine g_aload_n (n := 21) hX dX1_calledClass_20 rfl rfl rfl ?_
  refine g_pget (n := 24) ux_X1 rfl hX hU dX1_calledClass_21 rfl (px2 hP).1 r2_12 0 rfl uf_X1_9 rfl ?_
  refine g_aload_n (n := 25) hX dX1_calledClass_24 rfl rfl rfl ?_
  refine g_aload_n (n := 26) hX dX1_calledClass_25 rfl rfl rfl ?_
  refine g_pcallV (n := 29) (As := [.ref (ad 12 u 0), .ref (ad 9 p 0)]) (rest := []) hX hE hU hY dX1_calledClass_26 rfl yv_X6_classFor um_X1_91 (r_classForN _ _ hP hI hu1 hu2 hp1 hp2 hL hlat hnc) ⟨rfl, rfl⟩ (rm_le hRm rfl rfl) rfl (px1 hP).1 r1_13 rfl rfl rfl (Nat.le_of_ble_eq_true rfl) (by rw [hRm]; decide) (fun v0 w0 hq0 => ?_)
  obtain ⟨L1, f1, ad1, κ1, g1, rfl, rfl, hP1, hL1, hEX, hg1, hg2⟩ := hq0
  show G Γ (va_pl L1 f1) 2 109 29 [(3, .null), (0, .ref (ad 2 0 0)), (1, .ref (ad 12 u 0)), (2, .ref (ad 9 p 0))] [.ref (ad1 15 (nF σ 3 + 1) 0)]
  exact g_aret hX hR dX1_calledClass_29 (Or.inl ⟨_, rfl⟩) (Or.inr ⟨_, rfl⟩) ⟨L1, f1, ad1, κ1, g1, rfl, rfl, hP1, hL1, hEX, hg1, hg2⟩

/-- the contract of Machine.enter, where the run comes to its end within m turns -/
def EnterC (l : Launch) (D : va_G) (K : Nat → ClassId) (u m : Nat) : Prop := ∀ (L : List Nat) (f : Nat → va_E) (ad : AD) (κ : TG) (g : GX) (σ : MS) (c d : Nat) (y : Int32 × MS), PX K L f ad κ g σ → Lk g σ u → RV u σ → 1 ≤ c → c ≤ nF σ 3 → nA σ 6 c = u → nA σ 14 (13 * u + nA σ 7 c) = c → nF σ 26 = d → d ≤ 10 → itD u d m (S_enter σ c) = y → doneD d y → Mc l yX1_enter (wM yX1_enter cX1_enter 7 (some .boolean)) (rmL (3 * (10 - d) + 7) (2 * (nF y.2 3 - nF σ 3)) (109 * (nF y.2 3 - nF σ 3))) D (yY K) [.ref (ad 2 0 0), .ref (ad 12 u 0), .ref (ad 15 c 0), .int (nI d)] (va_pl L f) (fun v w => v = some (.int (bI (y.1 = 0))) ∧ RO K ad g (nF σ 3) u y w) (2 * (nF y.2 3 - nF σ 3)) (109 * (nF y.2 3 - nF σ 3))
set_option maxHeartbeats 4000000 in
set_option maxRecDepth 100000 in
theorem x_callProgram (l : Launch) (D : va_G) (K : Nat → ClassId) (L : List Nat) (f : Nat → va_E) (ad : AD) (κ : TG) (g : GX) (σ : MS) (hP : PX K L f ad κ g σ) (u c d q m : Nat) (y : Int32 × MS) (hL : Lk g σ u) (hV : RV u σ) (hc1 : 1 ≤ c) (hc2 : c ≤ nF σ 3) (h16 : σ.1 16 u = σ.1 7 c) (hq1 : 1 ≤ q) (hq12 : q ≤ 12) (hd : nF σ 26 = d + 1) (hd10 : d ≤ 10) (hIH : EnterC l D K u m) (hy : itD u (d + 1) m (S_called σ u (nI q)) = y) (hdone : doneD (d + 1) y) : Mc l yX1_callProgram (wM yX1_callProgram cX1_callProgram 6 (some .boolean)) (rmL (3 * (10 - d) + 5) (2 * (nF y.2 3 - nF σ 3)) (109 * (nF y.2 3 - nF σ 3))) D (yY K) [.ref (ad 2 0 0), .ref (ad 12 u 0), .ref (ad 15 c 0), .int (nI q), .int (nI d)] (va_pl L f) (fun v w => v = some (.int (bI (y.1 = 0))) ∧ RO K ad g (nF σ 3) u y w) (2 * (nF y.2 3 - nF σ 3)) (109 * (nF y.2 3 - nF σ 3)) := by
  refine m_start (lv := [(0, .ref (ad 2 0 0)), (1, .ref (ad 12 u 0)), (2, .ref (ad 15 c 0)), (3, .int (nI q)), (4, .int (nI d))]) rfl (Nat.le_of_ble_eq_true rfl) rfl (fun Γ hX hRm hnL hY hDD hLa hR hI hE => ?_)
  have hU : ∀ w ∈ wU, w ∈ wM yX1_callProgram cX1_callProgram 6 (some .boolean) := fun w h => wM_in h
  subst hLa
  subst hDD
  have hI := hV.1
  have hu1 := hV.2.1.1
  have hu2 := hV.2.1.2
  have hu8 : u ≤ 8 := Nat.le_trans hu2 hI.nu.2
  have h40 := hI.nc.2
  have eq : (nI q).toNatClampNeg = q := nI_clamp (by omega)
  by_cases h10 : d = 10
  · have hSC : S_called σ u (nI q) = (3, σ) := by unfold S_called; rw [if_pos (by omega)]
    have hye : y = (3, σ) := by rw [← hy, hSC]; exact itD_stop (fun h9 => absurd h9.1 (show ¬ (3 : Int32) = 0 by decide))
    have r2_16 : f (ad 2 0 0) = .inr (3, [.ref (ad 1 0 0)]) := (px2 hP).2.2
    have r1_17 : f (ad 1 0 0) = .inr (8, [.ref (ad 6 0 0), .ref (ad 7 0 0), .int (nI (nF σ 1)), .int (nI (nF σ 3))]) := (px1 hP).2.2
    have r12_18 : f (ad 12 u 0) = .inr (7, [.ref (ad 13 u 0), .ref (ad 14 u 0), .int (σ.1 12 u), .int (σ.1 13 u), .int (gfl g u), .int (geb g u), .int (σ.1 17 u), .int (σ.1 18 u), .int (nI (nA σ 19 u))]) := (px12 hP u hu1 hu2).2.2
    have r15_19 : f (ad 15 c 0) = .inr (4, [.int (nI c), .ref (ad 12 (nA σ 6 c) 0), .ref (ad 9 (nA σ 7 c) 0), .int (nI (nA σ 8 c)), .ref (ad 16 c 0), va_rf (if gfa g c = true then some (ad 17 c 0) else none), .int (gsd g c), .int (σ.1 11 c), .int (σ.1 9 c)]) := (px15 hP c hc1 hc2).2.2
    have r9_20 : f (ad 9 (nA σ 7 c) 0) = .inr (5, [.int (nI (nA σ 7 c)), .int (nI (nA σ 0 (nA σ 7 c))), .int (σ.1 5 (nA σ 7 c)), .ref (ad 10 (nA σ 7 c) 0), .int (nI (nA σ 1 (nA σ 7 c)))]) := (px9 hP _ (hI.cls c hc1 hc2).2.1.1 (hI.cls c hc1 hc2).2.1.2).2.2
    refine g_iload (n := 2) hX dX1_callProgram_0 rfl rfl ?_
    refine g_bipush (n := 4) (v := 10) hX dX1_callProgram_2 rfl rfl ?_
    refine g_icmp_lt (n := 7) (tgt := 18) hX dX1_callProgram_4 rfl (by decide) (fun c4 => absurd c4 (nI_nlt (a := d) (b := 10) (by omega) (by omega))) (fun c4 => ?_)
    refine g_aload_n (n := 8) hX dX1_callProgram_7 rfl rfl rfl ?_
    refine g_iconst (n := 9) (v := 3) hX dX1_callProgram_8 rfl rfl ?_
    refine g_aload_n (n := 10) hX dX1_callProgram_9 rfl rfl rfl ?_
    refine g_pget (n := 13) ux_X2 rfl hX hU dX1_callProgram_10 rfl (px15 hP c hc1 hc2).1 r15_19 2 rfl uf_X1_21 rfl ?_
    refine g_pcallV (n := 16) (As := [.int 3, .ref (ad 9 (nA σ 7 c) 0)]) (rest := []) hX hE hU hY dX1_callProgram_13 rfl yv_X5_abend um_X1_25 (r_abend _ _ hP hI hL hu1 hu2 hc1 hc2 (k := 3) (by decide) (by decide) (by decide) h16) ⟨rfl, rfl⟩ (rm_lt hRm (by omega) rfl) rfl (px12 hP u hu1 hu2).1 r12_18 rfl rfl rfl (Nat.le_of_ble_eq_true rfl) ⟨by rw [hRm]; exact Nat.zero_le _, by rw [hRm]; exact Nat.zero_le _⟩ (fun v0 w0 hq0 => ?_)
    obtain ⟨rfl, hRO⟩ := hq0
    show G Γ (w0) 0 0 16 [(0, .ref (ad 2 0 0)), (1, .ref (ad 12 u 0)), (2, .ref (ad 15 c 0)), (3, .int (nI q)), (4, .int (nI d))] []
    refine g_iconst (n := 17) (v := 0) hX dX1_callProgram_16 rfl rfl ?_
    refine g_widen (kc' := 2 * (nF y.2 3 - nF σ 3)) (ks' := 109 * (nF y.2 3 - nF σ 3)) (Nat.zero_le _) (Nat.zero_le _) ?_
    exact g_zret hX hR dX1_callProgram_17 rfl ⟨by rw [hye, bI_f (show ¬ (3 : Int32) = 0 by decide)], by rw [hye]; exact hRO⟩
  · have h11 : ¬ nF σ 26 = 11 := by omega
    by_cases hp : 1 ≤ nI q ∧ nI q ≤ σ.2 1
    · have hp2 : q ≤ nF σ 1 := (nI_leI (by omega) (by have := hI.np.2; omega)).mp (by rw [← hI.np.1]; exact hp.2)
      obtain ⟨c1, hlat⟩ : ∃ c1, nA σ 14 (13 * u + q) = c1 := ⟨_, rfl⟩
      by_cases hc0 : c1 = 0
      · subst hc0
        by_cases hnc : nF σ 3 = 40
        · have hSC : S_called σ u (nI q) = (6, σ) := by unfold S_called; rw [if_neg h11, if_pos hp, eq, if_pos hlat, made_full hlat hnc, if_pos rfl]
          have hye : y = (6, σ) := by rw [← hy, hSC]; exact itD_stop (fun h9 => absurd h9.1 (show ¬ (6 : Int32) = 0 by decide))
          have r2_21 : f (ad 2 0 0) = .inr (3, [.ref (ad 1 0 0)]) := (px2 hP).2.2
          have r1_22 : f (ad 1 0 0) = .inr (8, [.ref (ad 6 0 0), .ref (ad 7 0 0), .int (nI (nF σ 1)), .int (nI (nF σ 3))]) := (px1 hP).2.2
          have r12_23 : f (ad 12 u 0) = .inr (7, [.ref (ad 13 u 0), .ref (ad 14 u 0), .int (σ.1 12 u), .int (σ.1 13 u), .int (gfl g u), .int (geb g u), .int (σ.1 17 u), .int (σ.1 18 u), .int (nI (nA σ 19 u))]) := (px12 hP u hu1 hu2).2.2
          have r15_24 : f (ad 15 c 0) = .inr (4, [.int (nI c), .ref (ad 12 (nA σ 6 c) 0), .ref (ad 9 (nA σ 7 c) 0), .int (nI (nA σ 8 c)), .ref (ad 16 c 0), va_rf (if gfa g c = true then some (ad 17 c 0) else none), .int (gsd g c), .int (σ.1 11 c), .int (σ.1 9 c)]) := (px15 hP c hc1 hc2).2.2
          have r9_25 : f (ad 9 (nA σ 7 c) 0) = .inr (5, [.int (nI (nA σ 7 c)), .int (nI (nA σ 0 (nA σ 7 c))), .int (σ.1 5 (nA σ 7 c)), .ref (ad 10 (nA σ 7 c) 0), .int (nI (nA σ 1 (nA σ 7 c)))]) := (px9 hP _ (hI.cls c hc1 hc2).2.1.1 (hI.cls c hc1 hc2).2.1.2).2.2
          have r9_26 : f (ad 9 q 0) = .inr (5, [.int (nI q), .int (nI (nA σ 0 q)), .int (σ.1 5 q), .ref (ad 10 q 0), .int (nI (nA σ 1 q))]) := (px9 hP q hq1 hp2).2.2
          refine g_iload (n := 2) hX dX1_callProgram_0 rfl rfl ?_
          refine g_bipush (n := 4) (v := 10) hX dX1_callProgram_2 rfl rfl ?_
          refine g_icmp_lt (n := 7) (tgt := 18) hX dX1_callProgram_4 rfl (by decide) (fun c4 => ?_) (fun c4 => absurd (nI_lt (a := d) (b := 10) (by omega) (by decide)) c4)
          refine g_aload_n (n := 19) hX dX1_callProgram_18 rfl rfl rfl ?_
          refine g_aload_n (n := 20) hX dX1_callProgram_19 rfl rfl rfl ?_
          refine g_aload_n (n := 21) hX dX1_callProgram_20 rfl rfl rfl ?_
          refine g_pget (n := 24) ux_X1 rfl hX hU dX1_callProgram_21 rfl (px2 hP).1 r2_21 0 rfl uf_X1_9 rfl ?_
          refine g_iload_n (n := 25) hX dX1_callProgram_24 rfl rfl rfl ?_
          refine g_pcallV (n := 28) (As := [.int (nI q)]) (rest := [.ref (ad 12 u 0), .ref (ad 2 0 0)]) hX hE hU hY dX1_callProgram_25 rfl yv_X6_findProgram um_X1_73 (r_findProgramY _ _ hP hI hq1 hp2) ⟨rfl, rfl⟩ (rm_lt hRm (by omega) rfl) rfl (px1 hP).1 r1_22 rfl rfl rfl (Nat.le_of_ble_eq_true rfl) ⟨Nat.zero_le _, Nat.zero_le _⟩ (fun v0 w0 hq0 => ?_)
          obtain ⟨rfl, rfl⟩ := hq0
          show G Γ (va_pl L f) 0 0 28 [(0, .ref (ad 2 0 0)), (1, .ref (ad 12 u 0)), (2, .ref (ad 15 c 0)), (3, .int (nI q)), (4, .int (nI d))] [.ref (ad 9 q 0), .ref (ad 12 u 0), .ref (ad 2 0 0)]
          refine g_pcallV (n := 31) (As := [.ref (ad 12 u 0), .ref (ad 9 q 0)]) (rest := []) hX hE hU hY dX1_callProgram_28 rfl yv_X1_calledClass um_X1_79 (r_calledF _ _ K L f ad κ g σ hP hI u q hu1 hu2 hq1 hp2 hlat hnc) ⟨rfl, rfl⟩ (rm_lt hRm (by omega) rfl) rfl (px2 hP).1 r2_21 rfl rfl rfl (Nat.le_of_ble_eq_true rfl) ⟨Nat.zero_le _, Nat.zero_le _⟩ (fun v0 w0 hq0 => ?_)
          obtain ⟨rfl, rfl⟩ := hq0
          show G Γ (va_pl L f) 0 0 31 [(0, .ref (ad 2 0 0)), (1, .ref (ad 12 u 0)), (2, .ref (ad 15 c 0)), (3, .int (nI q)), (4, .int (nI d))] [.null]
          refine g_astoreN (lv' := [(5, .null), (0, .ref (ad 2 0 0)), (1, .ref (ad 12 u 0)), (2, .ref (ad 15 c 0)), (3, .int (nI q)), (4, .int (nI d))]) (n := 33) hX dX1_callProgram_31 rfl (by rw [hnL]; rfl) rfl ?_
          refine g_aloadN (n := 35) hX dX1_callProgram_33 rfl rfl ?_
          refine g_ifnonnullN (n := 38) hX dX1_callProgram_35 rfl ?_
          refine g_aload_n (n := 39) hX dX1_callProgram_38 rfl rfl rfl ?_
          refine g_bipush (n := 41) (v := 6) hX dX1_callProgram_39 rfl rfl ?_
          refine g_aload_n (n := 42) hX dX1_callProgram_41 rfl rfl rfl ?_
          refine g_pget (n := 45) ux_X2 rfl hX hU dX1_callProgram_42 rfl (px15 hP c hc1 hc2).1 r15_24 2 rfl uf_X1_21 rfl ?_
          refine g_pcallV (n := 48) (As := [.int 6, .ref (ad 9 (nA σ 7 c) 0)]) (rest := []) hX hE hU hY dX1_callProgram_45 rfl yv_X5_abend um_X1_25 (r_abend _ _ hP hI hL hu1 hu2 hc1 hc2 (k := 6) (by decide) (by decide) (by decide) h16) ⟨rfl, rfl⟩ (rm_lt hRm (by omega) rfl) rfl (px12 hP u hu1 hu2).1 r12_23 rfl rfl rfl (Nat.le_of_ble_eq_true rfl) ⟨by rw [hRm]; exact Nat.zero_le _, by rw [hRm]; exact Nat.zero_le _⟩ (fun v0 w0 hq0 => ?_)
          obtain ⟨rfl, hRO⟩ := hq0
          show G Γ (w0) 0 0 48 [(5, .null), (0, .ref (ad 2 0 0)), (1, .ref (ad 12 u 0)), (2, .ref (ad 15 c 0)), (3, .int (nI q)), (4, .int (nI d))] []
          refine g_iconst (n := 49) (v := 0) hX dX1_callProgram_48 rfl rfl ?_
          refine g_widen (kc' := 2 * (nF y.2 3 - nF σ 3)) (ks' := 109 * (nF y.2 3 - nF σ 3)) (Nat.zero_le _) (Nat.zero_le _) ?_
          exact g_zret hX hR dX1_callProgram_49 rfl ⟨by rw [hye, bI_f (show ¬ (6 : Int32) = 0 by decide)], by rw [hye]; exact hRO⟩
        · have hnc : nF σ 3 < 40 := by omega
          obtain ⟨t1, t2, t3, t4⟩ := made_top (u := u) (p := q) (σ := σ) hu8 hq12 hnc
          have hV1 := RV_made hV hq1 hp2 hlat hnc
          have hSC : S_called σ u (nI q) = S_enter (sM σ u q) (nF σ 3 + 1) := by unfold S_called; rw [if_neg h11, if_pos hp, eq, if_pos hlat, made_new hlat (by omega), if_neg (nI_ne_m1 (by omega)), nI_clamp (by omega)]; rfl
          rw [hSC] at hy
          have hmono : nF (sM σ u q) 3 ≤ nF y.2 3 := by rw [← hy, ← (SE_enter hV1 (show nF σ 26 ≤ 10 by omega) (c := nF σ 3 + 1) (by omega) (by omega) t2 (by rw [t3]; exact t4)).2.1]; exact (TI_many m (SE_enter hV1 (show nF σ 26 ≤ 10 by omega) (c := nF σ 3 + 1) (by omega) (by omega) t2 (by rw [t3]; exact t4)).1).2.1
          have r2_27 : f (ad 2 0 0) = .inr (3, [.ref (ad 1 0 0)]) := (px2 hP).2.2
          have r1_28 : f (ad 1 0 0) = .inr (8, [.ref (ad 6 0 0), .ref (ad 7 0 0), .int (nI (nF σ 1)), .int (nI (nF σ 3))]) := (px1 hP).2.2
          have r12_29 : f (ad 12 u 0) = .inr (7, [.ref (ad 13 u 0), .ref (ad 14 u 0), .int (σ.1 12 u), .int (σ.1 13 u), .int (gfl g u), .int (geb g u), .int (σ.1 17 u), .int (σ.1 18 u), .int (nI (nA σ 19 u))]) := (px12 hP u hu1 hu2).2.2
          have r15_30 : f (ad 15 c 0) = .inr (4, [.int (nI c), .ref (ad 12 (nA σ 6 c) 0), .ref (ad 9 (nA σ 7 c) 0), .int (nI (nA σ 8 c)), .ref (ad 16 c 0), va_rf (if gfa g c = true then some (ad 17 c 0) else none), .int (gsd g c), .int (σ.1 11 c), .int (σ.1 9 c)]) := (px15 hP c hc1 hc2).2.2
          have r9_31 : f (ad 9 (nA σ 7 c) 0) = .inr (5, [.int (nI (nA σ 7 c)), .int (nI (nA σ 0 (nA σ 7 c))), .int (σ.1 5 (nA σ 7 c)), .ref (ad 10 (nA σ 7 c) 0), .int (nI (nA σ 1 (nA σ 7 c)))]) := (px9 hP _ (hI.cls c hc1 hc2).2.1.1 (hI.cls c hc1 hc2).2.1.2).2.2
          have r9_32 : f (ad 9 q 0) = .inr (5, [.int (nI q), .int (nI (nA σ 0 q)), .int (σ.1 5 q), .ref (ad 10 q 0), .int (nI (nA σ 1 q))]) := (px9 hP q hq1 hp2).2.2
          refine g_iload (n := 2) hX dX1_callProgram_0 rfl rfl ?_
          refine g_bipush (n := 4) (v := 10) hX dX1_callProgram_2 rfl rfl ?_
          refine g_icmp_lt (n := 7) (tgt := 18) hX dX1_callProgram_4 rfl (by decide) (fun c4 => ?_) (fun c4 => absurd (nI_lt (a := d) (b := 10) (by omega) (by decide)) c4)
          refine g_aload_n (n := 19) hX dX1_callProgram_18 rfl rfl rfl ?_
          refine g_aload_n (n := 20) hX dX1_callProgram_19 rfl rfl rfl ?_
          refine g_aload_n (n := 21) hX dX1_callProgram_20 rfl rfl rfl ?_
          refine g_pget (n := 24) ux_X1 rfl hX hU dX1_callProgram_21 rfl (px2 hP).1 r2_27 0 rfl uf_X1_9 rfl ?_
          refine g_iload_n (n := 25) hX dX1_callProgram_24 rfl rfl rfl ?_
          refine g_pcallV (n := 28) (As := [.int (nI q)]) (rest := [.ref (ad 12 u 0), .ref (ad 2 0 0)]) hX hE hU hY dX1_callProgram_25 rfl yv_X6_findProgram um_X1_73 (r_findProgramY _ _ hP hI hq1 hp2) ⟨rfl, rfl⟩ (rm_lt hRm (by omega) rfl) rfl (px1 hP).1 r1_28 rfl rfl rfl (Nat.le_of_ble_eq_true rfl) ⟨Nat.zero_le _, Nat.zero_le _⟩ (fun v0 w0 hq0 => ?_)
          obtain ⟨rfl, rfl⟩ := hq0
          show G Γ (va_pl L f) 0 0 28 [(0, .ref (ad 2 0 0)), (1, .ref (ad 12 u 0)), (2, .ref (ad 15 c 0)), (3, .int (nI q)), (4, .int (nI d))] [.ref (ad 9 q 0), .ref (ad 12 u 0), .ref (ad 2 0 0)]
          refine g_pcallV (n := 31) (As := [.ref (ad 12 u 0), .ref (ad 9 q 0)]) (rest := []) hX hE hU hY dX1_callProgram_28 rfl yv_X1_calledClass um_X1_79 (r_calledN _ _ K L f ad κ g σ hP hI u q hu1 hu2 hq1 hp2 u hL hlat hnc) ⟨rfl, rfl⟩ (rm_lt hRm (by omega) rfl) rfl (px2 hP).1 r2_27 rfl rfl rfl (Nat.le_of_ble_eq_true rfl) ⟨by rw [hRm]; show 0 + 2 ≤ 2 * _; omega, by rw [hRm]; show 0 + 109 ≤ 109 * _; omega⟩ (fun v0 w0 hq0 => ?_)
          obtain ⟨L1, f1, ad1, κ1, g1, rfl, rfl, hP1, hL1, hEX, hg1, hg2⟩ := hq0
          show G Γ (va_pl L1 f1) 2 109 31 [(0, .ref (ad 2 0 0)), (1, .ref (ad 12 u 0)), (2, .ref (ad 15 c 0)), (3, .int (nI q)), (4, .int (nI d))] [.ref (ad1 15 (nF σ 3 + 1) 0)]
          have e2 : ad1 2 0 0 = ad 2 0 0 := hEX 2 0 0 (Or.inl ⟨by decide, by decide⟩)
          have e12 : ad1 12 u 0 = ad 12 u 0 := hEX 12 u 0 (Or.inl ⟨by decide, by decide⟩)
          have m2 : ad 2 0 0 ∈ L1 := e2 ▸ (px2 hP1).1
          have q2 : f1 (ad 2 0 0) = .inr (3, [.ref (ad1 1 0 0)]) := by rw [← e2]; exact (px2 hP1).2.2
          have hM := hIH L1 f1 ad1 κ1 g1 (sM σ u q) (nF σ 3 + 1) (d + 1) y hP1 hL1 hV1 (by omega) (by omega) t2 (by rw [t3]; exact t4) hd (by omega) hy hdone
          rw [e2, e12] at hM
          refine g_astore (lv' := [(5, .ref (ad1 15 (nF σ 3 + 1) 0)), (0, .ref (ad 2 0 0)), (1, .ref (ad 12 u 0)), (2, .ref (ad 15 c 0)), (3, .int (nI q)), (4, .int (nI d))]) (n := 33) hX dX1_callProgram_31 rfl (by rw [hnL]; rfl) rfl ?_
          refine g_aload (n := 35) hX dX1_callProgram_33 rfl rfl ?_
          refine g_ifnonnull (tgt := 50) hX dX1_callProgram_35 (by decide) ?_
          refine g_aload_n (n := 51) hX dX1_callProgram_50 rfl rfl rfl ?_
          refine g_aload_n (n := 52) hX dX1_callProgram_51 rfl rfl rfl ?_
          refine g_aload (n := 54) hX dX1_callProgram_52 rfl rfl ?_
          refine g_iload (n := 56) hX dX1_callProgram_54 rfl rfl ?_
          refine g_iconst (n := 57) (v := 1) hX dX1_callProgram_56 rfl rfl ?_
          refine g_iadd (n := 58) (v := nI (d + 1)) hX dX1_callProgram_57 rfl (nI_1 d) ?_
          refine g_pcallV (n := 61) (As := [.ref (ad 12 u 0), .ref (ad1 15 (nF σ 3 + 1) 0), .int (nI (d + 1))]) (rest := []) hX hE hU hY dX1_callProgram_58 rfl yv_X1_enter um_X1_83 hM ⟨rfl, rfl⟩ (rm_lt hRm (by omega) rfl) rfl m2 q2 rfl rfl rfl (Nat.le_of_ble_eq_true rfl) ⟨by rw [hRm]; show 2 + 2 * _ ≤ 2 * _; omega, by rw [hRm]; show 109 + 109 * _ ≤ 109 * _; omega⟩ (fun v0 w0 hq0 => ?_)
          obtain ⟨rfl, hRO⟩ := hq0
          show G Γ (w0) (2 + 2 * (nF y.2 3 - nF (sM σ u q) 3)) (109 + 109 * (nF y.2 3 - nF (sM σ u q) 3)) 61 [(5, .ref (ad1 15 (nF σ 3 + 1) 0)), (0, .ref (ad 2 0 0)), (1, .ref (ad 12 u 0)), (2, .ref (ad 15 c 0)), (3, .int (nI q)), (4, .int (nI d))] [.int (bI (y.1 = 0))]
          rw [show 2 + 2 * (nF y.2 3 - nF (sM σ u q) 3) = 2 * (nF y.2 3 - nF σ 3) by omega, show 109 + 109 * (nF y.2 3 - nF (sM σ u q) 3) = 109 * (nF y.2 3 - nF σ 3) by omega]
          exact g_zret hX hR dX1_callProgram_61 (bI_nar _) ⟨rfl, RO_of hRO hEX (by omega) (congrFun hg1 u) (congrFun hg2 u)⟩
      · have hcl := (hI.lat u q hu1 hu8 hq1 hq12).resolve_left (by rw [hlat]; exact hc0)
        rw [hlat] at hcl
        have hSC : S_called σ u (nI q) = S_enter σ c1 := by unfold S_called; rw [if_neg h11, if_pos hp, eq, hlat, if_neg hc0]
        rw [hSC] at hy
        have hM := hIH L f ad κ g σ c1 (d + 1) y hP hL hV (by omega) hcl.1 hcl.2.1 (by rw [hcl.2.2]; exact hlat) hd (by omega) hy hdone
        have r2_33 : f (ad 2 0 0) = .inr (3, [.ref (ad 1 0 0)]) := (px2 hP).2.2
        have r1_34 : f (ad 1 0 0) = .inr (8, [.ref (ad 6 0 0), .ref (ad 7 0 0), .int (nI (nF σ 1)), .int (nI (nF σ 3))]) := (px1 hP).2.2
        have r12_35 : f (ad 12 u 0) = .inr (7, [.ref (ad 13 u 0), .ref (ad 14 u 0), .int (σ.1 12 u), .int (σ.1 13 u), .int (gfl g u), .int (geb g u), .int (σ.1 17 u), .int (σ.1 18 u), .int (nI (nA σ 19 u))]) := (px12 hP u hu1 hu2).2.2
        have r15_36 : f (ad 15 c 0) = .inr (4, [.int (nI c), .ref (ad 12 (nA σ 6 c) 0), .ref (ad 9 (nA σ 7 c) 0), .int (nI (nA σ 8 c)), .ref (ad 16 c 0), va_rf (if gfa g c = true then some (ad 17 c 0) else none), .int (gsd g c), .int (σ.1 11 c), .int (σ.1 9 c)]) := (px15 hP c hc1 hc2).2.2
        have r9_37 : f (ad 9 (nA σ 7 c) 0) = .inr (5, [.int (nI (nA σ 7 c)), .int (nI (nA σ 0 (nA σ 7 c))), .int (σ.1 5 (nA σ 7 c)), .ref (ad 10 (nA σ 7 c) 0), .int (nI (nA σ 1 (nA σ 7 c)))]) := (px9 hP _ (hI.cls c hc1 hc2).2.1.1 (hI.cls c hc1 hc2).2.1.2).2.2
        have r9_38 : f (ad 9 q 0) = .inr (5, [.int (nI q), .int (nI (nA σ 0 q)), .int (σ.1 5 q), .ref (ad 10 q 0), .int (nI (nA σ 1 q))]) := (px9 hP q hq1 hp2).2.2
        refine g_iload (n := 2) hX dX1_callProgram_0 rfl rfl ?_
        refine g_bipush (n := 4) (v := 10) hX dX1_callProgram_2 rfl rfl ?_
        refine g_icmp_lt (n := 7) (tgt := 18) hX dX1_callProgram_4 rfl (by decide) (fun c4 => ?_) (fun c4 => absurd (nI_lt (a := d) (b := 10) (by omega) (by decide)) c4)
        refine g_aload_n (n := 19) hX dX1_callProgram_18 rfl rfl rfl ?_
        refine g_aload_n (n := 20) hX dX1_callProgram_19 rfl rfl rfl ?_
        refine g_aload_n (n := 21) hX dX1_callProgram_20 rfl rfl rfl ?_
        refine g_pget (n := 24) ux_X1 rfl hX hU dX1_callProgram_21 rfl (px2 hP).1 r2_33 0 rfl uf_X1_9 rfl ?_
        refine g_iload_n (n := 25) hX dX1_callProgram_24 rfl rfl rfl ?_
        refine g_pcallV (n := 28) (As := [.int (nI q)]) (rest := [.ref (ad 12 u 0), .ref (ad 2 0 0)]) hX hE hU hY dX1_callProgram_25 rfl yv_X6_findProgram um_X1_73 (r_findProgramY _ _ hP hI hq1 hp2) ⟨rfl, rfl⟩ (rm_lt hRm (by omega) rfl) rfl (px1 hP).1 r1_34 rfl rfl rfl (Nat.le_of_ble_eq_true rfl) ⟨Nat.zero_le _, Nat.zero_le _⟩ (fun v0 w0 hq0 => ?_)
        obtain ⟨rfl, rfl⟩ := hq0
        show G Γ (va_pl L f) 0 0 28 [(0, .ref (ad 2 0 0)), (1, .ref (ad 12 u 0)), (2, .ref (ad 15 c 0)), (3, .int (nI q)), (4, .int (nI d))] [.ref (ad 9 q 0), .ref (ad 12 u 0), .ref (ad 2 0 0)]
        refine g_pcallV (n := 31) (As := [.ref (ad 12 u 0), .ref (ad 9 q 0)]) (rest := []) hX hE hU hY dX1_callProgram_28 rfl yv_X1_calledClass um_X1_79 (r_calledL _ _ K L f ad κ g σ hP hI u q hu1 hu2 hq1 hp2 c1 hlat hc0) ⟨rfl, rfl⟩ (rm_lt hRm (by omega) rfl) rfl (px2 hP).1 r2_33 rfl rfl rfl (Nat.le_of_ble_eq_true rfl) ⟨Nat.zero_le _, Nat.zero_le _⟩ (fun v0 w0 hq0 => ?_)
        obtain ⟨rfl, rfl⟩ := hq0
        show G Γ (va_pl L f) 0 0 31 [(0, .ref (ad 2 0 0)), (1, .ref (ad 12 u 0)), (2, .ref (ad 15 c 0)), (3, .int (nI q)), (4, .int (nI d))] [.ref (ad 15 c1 0)]
        refine g_astore (lv' := [(5, .ref (ad 15 c1 0)), (0, .ref (ad 2 0 0)), (1, .ref (ad 12 u 0)), (2, .ref (ad 15 c 0)), (3, .int (nI q)), (4, .int (nI d))]) (n := 33) hX dX1_callProgram_31 rfl (by rw [hnL]; rfl) rfl ?_
        refine g_aload (n := 35) hX dX1_callProgram_33 rfl rfl ?_
        refine g_ifnonnull (tgt := 50) hX dX1_callProgram_35 (by decide) ?_
        refine g_aload_n (n := 51) hX dX1_callProgram_50 rfl rfl rfl ?_
        refine g_aload_n (n := 52) hX dX1_callProgram_51 rfl rfl rfl ?_
        refine g_aload (n := 54) hX dX1_callProgram_52 rfl rfl ?_
        refine g_iload (n := 56) hX dX1_callProgram_54 rfl rfl ?_
        refine g_iconst (n := 57) (v := 1) hX dX1_callProgram_56 rfl rfl ?_
        refine g_iadd (n := 58) (v := nI (d + 1)) hX dX1_callProgram_57 rfl (nI_1 d) ?_
        refine g_pcallV (n := 61) (As := [.ref (ad 12 u 0), .ref (ad 15 c1 0), .int (nI (d + 1))]) (rest := []) hX hE hU hY dX1_callProgram_58 rfl yv_X1_enter um_X1_83 hM ⟨rfl, rfl⟩ (rm_lt hRm (by omega) rfl) rfl (px2 hP).1 r2_33 rfl rfl rfl (Nat.le_of_ble_eq_true rfl) ⟨by rw [hRm, Nat.zero_add]; exact Nat.le_refl _, by rw [hRm, Nat.zero_add]; exact Nat.le_refl _⟩ (fun v0 w0 hq0 => ?_)
        obtain ⟨rfl, hRO⟩ := hq0
        show G Γ (w0) (0 + 2 * (nF y.2 3 - nF σ 3)) (0 + 109 * (nF y.2 3 - nF σ 3)) 61 [(5, .ref (ad 15 c1 0)), (0, .ref (ad 2 0 0)), (1, .ref (ad 12 u 0)), (2, .ref (ad 15 c 0)), (3, .int (nI q)), (4, .int (nI d))] [.int (bI (y.1 = 0))]
        rw [Nat.zero_add, Nat.zero_add]
        exact g_zret hX hR dX1_callProgram_61 (bI_nar _) ⟨rfl, hRO⟩
    · have hSC : S_called σ u (nI q) = (6, σ) := by unfold S_called; rw [if_neg h11, if_neg hp]
      have hye : y = (6, σ) := by rw [← hy, hSC]; exact itD_stop (fun h9 => absurd h9.1 (show ¬ (6 : Int32) = 0 by decide))
      have r2_39 : f (ad 2 0 0) = .inr (3, [.ref (ad 1 0 0)]) := (px2 hP).2.2
      have r1_40 : f (ad 1 0 0) = .inr (8, [.ref (ad 6 0 0), .ref (ad 7 0 0), .int (nI (nF σ 1)), .int (nI (nF σ 3))]) := (px1 hP).2.2
      have r12_41 : f (ad 12 u 0) = .inr (7, [.ref (ad 13 u 0), .ref (ad 14 u 0), .int (σ.1 12 u), .int (σ.1 13 u), .int (gfl g u), .int (geb g u), .int (σ.1 17 u), .int (σ.1 18 u), .int (nI (nA σ 19 u))]) := (px12 hP u hu1 hu2).2.2
      have r15_42 : f (ad 15 c 0) = .inr (4, [.int (nI c), .ref (ad 12 (nA σ 6 c) 0), .ref (ad 9 (nA σ 7 c) 0), .int (nI (nA σ 8 c)), .ref (ad 16 c 0), va_rf (if gfa g c = true then some (ad 17 c 0) else none), .int (gsd g c), .int (σ.1 11 c), .int (σ.1 9 c)]) := (px15 hP c hc1 hc2).2.2
      have r9_43 : f (ad 9 (nA σ 7 c) 0) = .inr (5, [.int (nI (nA σ 7 c)), .int (nI (nA σ 0 (nA σ 7 c))), .int (σ.1 5 (nA σ 7 c)), .ref (ad 10 (nA σ 7 c) 0), .int (nI (nA σ 1 (nA σ 7 c)))]) := (px9 hP _ (hI.cls c hc1 hc2).2.1.1 (hI.cls c hc1 hc2).2.1.2).2.2
      refine g_iload (n := 2) hX dX1_callProgram_0 rfl rfl ?_
      refine g_bipush (n := 4) (v := 10) hX dX1_callProgram_2 rfl rfl ?_
      refine g_icmp_lt (n := 7) (tgt := 18) hX dX1_callProgram_4 rfl (by decide) (fun c4 => ?_) (fun c4 => absurd (nI_lt (a := d) (b := 10) (by omega) (by decide)) c4)
      refine g_aload_n (n := 19) hX dX1_callProgram_18 rfl rfl rfl ?_
      refine g_aload_n (n := 20) hX dX1_callProgram_19 rfl rfl rfl ?_
      refine g_aload_n (n := 21) hX dX1_callProgram_20 rfl rfl rfl ?_
      refine g_pget (n := 24) ux_X1 rfl hX hU dX1_callProgram_21 rfl (px2 hP).1 r2_39 0 rfl uf_X1_9 rfl ?_
      refine g_iload_n (n := 25) hX dX1_callProgram_24 rfl rfl rfl ?_
      refine g_pcallV (n := 28) (As := [.int (nI q)]) (rest := [.ref (ad 12 u 0), .ref (ad 2 0 0)]) hX hE hU hY dX1_callProgram_25 rfl yv_X6_findProgram um_X1_73 (r_findProgramN _ _ hP hI hp) ⟨rfl, rfl⟩ (rm_lt hRm (by omega) rfl) rfl (px1 hP).1 r1_40 rfl rfl rfl (Nat.le_of_ble_eq_true rfl) ⟨Nat.zero_le _, Nat.zero_le _⟩ (fun v0 w0 hq0 => ?_)
      obtain ⟨rfl, rfl⟩ := hq0
      show G Γ (va_pl L f) 0 0 28 [(0, .ref (ad 2 0 0)), (1, .ref (ad 12 u 0)), (2, .ref (ad 15 c 0)), (3, .int (nI q)), (4, .int (nI d))] [.null, .ref (ad 12 u 0), .ref (ad 2 0 0)]
      refine g_pcallV (n := 31) (As := [.ref (ad 12 u 0), .null]) (rest := []) hX hE hU hY dX1_callProgram_28 rfl yv_X1_calledClass um_X1_79 (r_called0 _ _ K L f ad κ g σ hP hI u hu1 hu2) ⟨rfl, rfl⟩ (rm_lt hRm (by omega) rfl) rfl (px2 hP).1 r2_39 rfl rfl rfl (Nat.le_of_ble_eq_true rfl) ⟨Nat.zero_le _, Nat.zero_le _⟩ (fun v0 w0 hq0 => ?_)
      obtain ⟨rfl, rfl⟩ := hq0
      show G Γ (va_pl L f) 0 0 31 [(0, .ref (ad 2 0 0)), (1, .ref (ad 12 u 0)), (2, .ref (ad 15 c 0)), (3, .int (nI q)), (4, .int (nI d))] [.null]
      refine g_astoreN (lv' := [(5, .null), (0, .ref (ad 2 0 0)), (1, .ref (ad 12 u 0)), (2, .ref (ad 15 c 0)), (3, .int (nI q)), (4, .int (nI d))]) (n := 33) hX dX1_callProgram_31 rfl (by rw [hnL]; rfl) rfl ?_
      refine g_aloadN (n := 35) hX dX1_callProgram_33 rfl rfl ?_
      refine g_ifnonnullN (n := 38) hX dX1_callProgram_35 rfl ?_
      refine g_aload_n (n := 39) hX dX1_callProgram_38 rfl rfl rfl ?_
      refine g_bipush (n := 41) (v := 6) hX dX1_callProgram_39 rfl rfl ?_
      refine g_aload_n (n := 42) hX dX1_callProgram_41 rfl rfl rfl ?_
      refine g_pget (n := 45) ux_X2 rfl hX hU dX1_callProgram_42 rfl (px15 hP c hc1 hc2).1 r15_42 2 rfl uf_X1_21 rfl ?_
      refine g_pcallV (n := 48) (As := [.int 6, .ref (ad 9 (nA σ 7 c) 0)]) (rest := []) hX hE hU hY dX1_callProgram_45 rfl yv_X5_abend um_X1_25 (r_abend _ _ hP hI hL hu1 hu2 hc1 hc2 (k := 6) (by decide) (by decide) (by decide) h16) ⟨rfl, rfl⟩ (rm_lt hRm (by omega) rfl) rfl (px12 hP u hu1 hu2).1 r12_41 rfl rfl rfl (Nat.le_of_ble_eq_true rfl) ⟨by rw [hRm]; exact Nat.zero_le _, by rw [hRm]; exact Nat.zero_le _⟩ (fun v0 w0 hq0 => ?_)
      obtain ⟨rfl, hRO⟩ := hq0
      show G Γ (w0) 0 0 48 [(5, .null), (0, .ref (ad 2 0 0)), (1, .ref (ad 12 u 0)), (2, .ref (ad 15 c 0)), (3, .int (nI q)), (4, .int (nI d))] []
      refine g_iconst (n := 49) (v := 0) hX dX1_callProgram_48 rfl rfl ?_
      refine g_widen (kc' := 2 * (nF y.2 3 - nF σ 3)) (ks' := 109 * (nF y.2 3 - nF σ 3)) (Nat.zero_le _) (Nat.zero_le _) ?_
      exact g_zret hX hR dX1_callProgram_49 rfl ⟨by rw [hye, bI_f (show ¬ (6 : Int32) = 0 by decide)], by rw [hye]; exact hRO⟩

