theorem Mc.imp {l : Launch} {y : MethodName} {wm : List Cond} {rm : Room} {D : va_G} {Y : List (ClassId × FieldType)} {av : List Value} {ws : va_W} {post post' : Option Value → va_W → Prop} {mc ms : Nat} (h : Mc l y wm rm D Y av ws post mc ms) (hi : ∀ v w, post v w → post' v w) : Mc l y wm rm D Y av ws post' mc ms := by
  intro sz p e ha hc hk s m args below hf happ hP hK
  obtain ⟨n, o, h1, h2, h3, ⟨⟨v, ws1, e1, e2, e3⟩, hF⟩, h5⟩ := h sz p e ha hc hk s m args below hf happ hP hK
  exact ⟨n, o, h1, h2, h3, ⟨⟨v, ws1, e1, hi _ _ e2, e3⟩, hF⟩, h5⟩
/-- addresses that a making of classes keeps -/
def EX (ad ad' : AD) (n : Nat) : Prop := ∀ k i j, ((k ≠ 15 ∧ k ≠ 16) ∨ i ≤ n) → ad' k i j = ad k i j
theorem EX_made (ad : AD) (n q q1 : Nat) : EX ad (adS (adS ad 15 (n + 1) 0 q) 16 (n + 1) 0 q1) n := by
  intro k i j h
  unfold adS
  rw [if_neg (fun h9 => by obtain ⟨a, b, c⟩ := h9; omega), if_neg (fun h9 => by obtain ⟨a, b, c⟩ := h9; omega)]
theorem made_same {σ : MS} {u p : Nat} (h : 0 < nA σ 14 (13 * u + p)) (he : σ.1 8 (nA σ 14 (13 * u + p)) = σ.1 1 p) : S_made σ u p = (nI (nA σ 14 (13 * u + p)), σ) := by
  unfold S_made; rw [if_pos ⟨h, he⟩]
theorem made_full2 {σ : MS} {u p : Nat} (he : ¬ σ.1 8 (nA σ 14 (13 * u + p)) = σ.1 1 p) (h4 : nF σ 3 = 40) : S_made σ u p = (-1, σ) := by
  unfold S_made; rw [if_neg (fun h9 => he h9.2), if_pos h4]
theorem made_old {σ : MS} {u p : Nat} (h : 0 < nA σ 14 (13 * u + p)) (he : ¬ σ.1 8 (nA σ 14 (13 * u + p)) = σ.1 1 p) (h4 : ¬ nF σ 3 = 40) : S_made σ u p = (nI (nF σ 3 + 1), sMd σ u p (nA σ 14 (13 * u + p)) 1 0) := by
  unfold S_made; rw [if_neg (fun h9 => he h9.2), if_neg h4, if_pos h]; rfl
theorem upd_id (g : Nat → Int32) (c : Nat) : upd g c (g c) = g := by
  funext i
  unfold upd
  split
  · next h9 => rw [h9]
  · rfl
def CFP (K : Nat → ClassId) (ad : AD) (g : GX) (σ σ' : MS) (run : Nat) (v : Option Value) (w : va_W) : Prop := ∃ (L' : List Nat) (f' : Nat → va_E) (ad' : AD) (κ' : TG) (g' : GX), v = some (.ref (ad' 15 (nF σ 3 + 1) 0)) ∧ w = va_pl L' f' ∧ PX K L' f' ad' κ' g' σ' ∧ Lk g' σ' run ∧ EX ad ad' (nF σ 3) ∧ gfl g' = gfl g ∧ geb g' = geb g
set_option maxHeartbeats 4000000 in
set_option maxRecDepth 100000 in
theorem x_classForF (l : Launch) (D : va_G) (K : Nat → ClassId) (L : List Nat) (f : Nat → va_E) (o pa ca nc hm pr ra p z : Nat) (gc gl : Nat → Option Nat) (la ma : Nat) (e2 e3 e4 e5 e6 e7 e8 : Int32) (s2 v2 v4 : Int32) (hoL : o ∈ L) (hof : f o = .inr (8, [.ref pa, .ref ca, .int s2, .int (nI nc)])) (hcL : ca ∈ L) (hcf : f ca = .inl (K 3, 40, rE gc)) (hhL : hm ∈ L) (hhf : f hm = .inr (7, [.ref la, .ref ma, .int e2, .int e3, .int e4, .int e5, .int e6, .int e7, .int e8])) (hlL : la ∈ L) (hlf : f la = .inl (K 3, 12, rE gl)) (hpL : pr ∈ L) (hpf : f pr = .inr (5, [.int (nI p), .int (nI z), .int v2, .ref ra, .int v4])) (hp1 : 1 ≤ p) (hp2 : p ≤ 12) (hnc : 40 ≤ nc) (hnc2 : nc ≤ 40) (hlat : gl (p - 1) = none) : Mc l yX6_classFor (wM yX6_classFor cX6_classFor 5 (some (.object "ClassMaker4$MadeClass"))) (rmL 1 0 0) D (yY K) [.ref o, .ref hm, .ref pr] (va_pl L f) (fun v w => v = some .null ∧ w = va_pl L f) 0 0 := by
  refine m_start (lv := [(0, .ref o), (1, .ref hm), (2, .ref pr)]) rfl (Nat.le_of_ble_eq_true rfl) rfl (fun Γ hX hRm hnL hY hDD hLa hR hI hE => ?_)
  have hU : ∀ w ∈ wU, w ∈ wM yX6_classFor cX6_classFor 5 (some (.object "ClassMaker4$MadeClass")) := fun w h => wM_in h
  subst hLa
  subst hDD
  refine g_aload_n (n := 1) hX dX6_classFor_0 rfl rfl rfl ?_
  refine g_aload_n (n := 2) hX dX6_classFor_1 rfl rfl rfl ?_
  refine g_pcallV (n := 5) (As := [.ref pr]) (rest := []) hX hE hU hY dX6_classFor_2 rfl yv_X5_latestOf um_X6_33 (x_latestOf _ _ K L f hm pr ra p gl la ma e2 e3 e4 e5 e6 e7 e8 (nI z) v2 v4 hhL hhf hpL hpf hlL hlf hp1 hp2) ⟨rfl, rfl⟩ (rm_le hRm rfl rfl) rfl hhL hhf rfl rfl rfl (Nat.le_of_ble_eq_true rfl) (by rw [hRm]; decide) (fun v0 w0 hq0 => ?_)
  rw [hlat] at hq0; obtain ⟨rfl, rfl⟩ := hq0
  show G Γ (va_pl L f) 0 0 5 [(0, .ref o), (1, .ref hm), (2, .ref pr)] [.null]
  refine g_astore_nN (lv' := [(3, .null), (0, .ref o), (1, .ref hm), (2, .ref pr)]) (n := 6) hX dX6_classFor_5 rfl rfl (by rw [hnL]; rfl) rfl ?_
  refine g_aload_nN (n := 7) hX dX6_classFor_6 rfl rfl rfl ?_
  refine g_ifnullN (tgt := 23) hX dX6_classFor_7 (by decide) ?_
  refine g_aload_n (n := 24) hX dX6_classFor_23 rfl rfl rfl ?_
  refine g_pget (n := 27) ux_X6 rfl hX hU dX6_classFor_24 rfl hoL hof 3 rfl uf_X6_30 rfl ?_
  refine g_aload_n (n := 28) hX dX6_classFor_27 rfl rfl rfl ?_
  refine g_pget (n := 31) ux_X6 rfl hX hU dX6_classFor_28 rfl hoL hof 1 rfl uf_X6_19 rfl ?_
  refine g_palen (n := 32) (t0 := 3) (v := nI (40)) hX hY dX6_classFor_31 rfl hcL hcf rfl rfl ?_
  refine g_icmp_lt (n := 35) (tgt := 37) hX dX6_classFor_32 rfl (by decide) (fun c32 => absurd c32 (nI_nlt (a := nc) (b := 40) hnc (by omega))) (fun c32 => ?_)
  refine g_null (n := 36) hX dX6_classFor_35 rfl ?_
  exact g_aret hX hR dX6_classFor_36 (Or.inl ⟨_, rfl⟩) (Or.inl rfl) ⟨rfl, rfl⟩

theorem r_classForF (l : Launch) (D : va_G) {K : Nat → ClassId} {L : List Nat} {f : Nat → va_E} {ad : AD} {κ : TG} {g : GX} {σ : MS} (hP : PX K L f ad κ g σ) (hI : Inv σ) {u p : Nat} (hu1 : 1 ≤ u) (hu2 : u ≤ nF σ 2) (hp1 : 1 ≤ p) (hp2 : p ≤ nF σ 1) (hlat : nA σ 14 (13 * u + p) = 0) (hnc : nF σ 3 = 40) : Mc l yX6_classFor (wM yX6_classFor cX6_classFor 5 (some (.object "ClassMaker4$MadeClass"))) (rmL 1 0 0) D (yY K) [.ref (ad 1 0 0), .ref (ad 12 u 0), .ref (ad 9 p 0)] (va_pl L f) (fun v w => v = some .null ∧ w = va_pl L f) 0 0 := by
  have hp12 := hI.np.2
  exact x_classForF l D K L f (ad 1 0 0) (ad 6 0 0) (ad 7 0 0) (nF σ 3) (ad 12 u 0) (ad 9 p 0) (ad 10 p 0) p (nA σ 0 p) (gcl ad σ) (gla ad σ u) (ad 13 u 0) (ad 14 u 0) (σ.1 12 u) (σ.1 13 u) (gfl g u) (geb g u) (σ.1 17 u) (σ.1 18 u) (nI (nA σ 19 u)) (nI (nF σ 1)) (σ.1 5 p) (nI (nA σ 1 p)) (px1 hP).1 (px1 hP).2.2 (px7 hP).1 (px7 hP).2.2 (px12 hP u hu1 hu2).1 (px12 hP u hu1 hu2).2.2 (px13 hP u hu1 hu2).1 (px13 hP u hu1 hu2).2.2 (px9 hP p hp1 hp2).1 (px9 hP p hp1 hp2).2.2 hp1 (by omega) (by omega) (by omega) (gla_0 hp1 (by omega) hlat)
theorem r_classForN (l : Launch) (D : va_G) {K : Nat → ClassId} {L : List Nat} {f : Nat → va_E} {ad : AD} {κ : TG} {g : GX} {σ : MS} (hP : PX K L f ad κ g σ) (hI : Inv σ) {u p : Nat} (hu1 : 1 ≤ u) (hu2 : u ≤ nF σ 2) (hp1 : 1 ≤ p) (hp2 : p ≤ nF σ 1) {run : Nat} (hL : Lk g σ run) (hlat : nA σ 14 (13 * u + p) = 0) (hnc : nF σ 3 < 40) : Mc l yX6_classFor (wM yX6_classFor cX6_classFor 5 (some (.object "ClassMaker4$MadeClass"))) (rmL 2 2 109) D (yY K) [.ref (ad 1 0 0), .ref (ad 12 u 0), .ref (ad 9 p 0)] (va_pl L f) (CFP K ad g σ (sM σ u p) run) 2 109 := by
  have hp12 := hI.np.2
  have hz := (hI.sz (p := p) (by omega)).2
  refine Mc.imp (x_classForN l D K L f (ad 1 0 0) (ad 6 0 0) (ad 7 0 0) (nF σ 3) (ad 12 u 0) (ad 9 p 0) (ad 10 p 0) p (nA σ 0 p) (gcl ad σ) (gla ad σ u) (ad 13 u 0) (ad 14 u 0) (σ.1 12 u) (σ.1 13 u) (gfl g u) (geb g u) (σ.1 17 u) (σ.1 18 u) (nI (nA σ 19 u)) (nI (nF σ 1)) (σ.1 5 p) (nI (nA σ 1 p)) (px1 hP).1 (px1 hP).2.2 (px7 hP).1 (px7 hP).2.2 (px12 hP u hu1 hu2).1 (px12 hP u hu1 hu2).2.2 (px13 hP u hu1 hu2).1 (px13 hP u hu1 hu2).2.2 (px9 hP p hp1 hp2).1 (px9 hP p hp1 hp2).2.2 hp1 (by omega) hz (by omega) (gla_0 hp1 (by omega) hlat)) (fun v w h => ?_)
  obtain ⟨-, q, q1, hq, hq1, rfl, f1, rfl, rfl⟩ := h.resolve_left (fun h9 => h9.1 hnc)
  refine ⟨_, _, _, _, _, ?_, rfl, PX_made hP hI hq hq1 hnc hu1 hu2 hp1 hp2, ?_, EX_made ad (nF σ 3) q q1, rfl, rfl⟩
  · rw [adS_t (tne (by decide)), adS_s]
  · have h9 := Lk_made (x9 := σ.1 9 0) (x10 := σ.1 10 0) (o := 0) hI hL hnc hu1 hu2 hp1 hp2 hlat.symm
    rw [sMd_N] at h9
    exact h9
theorem r_classForS (l : Launch) (D : va_G) {K : Nat → ClassId} {L : List Nat} {f : Nat → va_E} {ad : AD} {κ : TG} {g : GX} {σ : MS} (hP : PX K L f ad κ g σ) (hI : Inv σ) {u p : Nat} (hu1 : 1 ≤ u) (hu2 : u ≤ nF σ 2) (hp1 : 1 ≤ p) (hp2 : p ≤ nF σ 1) {run c : Nat} (hL : Lk g σ run) (hlat : nA σ 14 (13 * u + p) = c) (hc1 : 1 ≤ c) (hc2 : c ≤ nF σ 3) : Mc l yX6_classFor (wM yX6_classFor cX6_classFor 5 (some (.object "ClassMaker4$MadeClass"))) (rmL 2 2 109) D (yY K) [.ref (ad 1 0 0), .ref (ad 12 u 0), .ref (ad 9 p 0)] (va_pl L f) (fun v w => (σ.1 8 c = σ.1 1 p ∧ v = some (.ref (ad 15 c 0)) ∧ w = va_pl L f) ∨ (¬ σ.1 8 c = σ.1 1 p ∧ nF σ 3 = 40 ∧ v = some .null ∧ w = va_pl L f) ∨ (¬ σ.1 8 c = σ.1 1 p ∧ nF σ 3 < 40 ∧ CFP K ad g σ (sMd σ u p c 1 0) run v w)) 2 109 := by
  have hp12 := hI.np.2
  have hc40 := hI.nc.2
  have hz := (hI.sz (p := p) (by omega)).2
  have e8 := (hI.cr (c := c) (by omega)).1
  have e1 := (hI.rc (p := p) (by omega)).1
  refine Mc.imp (x_classForS l D K L f (ad 1 0 0) (ad 6 0 0) (ad 7 0 0) (nF σ 3) (ad 12 u 0) (ad 9 p 0) (ad 10 p 0) p (nA σ 0 p) (gcl ad σ) (gla ad σ u) (ad 13 u 0) (ad 14 u 0) (σ.1 12 u) (σ.1 13 u) (gfl g u) (geb g u) (σ.1 17 u) (σ.1 18 u) (nI (nA σ 19 u)) (nI (nF σ 1)) (σ.1 5 p) (nI (nA σ 1 p)) (ad 15 c 0) (ad 12 (nA σ 6 c) 0) (ad 9 (nA σ 7 c) 0) (ad 16 c 0) (if gfa g c = true then some (ad 17 c 0) else none) (nI c) (nI (nA σ 8 c)) (gsd g c) (σ.1 11 c) (σ.1 9 c) (px1 hP).1 (px1 hP).2.2 (px7 hP).1 (px7 hP).2.2 (px12 hP u hu1 hu2).1 (px12 hP u hu1 hu2).2.2 (px13 hP u hu1 hu2).1 (px13 hP u hu1 hu2).2.2 (px9 hP p hp1 hp2).1 (px9 hP p hp1 hp2).2.2 (px15 hP c hc1 hc2).1 (px15 hP c hc1 hc2).2.2 hp1 (by omega) hz (by omega) (gla_s hp1 (by omega) hlat (by omega))) (fun v w h => ?_)
  rw [e8, e1]
  rcases h with h | h | h
  · exact Or.inl h
  · exact Or.inr (Or.inl ⟨h.1, by omega, h.2.2⟩)
  · obtain ⟨hne, hnc, q, q1, hq, hq1, rfl, f1, rfl, rfl⟩ := h
    have h1 := PX_cls hP hc1 hc2 (gsd g c) (σ.1 11 c) 1
    have e2 : gC g c (gsd g c) = g := by
      unfold gC
      rw [show upd g.2.2.2.1 c (gsd g c) = g.2.2.2.1 from upd_id _ _]
    have e3 : sC2 σ c (σ.1 11 c) 1 = sA σ 9 c 1 := by unfold sC2; rw [sA_id]
    rw [e2, e3] at h1
    have h2 := PX_made (e0 := .inr (4, [.int 0, .null, .null, .int 0, .null, .null, .int 0, .int 0, .int 0])) h1 (Inv_9 hI hc1 hc2) hq hq1 hnc hu1 hu2 hp1 hp2
    refine Or.inr (Or.inr ⟨hne, hnc, _, _, _, _, _, ?_, rfl, h2, Lk_made (x9 := 1) (x10 := 0) (g := g) hI hL hnc hu1 hu2 hp1 hp2 hlat.symm, EX_made ad (nF σ 3) q q1, rfl, rfl⟩)
    exact congrArg (fun z => some (Value.ref z)) ((adS_t (tne (by decide))).trans (adS_s _ _ _ _ _)).symm
theorem px_prOk {K : Nat → ClassId} {L : List Nat} {f : Nat → va_E} {ad : AD} {κ : TG} {g : GX} {σ : MS} (hP : PX K L f ad κ g σ) (hI : Inv σ) {c : Nat} (hc1 : 1 ≤ c) (hc2 : c ≤ nF σ 3) : prOk K L f (ad 3 0 0) (ad 4 0 0) (ad 5 0 0) (ad 9 (nA σ 7 c) 0) (ad 10 (nA σ 7 c) 0) (nA σ 1 (nA σ 7 c)) (nA σ 7 c) (σ.1 0 (nA σ 7 c)) (σ.1 5 (nA σ 7 c)) (grw ad σ (nA σ 7 c)) (fun r => ad 11 (nA σ 7 c) r) (prO σ (nA σ 7 c)) (nA σ 8 c) := by
  have h := hI.cls c hc1 hc2
  have h7 := h.2.1
  have h12 := hI.np.2
  have ez := (hI.sz (p := nA σ 7 c) (by omega)).1
  have h9 := px9 hP _ h7.1 h7.2
  have h10 := px10 hP _ h7.1 h7.2
  refine ⟨h9.1, ?_, px_nf hP h9 (by decide), h10.1, h10.2.2, px_nf hP h10 (by decide), (hI.rc (p := nA σ 7 c) (by omega)).2, h.2.2.1, fun r h1 h2 => grw_at h1 (by omega), fun r h1 h2 => ?_⟩
  · rw [ez]; exact h9.2.2
  · have h11 := px11 hP _ h7.1 h7.2 r h1 (by omega)
    exact ⟨h11.1, h11.2.2, px_nf hP h11 (by decide), ((hI.prog _ h7.1 h7.2).2.2 r h1 (by omega)).1⟩
theorem r_fileOf (l : Launch) (D : va_G) {K : Nat → ClassId} {L : List Nat} {f : Nat → va_E} {ad : AD} {κ : TG} {g : GX} {σ : MS} (hQ : RX K L f ad κ g σ 0) {c : Nat} (hc1 : 1 ≤ c) (hc2 : c ≤ nF σ 3) : Mc l yX0_fileOf (wM yX0_fileOf cX0_fileOf 4 (some (.array .byte))) (rmL 6 1 2048) D (yY K) [.ref (ad 3 0 0), .ref (ad 15 c 0)] (va_pl L f) (fun v w => ∃ (L' : List Nat) (f' : Nat → va_E) (ad' : AD) (κ' : TG) (g' : GX), v = some (.ref (ad' 17 c 0)) ∧ w = va_pl L' f' ∧ gfa g' c = true ∧ ad' 0 0 0 = ad 0 0 0 ∧ RX K L' f' ad' κ' g' σ 0) 1 2048 := by
  have hP := hQ.1
  have hI := hQ.2.2
  have hc40 := hI.nc.2
  have h15 := px15 hP c hc1 hc2
  have h7 := (hI.cls c hc1 hc2).2.1
  have h12 := hI.np.2
  have e := px_fw hP
  by_cases hf : gfa g c = true
  · have h := f_fileOfS l D K L f (ad 3 0 0) (ad 4 0 0) (ad 5 0 0) (gs g) (ad 9 (nA σ 7 c) 0) (nA σ 8 c) (ad 17 c 0) (ad 15 c 0) (ad 12 (nA σ 6 c) 0) (ad 16 c 0) (nI c) (gsd g c) (σ.1 11 c) (σ.1 9 c) h15.1 (by rw [h15.2.2, c15, if_pos hf]; rfl) (px_nf hP h15 (by decide)) (px_fOk hP)
    rw [e] at h
    exact h.imp (fun v w h => ⟨L, f, ad, κ, g, h.1, h.2, hf, rfl, hQ⟩)
  · have h := f_fileOfN l D K L f (ad 3 0 0) (ad 4 0 0) (ad 5 0 0) (gs g) _ _ _ _ _ _ _ _ _ _ (px_prOk hP hI hc1 hc2) (ad 15 c 0) (ad 12 (nA σ 6 c) 0) (ad 16 c 0) (nI c) (gsd g c) (σ.1 11 c) (σ.1 9 c) h15.1 (by rw [h15.2.2, c15, if_neg hf]; rfl) (px_nf hP h15 (by decide)) (by omega) (hI.cr (by omega)).2 (px_fOk hP)
    rw [e] at h
    refine h.imp (fun v w h => ?_)
    obtain ⟨q, gq, cc, f1, hq, rfl, rfl, rfl, hgq⟩ := h
    refine ⟨_, _, _, _, _, ?_, rfl, ?_, ?_, PX_file hP hq hc1 hc2 _ gq, Lk_file hQ.2.1 _ hgq, hI⟩
    · rw [adS_s]
    · exact va_up_self _ _ _
    · exact adS_t (tne (by decide))
