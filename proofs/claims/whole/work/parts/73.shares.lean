theorem anyU_iff (σ : MS) (x : Int32) : ∀ n : Nat, anyU σ x n = true ↔ ∃ c, 1 ≤ c ∧ c ≤ n ∧ σ.1 6 c = x
  | 0 => ⟨fun h => absurd h (by simp [anyU]), fun ⟨c, h1, h2, _⟩ => by omega⟩
  | n + 1 => by
    have ih := anyU_iff σ x n
    simp only [anyU, Bool.or_eq_true, decide_eq_true_eq, ih]
    constructor
    · rintro (⟨c, h1, h2, h3⟩ | h)
      · exact ⟨c, h1, by omega, h3⟩
      · exact ⟨n + 1, by omega, by omega, h⟩
    · rintro ⟨c, h1, h2, h3⟩
      by_cases e : c = n + 1
      · subst e; exact Or.inr h3
      · exact Or.inl ⟨c, h1, by omega, h3⟩
/-- two units share a class -/
def shP (σ : MS) (u o i : Nat) : Prop := u = o ∧ ∃ c, i < c ∧ c ≤ nF σ 3 ∧ nA σ 6 c = u
theorem sh_val {σ : MS} (hI : Inv σ) {u o : Nat} (hu : u ≤ 8) (ho : o ≤ 8) {v : Int32} (h1 : shP σ u o 0 → v = 1) (h0 : ¬ shP σ u o 0 → v = 0) : v = (S_shares σ (nI u) (nI o)).1 := by
  unfold S_shares
  have hc := hI.nc.2
  by_cases ha : anyU σ (nI u) (nF σ 3) = true
  · obtain ⟨c, a1, a2, a3⟩ := (anyU_iff σ (nI u) _).mp ha
    have a4 : nA σ 6 c = u := nA_of a3 (by omega)
    rw [if_pos ha]
    by_cases e : u = o
    · rw [h1 ⟨e, c, by omega, a2, a4⟩, e, bI_t rfl]
    · rw [h0 (fun h9 => e h9.1), bI_f (fun h9 => e ((nI_eq (by omega) (by omega)).mp h9))]
  · rw [if_neg ha]
    refine h0 (fun h9 => ha ((anyU_iff σ (nI u) _).mpr ?_))
    obtain ⟨c, a1, a2, a3⟩ := h9.2
    exact ⟨c, a1, a2, by rw [(hI.cu (c := c) (by omega)).1, a3]⟩
set_option maxHeartbeats 4000000 in
set_option maxRecDepth 100000 in
theorem lp_hcc {Γ : gT} {K : Nat → ClassId} {L : List Nat} {f : Nat → va_E} {ad : AD} {κ : TG} {g : GX} {σ : MS} (hX : gOk Γ cX6_haveCommonClass (wM yX6_haveCommonClass cX6_haveCommonClass 5 (some .boolean)) RX6) (hE : gEv Γ) (hRm : gRm Γ = rmL 0 0 0) (hnL : gnL Γ = 5) (hY : gY Γ = yY K) (hP : PX K L f ad κ g σ) (hI : Inv σ) {u o : Nat} (hu1 : 1 ≤ u) (hu2 : u ≤ nF σ 2) (ho1 : 1 ≤ o) (ho2 : o ≤ nF σ 2) {post : Option Value → va_W → Prop} (hR : gRet Γ (some .boolean) post 0 0) (h1 : shP σ u o 0 → post (some (.int 1)) (va_pl L f)) (h0 : ¬ shP σ u o 0 → post (some (.int 0)) (va_pl L f)) : ∀ (j i : Nat), i + j = nF σ 3 → (shP σ u o 0 → shP σ u o i) → G Γ (va_pl L f) 0 0 2 [(3, .int (nI i)), (0, .ref (ad 1 0 0)), (1, .ref (ad 12 u 0)), (2, .ref (ad 12 o 0))] [] := by
  have hU : ∀ w ∈ wU, w ∈ wM yX6_haveCommonClass cX6_haveCommonClass 5 (some .boolean) := fun w h => wM_in h
  have hnc := hI.nc.2
  intro j
  induction j with
  | zero =>
    intro i hij hinv
    have hi : i = nF σ 3 := hij
    have hno : ¬ shP σ u o 0 := fun h9 => by
      obtain ⟨-, c, a1, a2, -⟩ := hinv h9
      omega
    have r1_1 : f (ad 1 0 0) = .inr (8, [.ref (ad 6 0 0), .ref (ad 7 0 0), .int (nI (nF σ 1)), .int (nI (nF σ 3))]) := (px1 hP).2.2
    have r7_2 : f (ad 7 0 0) = .inl (K 3, 40, rE (gcl ad σ)) := (px7 hP).2.2
    refine g_iload_n (n := 3) hX dX6_haveCommonClass_2 rfl rfl rfl ?_
    refine g_aload_n (n := 4) hX dX6_haveCommonClass_3 rfl rfl rfl ?_
    refine g_pget (n := 7) ux_X6 rfl hX hU dX6_haveCommonClass_4 rfl (px1 hP).1 r1_1 3 rfl uf_X6_30 rfl ?_
    refine g_icmp_ge (n := 10) (tgt := 58) hX dX6_haveCommonClass_7 rfl (by decide) (fun c7 => ?_) (fun c7 => absurd (nI_le (a := nF σ 3) (b := i) (by omega) (by omega)) c7)
    refine g_iconst (n := 59) (v := 0) hX dX6_haveCommonClass_58 rfl rfl ?_
    exact g_zret hX hR dX6_haveCommonClass_59 rfl (h0 hno)
  | succ j ih =>
    intro i hij hinv
    have hc1 : 1 ≤ i + 1 := by omega
    have hc2 : i + 1 ≤ nF σ 3 := by omega
    have hcl := hI.cls (i + 1) hc1 hc2
    have hge : gcl ad σ i = some (ad 15 (i + 1) 0) := gcl_at (p := i + 1) hc1 hc2
    by_cases hEu : nA σ 6 (i + 1) = u
    · by_cases hEo : nA σ 6 (i + 1) = o
      · have r1_3 : f (ad 1 0 0) = .inr (8, [.ref (ad 6 0 0), .ref (ad 7 0 0), .int (nI (nF σ 1)), .int (nI (nF σ 3))]) := (px1 hP).2.2
        have r7_4 : f (ad 7 0 0) = .inl (K 3, 40, rE (gcl ad σ)) := (px7 hP).2.2
        have r15_5 : f (ad 15 (i + 1) 0) = .inr (4, [.int (nI (i + 1)), .ref (ad 12 (nA σ 6 (i + 1)) 0), .ref (ad 9 (nA σ 7 (i + 1)) 0), .int (nI (nA σ 8 (i + 1))), .ref (ad 16 (i + 1) 0), va_rf (if gfa g (i + 1) = true then some (ad 17 (i + 1) 0) else none), .int (gsd g (i + 1)), .int (σ.1 11 (i + 1)), .int (σ.1 9 (i + 1))]) := (px15 hP _ hc1 hc2).2.2
        refine g_iload_n (n := 3) hX dX6_haveCommonClass_2 rfl rfl rfl ?_
        refine g_aload_n (n := 4) hX dX6_haveCommonClass_3 rfl rfl rfl ?_
        refine g_pget (n := 7) ux_X6 rfl hX hU dX6_haveCommonClass_4 rfl (px1 hP).1 r1_3 3 rfl uf_X6_30 rfl ?_
        refine g_icmp_ge (n := 10) (tgt := 58) hX dX6_haveCommonClass_7 rfl (by decide) (fun c7 => absurd c7 (nI_ge (a := i) (b := nF σ 3) (by omega) (by omega))) (fun c7 => ?_)
        refine g_iload_n (n := 11) hX dX6_haveCommonClass_10 rfl rfl rfl ?_
        refine g_aload_n (n := 12) hX dX6_haveCommonClass_11 rfl rfl rfl ?_
        refine g_pget (n := 15) ux_X6 rfl hX hU dX6_haveCommonClass_12 rfl (px1 hP).1 r1_3 1 rfl uf_X6_19 rfl ?_
        refine g_palen (n := 16) (t0 := 3) (v := nI (40)) hX hY dX6_haveCommonClass_15 rfl (px7 hP).1 r7_4 rfl rfl ?_
        refine g_icmp_ge (n := 19) (tgt := 58) hX dX6_haveCommonClass_16 rfl (by decide) (fun c16 => absurd c16 (nI_ge (a := i) (b := 40) (by omega) (by decide))) (fun c16 => ?_)
        refine g_aload_n (n := 20) hX dX6_haveCommonClass_19 rfl rfl rfl ?_
        refine g_pget (n := 23) ux_X6 rfl hX hU dX6_haveCommonClass_20 rfl (px1 hP).1 r1_3 1 rfl uf_X6_19 rfl ?_
        refine g_iload_n (n := 24) hX dX6_haveCommonClass_23 rfl rfl rfl ?_
        refine g_pald (n := 25) (r := some (ad 15 (i + 1) 0)) 3 hX hY dX6_haveCommonClass_24 rfl (px7 hP).1 r7_4 rfl (vp_in_nI (show i < 40 by omega) (by omega)) (by rw [nI_clamp (by omega)]; exact hge) ?_
        show G Γ (va_pl L f) 0 0 25 [(3, .int (nI i)), (0, .ref (ad 1 0 0)), (1, .ref (ad 12 u 0)), (2, .ref (ad 12 o 0))] [.ref (ad 15 (i + 1) 0)]
        refine g_astore (lv' := [(4, .ref (ad 15 (i + 1) 0)), (3, .int (nI i)), (0, .ref (ad 1 0 0)), (1, .ref (ad 12 u 0)), (2, .ref (ad 12 o 0))]) (n := 27) hX dX6_haveCommonClass_25 rfl (by rw [hnL]; rfl) rfl ?_
        refine g_aload (n := 29) hX dX6_haveCommonClass_27 rfl rfl ?_
        refine g_ifnull (n := 32) hX dX6_haveCommonClass_29 rfl ?_
        refine g_aload (n := 34) hX dX6_haveCommonClass_32 rfl rfl ?_
        refine g_pget (n := 37) ux_X2 rfl hX hU dX6_haveCommonClass_34 rfl (px15 hP _ hc1 hc2).1 r15_5 1 rfl uf_X6_54 rfl ?_
        refine g_aload_n (n := 38) hX dX6_haveCommonClass_37 rfl rfl rfl ?_
        refine g_acmp_ne (rx := some (ad 12 (nA σ 6 (i + 1)) 0)) (ry := some (ad 12 u 0)) (n := 41) (tgt := 52) hX dX6_haveCommonClass_38 rfl (by decide) (fun h9 => absurd (congrArg some (congrArg (fun z => ad 12 z 0) hEu)) h9) (fun _ => ?_)
        refine g_aload (n := 43) hX dX6_haveCommonClass_41 rfl rfl ?_
        refine g_pget (n := 46) ux_X2 rfl hX hU dX6_haveCommonClass_43 rfl (px15 hP _ hc1 hc2).1 r15_5 1 rfl uf_X6_54 rfl ?_
        refine g_aload_n (n := 47) hX dX6_haveCommonClass_46 rfl rfl rfl ?_
        refine g_acmp_ne (rx := some (ad 12 (nA σ 6 (i + 1)) 0)) (ry := some (ad 12 o 0)) (n := 50) (tgt := 52) hX dX6_haveCommonClass_47 rfl (by decide) (fun h9 => absurd (congrArg some (congrArg (fun z => ad 12 z 0) hEo)) h9) (fun _ => ?_)
        refine g_iconst (n := 51) (v := 1) hX dX6_haveCommonClass_50 rfl rfl ?_
        exact g_zret hX hR dX6_haveCommonClass_51 rfl (h1 ⟨hEu.symm.trans hEo, i + 1, by omega, hc2, hEu⟩)
      · have hnx : shP σ u o 0 → shP σ u o (i + 1) := fun h9 => by obtain ⟨a0, c, a1, a2, a3⟩ := hinv h9; exact ⟨a0, c, by by_cases e9 : c = i + 1; (rw [e9] at a3; exact absurd (a0 ▸ a3) (hEo)); omega, a2, a3⟩
        have r1_6 : f (ad 1 0 0) = .inr (8, [.ref (ad 6 0 0), .ref (ad 7 0 0), .int (nI (nF σ 1)), .int (nI (nF σ 3))]) := (px1 hP).2.2
        have r7_7 : f (ad 7 0 0) = .inl (K 3, 40, rE (gcl ad σ)) := (px7 hP).2.2
        have r15_8 : f (ad 15 (i + 1) 0) = .inr (4, [.int (nI (i + 1)), .ref (ad 12 (nA σ 6 (i + 1)) 0), .ref (ad 9 (nA σ 7 (i + 1)) 0), .int (nI (nA σ 8 (i + 1))), .ref (ad 16 (i + 1) 0), va_rf (if gfa g (i + 1) = true then some (ad 17 (i + 1) 0) else none), .int (gsd g (i + 1)), .int (σ.1 11 (i + 1)), .int (σ.1 9 (i + 1))]) := (px15 hP _ hc1 hc2).2.2
        refine g_iload_n (n := 3) hX dX6_haveCommonClass_2 rfl rfl rfl ?_
        refine g_aload_n (n := 4) hX dX6_haveCommonClass_3 rfl rfl rfl ?_
        refine g_pget (n := 7) ux_X6 rfl hX hU dX6_haveCommonClass_4 rfl (px1 hP).1 r1_6 3 rfl uf_X6_30 rfl ?_
        refine g_icmp_ge (n := 10) (tgt := 58) hX dX6_haveCommonClass_7 rfl (by decide) (fun c7 => absurd c7 (nI_ge (a := i) (b := nF σ 3) (by omega) (by omega))) (fun c7 => ?_)
        refine g_iload_n (n := 11) hX dX6_haveCommonClass_10 rfl rfl rfl ?_
        refine g_aload_n (n := 12) hX dX6_haveCommonClass_11 rfl rfl rfl ?_
        refine g_pget (n := 15) ux_X6 rfl hX hU dX6_haveCommonClass_12 rfl (px1 hP).1 r1_6 1 rfl uf_X6_19 rfl ?_
        refine g_palen (n := 16) (t0 := 3) (v := nI (40)) hX hY dX6_haveCommonClass_15 rfl (px7 hP).1 r7_7 rfl rfl ?_
        refine g_icmp_ge (n := 19) (tgt := 58) hX dX6_haveCommonClass_16 rfl (by decide) (fun c16 => absurd c16 (nI_ge (a := i) (b := 40) (by omega) (by decide))) (fun c16 => ?_)
        refine g_aload_n (n := 20) hX dX6_haveCommonClass_19 rfl rfl rfl ?_
        refine g_pget (n := 23) ux_X6 rfl hX hU dX6_haveCommonClass_20 rfl (px1 hP).1 r1_6 1 rfl uf_X6_19 rfl ?_
        refine g_iload_n (n := 24) hX dX6_haveCommonClass_23 rfl rfl rfl ?_
        refine g_pald (n := 25) (r := some (ad 15 (i + 1) 0)) 3 hX hY dX6_haveCommonClass_24 rfl (px7 hP).1 r7_7 rfl (vp_in_nI (show i < 40 by omega) (by omega)) (by rw [nI_clamp (by omega)]; exact hge) ?_
        show G Γ (va_pl L f) 0 0 25 [(3, .int (nI i)), (0, .ref (ad 1 0 0)), (1, .ref (ad 12 u 0)), (2, .ref (ad 12 o 0))] [.ref (ad 15 (i + 1) 0)]
        refine g_astore (lv' := [(4, .ref (ad 15 (i + 1) 0)), (3, .int (nI i)), (0, .ref (ad 1 0 0)), (1, .ref (ad 12 u 0)), (2, .ref (ad 12 o 0))]) (n := 27) hX dX6_haveCommonClass_25 rfl (by rw [hnL]; rfl) rfl ?_
        refine g_aload (n := 29) hX dX6_haveCommonClass_27 rfl rfl ?_
        refine g_ifnull (n := 32) hX dX6_haveCommonClass_29 rfl ?_
        refine g_aload (n := 34) hX dX6_haveCommonClass_32 rfl rfl ?_
        refine g_pget (n := 37) ux_X2 rfl hX hU dX6_haveCommonClass_34 rfl (px15 hP _ hc1 hc2).1 r15_8 1 rfl uf_X6_54 rfl ?_
        refine g_aload_n (n := 38) hX dX6_haveCommonClass_37 rfl rfl rfl ?_
        refine g_acmp_ne (rx := some (ad 12 (nA σ 6 (i + 1)) 0)) (ry := some (ad 12 u 0)) (n := 41) (tgt := 52) hX dX6_haveCommonClass_38 rfl (by decide) (fun h9 => absurd (congrArg some (congrArg (fun z => ad 12 z 0) hEu)) h9) (fun _ => ?_)
        refine g_aload (n := 43) hX dX6_haveCommonClass_41 rfl rfl ?_
        refine g_pget (n := 46) ux_X2 rfl hX hU dX6_haveCommonClass_43 rfl (px15 hP _ hc1 hc2).1 r15_8 1 rfl uf_X6_54 rfl ?_
        refine g_aload_n (n := 47) hX dX6_haveCommonClass_46 rfl rfl rfl ?_
        refine g_acmp_ne (rx := some (ad 12 (nA σ 6 (i + 1)) 0)) (ry := some (ad 12 o 0)) (n := 50) (tgt := 52) hX dX6_haveCommonClass_47 rfl (by decide) (fun _ => ?_) (fun h9 => absurd (Option.some.inj h9) ((px12 hP _ hcl.1.1 hcl.1.2).ne (px12 hP o ho1 ho2) (tni hEo)))
        refine g_iinc (n := 55) (v := nI (i + 1)) (lv' := [(3, .int (nI (i + 1))), (4, .ref (ad 15 (i + 1) 0)), (0, .ref (ad 1 0 0)), (1, .ref (ad 12 u 0)), (2, .ref (ad 12 o 0))]) hX dX6_haveCommonClass_52 rfl rfl (nI_1 i) (by rw [hnL]; rfl) rfl ?_
        refine g_goto (n := 2) hX dX6_haveCommonClass_55 (by decide) ?_
        refine g_pick (lv' := [(3, .int (nI (i + 1))), (0, .ref (ad 1 0 0)), (1, .ref (ad 12 u 0)), (2, .ref (ad 12 o 0))]) [0, 2, 3, 4] rfl ?_
        exact ih (i + 1) (by omega) hnx
    · have hnx : shP σ u o 0 → shP σ u o (i + 1) := fun h9 => by obtain ⟨a0, c, a1, a2, a3⟩ := hinv h9; exact ⟨a0, c, by by_cases e9 : c = i + 1; (rw [e9] at a3; exact absurd (a3) (hEu)); omega, a2, a3⟩
      have r1_9 : f (ad 1 0 0) = .inr (8, [.ref (ad 6 0 0), .ref (ad 7 0 0), .int (nI (nF σ 1)), .int (nI (nF σ 3))]) := (px1 hP).2.2
      have r7_10 : f (ad 7 0 0) = .inl (K 3, 40, rE (gcl ad σ)) := (px7 hP).2.2
      have r15_11 : f (ad 15 (i + 1) 0) = .inr (4, [.int (nI (i + 1)), .ref (ad 12 (nA σ 6 (i + 1)) 0), .ref (ad 9 (nA σ 7 (i + 1)) 0), .int (nI (nA σ 8 (i + 1))), .ref (ad 16 (i + 1) 0), va_rf (if gfa g (i + 1) = true then some (ad 17 (i + 1) 0) else none), .int (gsd g (i + 1)), .int (σ.1 11 (i + 1)), .int (σ.1 9 (i + 1))]) := (px15 hP _ hc1 hc2).2.2
      refine g_iload_n (n := 3) hX dX6_haveCommonClass_2 rfl rfl rfl ?_
      refine g_aload_n (n := 4) hX dX6_haveCommonClass_3 rfl rfl rfl ?_
      refine g_pget (n := 7) ux_X6 rfl hX hU dX6_haveCommonClass_4 rfl (px1 hP).1 r1_9 3 rfl uf_X6_30 rfl ?_
      refine g_icmp_ge (n := 10) (tgt := 58) hX dX6_haveCommonClass_7 rfl (by decide) (fun c7 => absurd c7 (nI_ge (a := i) (b := nF σ 3) (by omega) (by omega))) (fun c7 => ?_)
      refine g_iload_n (n := 11) hX dX6_haveCommonClass_10 rfl rfl rfl ?_
      refine g_aload_n (n := 12) hX dX6_haveCommonClass_11 rfl rfl rfl ?_
      refine g_pget (n := 15) ux_X6 rfl hX hU dX6_haveCommonClass_12 rfl (px1 hP).1 r1_9 1 rfl uf_X6_19 rfl ?_
      refine g_palen (n := 16) (t0 := 3) (v := nI (40)) hX hY dX6_haveCommonClass_15 rfl (px7 hP).1 r7_10 rfl rfl ?_
      refine g_icmp_ge (n := 19) (tgt := 58) hX dX6_haveCommonClass_16 rfl (by decide) (fun c16 => absurd c16 (nI_ge (a := i) (b := 40) (by omega) (by decide))) (fun c16 => ?_)
      refine g_aload_n (n := 20) hX dX6_haveCommonClass_19 rfl rfl rfl ?_
      refine g_pget (n := 23) ux_X6 rfl hX hU dX6_haveCommonClass_20 rfl (px1 hP).1 r1_9 1 rfl uf_X6_19 rfl ?_
      refine g_iload_n (n := 24) hX dX6_haveCommonClass_23 rfl rfl rfl ?_
      refine g_pald (n := 25) (r := some (ad 15 (i + 1) 0)) 3 hX hY dX6_haveCommonClass_24 rfl (px7 hP).1 r7_10 rfl (vp_in_nI (show i < 40 by omega) (by omega)) (by rw [nI_clamp (by omega)]; exact hge) ?_
      show G Γ (va_pl L f) 0 0 25 [(3, .int (nI i)), (0, .ref (ad 1 0 0)), (1, .ref (ad 12 u 0)), (2, .ref (ad 12 o 0))] [.ref (ad 15 (i + 1) 0)]
      refine g_astore (lv' := [(4, .ref (ad 15 (i + 1) 0)), (3, .int (nI i)), (0, .ref (ad 1 0 0)), (1, .ref (ad 12 u 0)), (2, .ref (ad 12 o 0))]) (n := 27) hX dX6_haveCommonClass_25 rfl (by rw [hnL]; rfl) rfl ?_
      refine g_aload (n := 29) hX dX6_haveCommonClass_27 rfl rfl ?_
      refine g_ifnull (n := 32) hX dX6_haveCommonClass_29 rfl ?_
      refine g_aload (n := 34) hX dX6_haveCommonClass_32 rfl rfl ?_
      refine g_pget (n := 37) ux_X2 rfl hX hU dX6_haveCommonClass_34 rfl (px15 hP _ hc1 hc2).1 r15_11 1 rfl uf_X6_54 rfl ?_
      refine g_aload_n (n := 38) hX dX6_haveCommonClass_37 rfl rfl rfl ?_
      refine g_acmp_ne (rx := some (ad 12 (nA σ 6 (i + 1)) 0)) (ry := some (ad 12 u 0)) (n := 41) (tgt := 52) hX dX6_haveCommonClass_38 rfl (by decide) (fun _ => ?_) (fun h9 => absurd (Option.some.inj h9) ((px12 hP _ hcl.1.1 hcl.1.2).ne (px12 hP u hu1 hu2) (tni hEu)))
      refine g_iinc (n := 55) (v := nI (i + 1)) (lv' := [(3, .int (nI (i + 1))), (4, .ref (ad 15 (i + 1) 0)), (0, .ref (ad 1 0 0)), (1, .ref (ad 12 u 0)), (2, .ref (ad 12 o 0))]) hX dX6_haveCommonClass_52 rfl rfl (nI_1 i) (by rw [hnL]; rfl) rfl ?_
      refine g_goto (n := 2) hX dX6_haveCommonClass_55 (by decide) ?_
      refine g_pick (lv' := [(3, .int (nI (i + 1))), (0, .ref (ad 1 0 0)), (1, .ref (ad 12 u 0)), (2, .ref (ad 12 o 0))]) [0, 2, 3, 4] rfl ?_
      exact ih (i + 1) (by omega) hnx

set_option maxHeartbeats 4000000 in
set_option maxRecDepth 100000 in
theorem r_hcc (l : Launch) (D : va_G) (K : Nat → ClassId) (L : List Nat) (f : Nat → va_E) (ad : AD) (κ : TG) (g : GX) (σ : MS) (hP : PX K L f ad κ g σ) (hJ : Inv σ) {u o : Nat} (hu1 : 1 ≤ u) (hu2 : u ≤ nF σ 2) (ho1 : 1 ≤ o) (ho2 : o ≤ nF σ 2) : Mc l yX6_haveCommonClass (wM yX6_haveCommonClass cX6_haveCommonClass 5 (some .boolean)) (rmL 0 0 0) D (yY K) [.ref (ad 1 0 0), .ref (ad 12 u 0), .ref (ad 12 o 0)] (va_pl L f) (fun v w => v = some (.int (S_shares σ (nI u) (nI o)).1) ∧ w = va_pl L f) 0 0 := by
  refine m_start (lv := [(0, .ref (ad 1 0 0)), (1, .ref (ad 12 u 0)), (2, .ref (ad 12 o 0))]) rfl (Nat.le_of_ble_eq_true rfl) rfl (fun Γ hX hRm hnL hY hDD hLa hR hI hE => ?_)
  have hU : ∀ w ∈ wU, w ∈ wM yX6_haveCommonClass cX6_haveCommonClass 5 (some .boolean) := fun w h => wM_in h
  subst hLa
  subst hDD
  have hI := hJ
  have hu8 := hI.nu.2
  have r1_12 : f (ad 1 0 0) = .inr (8, [.ref (ad 6 0 0), .ref (ad 7 0 0), .int (nI (nF σ 1)), .int (nI (nF σ 3))]) := (px1 hP).2.2
  have r7_13 : f (ad 7 0 0) = .inl (K 3, 40, rE (gcl ad σ)) := (px7 hP).2.2
  refine g_iconst (n := 1) (v := 0) hX dX6_haveCommonClass_0 rfl rfl ?_
  refine g_istore_n (lv' := [(3, .int 0), (0, .ref (ad 1 0 0)), (1, .ref (ad 12 u 0)), (2, .ref (ad 12 o 0))]) (n := 2) hX dX6_haveCommonClass_1 rfl rfl (by rw [hnL]; rfl) rfl ?_
  refine g_pick (lv' := [(3, .int (nI 0)), (0, .ref (ad 1 0 0)), (1, .ref (ad 12 u 0)), (2, .ref (ad 12 o 0))]) [0, 1, 2, 3] rfl ?_
  exact lp_hcc hX hE hRm hnL hY hP hI hu1 hu2 ho1 ho2 hR (fun h => ⟨congrArg (fun z => some (Value.int z)) (sh_val hI (by omega) (by omega) (fun _ => rfl) (fun h9 => absurd h h9)), rfl⟩) (fun h => ⟨congrArg (fun z => some (Value.int z)) (sh_val hI (by omega) (by omega) (fun h9 => absurd h9 h) (fun _ => rfl)), rfl⟩) (nF σ 3) 0 (Nat.zero_add _) (fun h => h)

theorem sh_isB (σ : MS) (u o : Int32) : isB (S_shares σ u o).1 := by
  unfold S_shares
  have h : ∀ (c : Prop) [Decidable c], isB (bI c) := fun c _ => by unfold bI; split <;> simp [isB]
  split
  · exact h _
  · exact Or.inl rfl
theorem sh_no {σ : MS} (hI : Inv σ) {u o : Int32} (h : ¬ (1 ≤ u ∧ u ≤ σ.2 2) ∨ ¬ (1 ≤ o ∧ o ≤ σ.2 2)) : (S_shares σ u o).1 = 0 := by
  unfold S_shares
  have hc := hI.nc.2
  have hn := hI.nu.2
  by_cases ha : anyU σ u (nF σ 3) = true
  · obtain ⟨c, a1, a2, a3⟩ := (anyU_iff σ u _).mp ha
    have a4 := hI.cls c a1 a2
    have hu : 1 ≤ u ∧ u ≤ σ.2 2 := by
      rw [← a3, (hI.cu (c := c) (by omega)).1, hI.nu.1]
      exact rI_in a4.1.1 a4.1.2 (by omega)
    rw [if_pos ha]
    refine bI_f (fun e => ?_)
    rcases h with h | h
    · exact h hu
    · exact h (e ▸ hu)
  · rw [if_neg ha]
set_option maxHeartbeats 4000000 in
set_option maxRecDepth 100000 in
theorem F_shares (l : Launch) (D : va_G) (K : Nat → ClassId) (L : List Nat) (f : Nat → va_E) (ad : AD) (κ : TG) (g : GX) (σ : MS) (u o : Int32) (hQ : RX K L f ad κ g σ 0) : Mc l yX7_shares (wM yX7_shares cX7_shares 5 (some .boolean)) (rmL 1 0 0) D (yY K) [.ref (ad 0 0 0), .int u, .int o] (va_pl L f) (fun v w => v = some (.int (S_shares σ u o).1) ∧ RW K (ad 0 0 0) (S_shares σ u o).2 w) 0 0 := by
  refine m_start (lv := [(0, .ref (ad 0 0 0)), (1, .int u), (2, .int o)]) rfl (Nat.le_of_ble_eq_true rfl) rfl (fun Γ hX hRm hnL hY hDD hLa hR hI hE => ?_)
  have hU : ∀ w ∈ wU, w ∈ wM yX7_shares cX7_shares 5 (some .boolean) := fun w h => wM_in h
  subst hLa
  subst hDD
  have hP := hQ.1
  have hL := hQ.2.1
  have hI := hQ.2.2
  by_cases hu : 1 ≤ u ∧ u ≤ σ.2 2
  · obtain ⟨n, rfl, hu1, hu8, -, hu2⟩ := in1 hI.1.2.1 (by decide) hu
    have hu2 : n ≤ nF σ 2 := hu2
    have ehu : (nI n).toNatClampNeg = n := nI_clamp (by omega)
    by_cases ho : 1 ≤ o ∧ o ≤ σ.2 2
    · obtain ⟨m, rfl, ho1, ho8, -, ho2⟩ := in1 hI.1.2.1 (by decide) ho
      have ho2 : m ≤ nF σ 2 := ho2
      have eho : (nI m).toNatClampNeg = m := nI_clamp (by omega)
      by_cases hz : (S_shares σ (nI n) (nI m)).1 = 0
      · have r0_14 : f (ad 0 0 0) = .inr (9, [.ref (ad 1 0 0), .ref (ad 2 0 0), .ref (ad 3 0 0), .ref (ad 8 0 0), .int (nI (nF σ 2))]) := (px0 hP).2.2
        have r1_15 : f (ad 1 0 0) = .inr (8, [.ref (ad 6 0 0), .ref (ad 7 0 0), .int (nI (nF σ 1)), .int (nI (nF σ 3))]) := (px1 hP).2.2
        have r12_16 : f (ad 12 n 0) = .inr (7, [.ref (ad 13 n 0), .ref (ad 14 n 0), .int (σ.1 12 n), .int (σ.1 13 n), .int (gfl g n), .int (geb g n), .int (σ.1 17 n), .int (σ.1 18 n), .int (nI (nA σ 19 n))]) := (px12 hP n hu1 hu2).2.2
        have r12_17 : f (ad 12 m 0) = .inr (7, [.ref (ad 13 m 0), .ref (ad 14 m 0), .int (σ.1 12 m), .int (σ.1 13 m), .int (gfl g m), .int (geb g m), .int (σ.1 17 m), .int (σ.1 18 m), .int (nI (nA σ 19 m))]) := (px12 hP m ho1 ho2).2.2
        refine g_aload_n (n := 1) hX dX7_shares_0 rfl rfl rfl ?_
        refine g_iload_n (n := 2) hX dX7_shares_1 rfl rfl rfl ?_
        refine g_pcallV (n := 5) (As := [.int (nI n)]) (rest := []) hX hE hU hY dX7_shares_2 rfl yv_X7_findUnit um_X7_61 (r_findUnitY _ _ hP hI hu1 hu2) ⟨rfl, rfl⟩ (rm_le hRm rfl rfl) rfl (px0 hP).1 r0_14 rfl rfl rfl (Nat.le_of_ble_eq_true rfl) ⟨Nat.zero_le _, Nat.zero_le _⟩ (fun v0 w0 hq0 => ?_)
        obtain ⟨rfl, rfl⟩ := hq0
        show G Γ (va_pl L f) 0 0 5 [(0, .ref (ad 0 0 0)), (1, .int (nI n)), (2, .int (nI m))] [.ref (ad 12 n 0)]
        refine g_astore_n (lv' := [(3, .ref (ad 12 n 0)), (0, .ref (ad 0 0 0)), (1, .int (nI n)), (2, .int (nI m))]) (n := 6) hX dX7_shares_5 rfl rfl (by rw [hnL]; rfl) rfl ?_
        refine g_aload_n (n := 7) hX dX7_shares_6 rfl rfl rfl ?_
        refine g_iload_n (n := 8) hX dX7_shares_7 rfl rfl rfl ?_
        refine g_pcallV (n := 11) (As := [.int (nI m)]) (rest := []) hX hE hU hY dX7_shares_8 rfl yv_X7_findUnit um_X7_61 (r_findUnitY _ _ hP hI ho1 ho2) ⟨rfl, rfl⟩ (rm_le hRm rfl rfl) rfl (px0 hP).1 r0_14 rfl rfl rfl (Nat.le_of_ble_eq_true rfl) ⟨Nat.zero_le _, Nat.zero_le _⟩ (fun v0 w0 hq0 => ?_)
        obtain ⟨rfl, rfl⟩ := hq0
        show G Γ (va_pl L f) 0 0 11 [(3, .ref (ad 12 n 0)), (0, .ref (ad 0 0 0)), (1, .int (nI n)), (2, .int (nI m))] [.ref (ad 12 m 0)]
        refine g_astore (lv' := [(4, .ref (ad 12 m 0)), (3, .ref (ad 12 n 0)), (0, .ref (ad 0 0 0)), (1, .int (nI n)), (2, .int (nI m))]) (n := 13) hX dX7_shares_11 rfl (by rw [hnL]; rfl) rfl ?_
        refine g_aload_n (n := 14) hX dX7_shares_13 rfl rfl rfl ?_
        refine g_ifnull (n := 17) hX dX7_shares_14 rfl ?_
        refine g_aload (n := 19) hX dX7_shares_17 rfl rfl ?_
        refine g_ifnull (n := 22) hX dX7_shares_19 rfl ?_
        refine g_aload_n (n := 23) hX dX7_shares_22 rfl rfl rfl ?_
        refine g_pget (n := 26) ux_X7 rfl hX hU dX7_shares_23 rfl (px0 hP).1 r0_14 0 rfl uf_X7_10 rfl ?_
        refine g_aload_n (n := 27) hX dX7_shares_26 rfl rfl rfl ?_
        refine g_aload (n := 29) hX dX7_shares_27 rfl rfl ?_
        refine g_pcallV (n := 32) (As := [.ref (ad 12 n 0), .ref (ad 12 m 0)]) (rest := []) hX hE hU hY dX7_shares_29 rfl yv_X6_haveCommonClass um_X7_141 (r_hcc _ _ K L f ad κ g σ hP hI hu1 hu2 ho1 ho2) ⟨rfl, rfl⟩ (rm_le hRm rfl rfl) rfl (px1 hP).1 r1_15 rfl rfl rfl (Nat.le_of_ble_eq_true rfl) ⟨Nat.zero_le _, Nat.zero_le _⟩ (fun v0 w0 hq0 => ?_)
        obtain ⟨rfl, rfl⟩ := hq0
        show G Γ (va_pl L f) 0 0 32 [(4, .ref (ad 12 m 0)), (3, .ref (ad 12 n 0)), (0, .ref (ad 0 0 0)), (1, .int (nI n)), (2, .int (nI m))] [.int ((S_shares σ (nI n) (nI m)).1)]
        refine g_if_eq (n := 35) (tgt := 39) hX dX7_shares_32 rfl (by decide) (fun c32 => ?_) (fun c32 => absurd hz c32)
        refine g_iconst (n := 40) (v := 0) hX dX7_shares_39 rfl rfl ?_
        exact g_zret hX hR dX7_shares_40 rfl ⟨by rw [hz], RW_rd hQ (cor_F0 σ 0)⟩
      · have r0_18 : f (ad 0 0 0) = .inr (9, [.ref (ad 1 0 0), .ref (ad 2 0 0), .ref (ad 3 0 0), .ref (ad 8 0 0), .int (nI (nF σ 2))]) := (px0 hP).2.2
        have r1_19 : f (ad 1 0 0) = .inr (8, [.ref (ad 6 0 0), .ref (ad 7 0 0), .int (nI (nF σ 1)), .int (nI (nF σ 3))]) := (px1 hP).2.2
        have r12_20 : f (ad 12 n 0) = .inr (7, [.ref (ad 13 n 0), .ref (ad 14 n 0), .int (σ.1 12 n), .int (σ.1 13 n), .int (gfl g n), .int (geb g n), .int (σ.1 17 n), .int (σ.1 18 n), .int (nI (nA σ 19 n))]) := (px12 hP n hu1 hu2).2.2
        have r12_21 : f (ad 12 m 0) = .inr (7, [.ref (ad 13 m 0), .ref (ad 14 m 0), .int (σ.1 12 m), .int (σ.1 13 m), .int (gfl g m), .int (geb g m), .int (σ.1 17 m), .int (σ.1 18 m), .int (nI (nA σ 19 m))]) := (px12 hP m ho1 ho2).2.2
        refine g_aload_n (n := 1) hX dX7_shares_0 rfl rfl rfl ?_
        refine g_iload_n (n := 2) hX dX7_shares_1 rfl rfl rfl ?_
        refine g_pcallV (n := 5) (As := [.int (nI n)]) (rest := []) hX hE hU hY dX7_shares_2 rfl yv_X7_findUnit um_X7_61 (r_findUnitY _ _ hP hI hu1 hu2) ⟨rfl, rfl⟩ (rm_le hRm rfl rfl) rfl (px0 hP).1 r0_18 rfl rfl rfl (Nat.le_of_ble_eq_true rfl) ⟨Nat.zero_le _, Nat.zero_le _⟩ (fun v0 w0 hq0 => ?_)
        obtain ⟨rfl, rfl⟩ := hq0
        show G Γ (va_pl L f) 0 0 5 [(0, .ref (ad 0 0 0)), (1, .int (nI n)), (2, .int (nI m))] [.ref (ad 12 n 0)]
        refine g_astore_n (lv' := [(3, .ref (ad 12 n 0)), (0, .ref (ad 0 0 0)), (1, .int (nI n)), (2, .int (nI m))]) (n := 6) hX dX7_shares_5 rfl rfl (by rw [hnL]; rfl) rfl ?_
        refine g_aload_n (n := 7) hX dX7_shares_6 rfl rfl rfl ?_
        refine g_iload_n (n := 8) hX dX7_shares_7 rfl rfl rfl ?_
        refine g_pcallV (n := 11) (As := [.int (nI m)]) (rest := []) hX hE hU hY dX7_shares_8 rfl yv_X7_findUnit um_X7_61 (r_findUnitY _ _ hP hI ho1 ho2) ⟨rfl, rfl⟩ (rm_le hRm rfl rfl) rfl (px0 hP).1 r0_18 rfl rfl rfl (Nat.le_of_ble_eq_true rfl) ⟨Nat.zero_le _, Nat.zero_le _⟩ (fun v0 w0 hq0 => ?_)
        obtain ⟨rfl, rfl⟩ := hq0
        show G Γ (va_pl L f) 0 0 11 [(3, .ref (ad 12 n 0)), (0, .ref (ad 0 0 0)), (1, .int (nI n)), (2, .int (nI m))] [.ref (ad 12 m 0)]
        refine g_astore (lv' := [(4, .ref (ad 12 m 0)), (3, .ref (ad 12 n 0)), (0, .ref (ad 0 0 0)), (1, .int (nI n)), (2, .int (nI m))]) (n := 13) hX dX7_shares_11 rfl (by rw [hnL]; rfl) rfl ?_
        refine g_aload_n (n := 14) hX dX7_shares_13 rfl rfl rfl ?_
        refine g_ifnull (n := 17) hX dX7_shares_14 rfl ?_
        refine g_aload (n := 19) hX dX7_shares_17 rfl rfl ?_
        refine g_ifnull (n := 22) hX dX7_shares_19 rfl ?_
        refine g_aload_n (n := 23) hX dX7_shares_22 rfl rfl rfl ?_
        refine g_pget (n := 26) ux_X7 rfl hX hU dX7_shares_23 rfl (px0 hP).1 r0_18 0 rfl uf_X7_10 rfl ?_
        refine g_aload_n (n := 27) hX dX7_shares_26 rfl rfl rfl ?_
        refine g_aload (n := 29) hX dX7_shares_27 rfl rfl ?_
        refine g_pcallV (n := 32) (As := [.ref (ad 12 n 0), .ref (ad 12 m 0)]) (rest := []) hX hE hU hY dX7_shares_29 rfl yv_X6_haveCommonClass um_X7_141 (r_hcc _ _ K L f ad κ g σ hP hI hu1 hu2 ho1 ho2) ⟨rfl, rfl⟩ (rm_le hRm rfl rfl) rfl (px1 hP).1 r1_19 rfl rfl rfl (Nat.le_of_ble_eq_true rfl) ⟨Nat.zero_le _, Nat.zero_le _⟩ (fun v0 w0 hq0 => ?_)
        obtain ⟨rfl, rfl⟩ := hq0
        show G Γ (va_pl L f) 0 0 32 [(4, .ref (ad 12 m 0)), (3, .ref (ad 12 n 0)), (0, .ref (ad 0 0 0)), (1, .int (nI n)), (2, .int (nI m))] [.int ((S_shares σ (nI n) (nI m)).1)]
        refine g_if_eq (n := 35) (tgt := 39) hX dX7_shares_32 rfl (by decide) (fun c32 => absurd c32 hz) (fun c32 => ?_)
        refine g_iconst (n := 36) (v := 1) hX dX7_shares_35 rfl rfl ?_
        refine g_goto (n := 40) hX dX7_shares_36 (by decide) ?_
        exact g_zret hX hR dX7_shares_40 rfl ⟨by rw [(sh_isB σ (nI n) (nI m)).resolve_left hz], RW_rd hQ (cor_F0 σ 0)⟩
    · have r0_22 : f (ad 0 0 0) = .inr (9, [.ref (ad 1 0 0), .ref (ad 2 0 0), .ref (ad 3 0 0), .ref (ad 8 0 0), .int (nI (nF σ 2))]) := (px0 hP).2.2
      have r1_23 : f (ad 1 0 0) = .inr (8, [.ref (ad 6 0 0), .ref (ad 7 0 0), .int (nI (nF σ 1)), .int (nI (nF σ 3))]) := (px1 hP).2.2
      have r12_24 : f (ad 12 n 0) = .inr (7, [.ref (ad 13 n 0), .ref (ad 14 n 0), .int (σ.1 12 n), .int (σ.1 13 n), .int (gfl g n), .int (geb g n), .int (σ.1 17 n), .int (σ.1 18 n), .int (nI (nA σ 19 n))]) := (px12 hP n hu1 hu2).2.2
      refine g_aload_n (n := 1) hX dX7_shares_0 rfl rfl rfl ?_
      refine g_iload_n (n := 2) hX dX7_shares_1 rfl rfl rfl ?_
      refine g_pcallV (n := 5) (As := [.int (nI n)]) (rest := []) hX hE hU hY dX7_shares_2 rfl yv_X7_findUnit um_X7_61 (r_findUnitY _ _ hP hI hu1 hu2) ⟨rfl, rfl⟩ (rm_le hRm rfl rfl) rfl (px0 hP).1 r0_22 rfl rfl rfl (Nat.le_of_ble_eq_true rfl) ⟨Nat.zero_le _, Nat.zero_le _⟩ (fun v0 w0 hq0 => ?_)
      obtain ⟨rfl, rfl⟩ := hq0
      show G Γ (va_pl L f) 0 0 5 [(0, .ref (ad 0 0 0)), (1, .int (nI n)), (2, .int o)] [.ref (ad 12 n 0)]
      refine g_astore_n (lv' := [(3, .ref (ad 12 n 0)), (0, .ref (ad 0 0 0)), (1, .int (nI n)), (2, .int o)]) (n := 6) hX dX7_shares_5 rfl rfl (by rw [hnL]; rfl) rfl ?_
      refine g_aload_n (n := 7) hX dX7_shares_6 rfl rfl rfl ?_
      refine g_iload_n (n := 8) hX dX7_shares_7 rfl rfl rfl ?_
      refine g_pcallV (n := 11) (As := [.int o]) (rest := []) hX hE hU hY dX7_shares_8 rfl yv_X7_findUnit um_X7_61 (r_findUnitN _ _ hP hI ho) ⟨rfl, rfl⟩ (rm_le hRm rfl rfl) rfl (px0 hP).1 r0_22 rfl rfl rfl (Nat.le_of_ble_eq_true rfl) ⟨Nat.zero_le _, Nat.zero_le _⟩ (fun v0 w0 hq0 => ?_)
      obtain ⟨rfl, rfl⟩ := hq0
      show G Γ (va_pl L f) 0 0 11 [(3, .ref (ad 12 n 0)), (0, .ref (ad 0 0 0)), (1, .int (nI n)), (2, .int o)] [.null]
      refine g_astoreN (lv' := [(4, .null), (3, .ref (ad 12 n 0)), (0, .ref (ad 0 0 0)), (1, .int (nI n)), (2, .int o)]) (n := 13) hX dX7_shares_11 rfl (by rw [hnL]; rfl) rfl ?_
      refine g_aload_n (n := 14) hX dX7_shares_13 rfl rfl rfl ?_
      refine g_ifnull (n := 17) hX dX7_shares_14 rfl ?_
      refine g_aloadN (n := 19) hX dX7_shares_17 rfl rfl ?_
      refine g_ifnullN (tgt := 39) hX dX7_shares_19 (by decide) ?_
      refine g_iconst (n := 40) (v := 0) hX dX7_shares_39 rfl rfl ?_
      exact g_zret hX hR dX7_shares_40 rfl ⟨by rw [sh_no hI (Or.inr ho)], RW_rd hQ (cor_F0 σ 0)⟩
  · by_cases ho : 1 ≤ o ∧ o ≤ σ.2 2
    · obtain ⟨m, rfl, ho1, ho8, -, ho2⟩ := in1 hI.1.2.1 (by decide) ho
      have ho2 : m ≤ nF σ 2 := ho2
      have eho : (nI m).toNatClampNeg = m := nI_clamp (by omega)
      have r0_25 : f (ad 0 0 0) = .inr (9, [.ref (ad 1 0 0), .ref (ad 2 0 0), .ref (ad 3 0 0), .ref (ad 8 0 0), .int (nI (nF σ 2))]) := (px0 hP).2.2
      have r1_26 : f (ad 1 0 0) = .inr (8, [.ref (ad 6 0 0), .ref (ad 7 0 0), .int (nI (nF σ 1)), .int (nI (nF σ 3))]) := (px1 hP).2.2
      refine g_aload_n (n := 1) hX dX7_shares_0 rfl rfl rfl ?_
      refine g_iload_n (n := 2) hX dX7_shares_1 rfl rfl rfl ?_
      refine g_pcallV (n := 5) (As := [.int u]) (rest := []) hX hE hU hY dX7_shares_2 rfl yv_X7_findUnit um_X7_61 (r_findUnitN _ _ hP hI hu) ⟨rfl, rfl⟩ (rm_le hRm rfl rfl) rfl (px0 hP).1 r0_25 rfl rfl rfl (Nat.le_of_ble_eq_true rfl) ⟨Nat.zero_le _, Nat.zero_le _⟩ (fun v0 w0 hq0 => ?_)
      obtain ⟨rfl, rfl⟩ := hq0
      show G Γ (va_pl L f) 0 0 5 [(0, .ref (ad 0 0 0)), (1, .int u), (2, .int (nI m))] [.null]
      refine g_astore_nN (lv' := [(3, .null), (0, .ref (ad 0 0 0)), (1, .int u), (2, .int (nI m))]) (n := 6) hX dX7_shares_5 rfl rfl (by rw [hnL]; rfl) rfl ?_
      refine g_aload_n (n := 7) hX dX7_shares_6 rfl rfl rfl ?_
      refine g_iload_n (n := 8) hX dX7_shares_7 rfl rfl rfl ?_
      refine g_pcallV (n := 11) (As := [.int (nI m)]) (rest := []) hX hE hU hY dX7_shares_8 rfl yv_X7_findUnit um_X7_61 (r_findUnitY _ _ hP hI ho1 ho2) ⟨rfl, rfl⟩ (rm_le hRm rfl rfl) rfl (px0 hP).1 r0_25 rfl rfl rfl (Nat.le_of_ble_eq_true rfl) ⟨Nat.zero_le _, Nat.zero_le _⟩ (fun v0 w0 hq0 => ?_)
      obtain ⟨rfl, rfl⟩ := hq0
      show G Γ (va_pl L f) 0 0 11 [(3, .null), (0, .ref (ad 0 0 0)), (1, .int u), (2, .int (nI m))] [.ref (ad 12 m 0)]
      refine g_astore (lv' := [(4, .ref (ad 12 m 0)), (3, .null), (0, .ref (ad 0 0 0)), (1, .int u), (2, .int (nI m))]) (n := 13) hX dX7_shares_11 rfl (by rw [hnL]; rfl) rfl ?_
      refine g_aload_nN (n := 14) hX dX7_shares_13 rfl rfl rfl ?_
      refine g_ifnullN (tgt := 39) hX dX7_shares_14 (by decide) ?_
      refine g_iconst (n := 40) (v := 0) hX dX7_shares_39 rfl rfl ?_
      exact g_zret hX hR dX7_shares_40 rfl ⟨by rw [sh_no hI (Or.inl hu)], RW_rd hQ (cor_F0 σ 0)⟩
    · have r0_27 : f (ad 0 0 0) = .inr (9, [.ref (ad 1 0 0), .ref (ad 2 0 0), .ref (ad 3 0 0), .ref (ad 8 0 0), .int (nI (nF σ 2))]) := (px0 hP).2.2
      have r1_28 : f (ad 1 0 0) = .inr (8, [.ref (ad 6 0 0), .ref (ad 7 0 0), .int (nI (nF σ 1)), .int (nI (nF σ 3))]) := (px1 hP).2.2
      refine g_aload_n (n := 1) hX dX7_shares_0 rfl rfl rfl ?_
      refine g_iload_n (n := 2) hX dX7_shares_1 rfl rfl rfl ?_
      refine g_pcallV (n := 5) (As := [.int u]) (rest := []) hX hE hU hY dX7_shares_2 rfl yv_X7_findUnit um_X7_61 (r_findUnitN _ _ hP hI hu) ⟨rfl, rfl⟩ (rm_le hRm rfl rfl) rfl (px0 hP).1 r0_27 rfl rfl rfl (Nat.le_of_ble_eq_true rfl) ⟨Nat.zero_le _, Nat.zero_le _⟩ (fun v0 w0 hq0 => ?_)
      obtain ⟨rfl, rfl⟩ := hq0
      show G Γ (va_pl L f) 0 0 5 [(0, .ref (ad 0 0 0)), (1, .int u), (2, .int o)] [.null]
      refine g_astore_nN (lv' := [(3, .null), (0, .ref (ad 0 0 0)), (1, .int u), (2, .int o)]) (n := 6) hX dX7_shares_5 rfl rfl (by rw [hnL]; rfl) rfl ?_
      refine g_aload_n (n := 7) hX dX7_shares_6 rfl rfl rfl ?_
      refine g_iload_n (n := 8) hX dX7_shares_7 rfl rfl rfl ?_
      refine g_pcallV (n := 11) (As := [.int o]) (rest := []) hX hE hU hY dX7_shares_8 rfl yv_X7_findUnit um_X7_61 (r_findUnitN _ _ hP hI ho) ⟨rfl, rfl⟩ (rm_le hRm rfl rfl) rfl (px0 hP).1 r0_27 rfl rfl rfl (Nat.le_of_ble_eq_true rfl) ⟨Nat.zero_le _, Nat.zero_le _⟩ (fun v0 w0 hq0 => ?_)
      obtain ⟨rfl, rfl⟩ := hq0
      show G Γ (va_pl L f) 0 0 11 [(3, .null), (0, .ref (ad 0 0 0)), (1, .int u), (2, .int o)] [.null]
      refine g_astoreN (lv' := [(4, .null), (3, .null), (0, .ref (ad 0 0 0)), (1, .int u), (2, .int o)]) (n := 13) hX dX7_shares_11 rfl (by rw [hnL]; rfl) rfl ?_
      refine g_aload_nN (n := 14) hX dX7_shares_13 rfl rfl rfl ?_
      refine g_ifnullN (tgt := 39) hX dX7_shares_14 (by decide) ?_
      refine g_iconst (n := 40) (v := 0) hX dX7_shares_39 rfl rfl ?_
      exact g_zret hX hR dX7_shares_40 rfl ⟨by rw [sh_no hI (Or.inl hu)], RW_rd hQ (cor_F0 σ 0)⟩

