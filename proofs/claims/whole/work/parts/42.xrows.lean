set_option maxHeartbeats 4000000 in
set_option maxRecDepth 100000 in
theorem x_latestOf (l : Launch) (D : va_G) (K : Nat → ClassId) (L : List Nat) (f : Nat → va_E) (o pr ra p : Nat) (g : Nat → Option Nat) (la ma : Nat) (e2 e3 e4 e5 e6 e7 e8 : Int32) (v1 v2 v4 : Int32) (hoL : o ∈ L) (hof : f o = .inr (7, [.ref la, .ref ma, .int e2, .int e3, .int e4, .int e5, .int e6, .int e7, .int e8])) (hpL : pr ∈ L) (hpf : f pr = .inr (5, [.int (nI p), .int v1, .int v2, .ref ra, .int v4])) (haL : la ∈ L) (haf : f la = .inl (K 3, 12, rE g)) (hp1 : 1 ≤ p) (hp2 : p ≤ 12) : Mc l yX5_latestOf (wM yX5_latestOf cX5_latestOf 3 (some (.object "ClassMaker4$MadeClass"))) (rmL 0 0 0) D (yY K) [.ref o, .ref pr] (va_pl L f) (fun v w => v = some (va_rf (g (p - 1))) ∧ w = va_pl L f) 0 0 := by
  refine m_start (lv := [(0, .ref o), (1, .ref pr)]) rfl (Nat.le_of_ble_eq_true rfl) rfl (fun Γ hX hRm hnL hY hDD hLa hR hI hE => ?_)
  have hU : ∀ w ∈ wU, w ∈ wM yX5_latestOf cX5_latestOf 3 (some (.object "ClassMaker4$MadeClass")) := fun w h => wM_in h
  subst hLa
  subst hDD
  refine g_aload_n (n := 1) hX dX5_latestOf_0 rfl rfl rfl ?_
  refine g_pget (n := 4) ux_X3 rfl hX hU dX5_latestOf_1 rfl hpL hpf 0 rfl uf_X5_21 rfl ?_
  refine g_iconst (n := 5) (v := 1) hX dX5_latestOf_4 rfl rfl ?_
  refine g_isub (n := 6) (v := nI (p - 1)) hX dX5_latestOf_5 rfl (nI_sub1 hp1) ?_
  refine g_istore_n (lv' := [(2, .int (nI (p - 1))), (0, .ref o), (1, .ref pr)]) (n := 7) hX dX5_latestOf_6 rfl rfl (by rw [hnL]; rfl) rfl ?_
  refine g_iload_n (n := 8) hX dX5_latestOf_7 rfl rfl rfl ?_
  refine g_if_lt (n := 11) (tgt := 29) hX dX5_latestOf_8 rfl (by decide) (fun c8 => absurd c8 (nI_pos (by omega))) (fun c8 => ?_)
  refine g_iload_n (n := 12) hX dX5_latestOf_11 rfl rfl rfl ?_
  refine g_aload_n (n := 13) hX dX5_latestOf_12 rfl rfl rfl ?_
  refine g_pget (n := 16) ux_X5 rfl hX hU dX5_latestOf_13 rfl hoL hof 0 rfl uf_X5_11 rfl ?_
  refine g_palen (n := 17) (t0 := 3) (v := nI (12)) hX hY dX5_latestOf_16 rfl haL haf rfl rfl ?_
  refine g_icmp_ge (n := 20) (tgt := 29) hX dX5_latestOf_17 rfl (by decide) (fun c17 => absurd c17 (nI_ge (a := p - 1) (b := 12) (by omega) (by decide))) (fun c17 => ?_)
  refine g_aload_n (n := 21) hX dX5_latestOf_20 rfl rfl rfl ?_
  refine g_pget (n := 24) ux_X5 rfl hX hU dX5_latestOf_21 rfl hoL hof 0 rfl uf_X5_11 rfl ?_
  refine g_iload_n (n := 25) hX dX5_latestOf_24 rfl rfl rfl ?_
  refine g_pald (n := 26) (r := g (p - 1)) 3 hX hY dX5_latestOf_25 rfl haL haf rfl (vp_in_nI (show p - 1 < 12 by omega) (by omega)) (congrArg g (nI_clamp (by omega))) ?_
  refine g_goto (n := 30) hX dX5_latestOf_26 (by decide) ?_
  exact g_aret hX hR dX5_latestOf_30 (Or.inl ⟨_, rfl⟩) (va_rf_or _) ⟨rfl, rfl⟩

set_option maxHeartbeats 4000000 in
set_option maxRecDepth 100000 in
theorem x_setLatest (l : Launch) (D : va_G) (K : Nat → ClassId) (L : List Nat) (f : Nat → va_E) (o pr ra p : Nat) (g : Nat → Option Nat) (la ma : Nat) (e2 e3 e4 e5 e6 e7 e8 : Int32) (v1 v2 v4 : Int32) (mc : Nat) (mh mp mw : Nat) (mf : Option Nat) (m0 m3 m6 m7 m8 : Int32) (hoL : o ∈ L) (hof : f o = .inr (7, [.ref la, .ref ma, .int e2, .int e3, .int e4, .int e5, .int e6, .int e7, .int e8])) (hpL : pr ∈ L) (hpf : f pr = .inr (5, [.int (nI p), .int v1, .int v2, .ref ra, .int v4])) (haL : la ∈ L) (haf : f la = .inl (K 3, 12, rE g)) (hmL : mc ∈ L) (hmf : f mc = .inr (4, [.int m0, .ref mh, .ref mp, .int m3, .ref mw, va_rf (mf), .int m6, .int m7, .int m8])) (hp1 : 1 ≤ p) (hp2 : p ≤ 12) : Mc l yX5_setLatest (wM yX5_setLatest cX5_setLatest 4 none) (rmL 0 0 0) D (yY K) [.ref o, .ref pr, .ref mc] (va_pl L f) (fun v w => v = none ∧ ∃ f1 : Nat → va_E, w = va_pl L f1 ∧ f1 = va_up f la (.inl (K 3, 12, rE (va_up g (p - 1) (some mc))))) 0 0 := by
  refine m_start (lv := [(0, .ref o), (1, .ref pr), (2, .ref mc)]) rfl (Nat.le_of_ble_eq_true rfl) rfl (fun Γ hX hRm hnL hY hDD hLa hR hI hE => ?_)
  have hU : ∀ w ∈ wU, w ∈ wM yX5_setLatest cX5_setLatest 4 none := fun w h => wM_in h
  subst hLa
  subst hDD
  refine g_aload_n (n := 1) hX dX5_setLatest_0 rfl rfl rfl ?_
  refine g_pget (n := 4) ux_X3 rfl hX hU dX5_setLatest_1 rfl hpL hpf 0 rfl uf_X5_21 rfl ?_
  refine g_iconst (n := 5) (v := 1) hX dX5_setLatest_4 rfl rfl ?_
  refine g_isub (n := 6) (v := nI (p - 1)) hX dX5_setLatest_5 rfl (nI_sub1 hp1) ?_
  refine g_istore_n (lv' := [(3, .int (nI (p - 1))), (0, .ref o), (1, .ref pr), (2, .ref mc)]) (n := 7) hX dX5_setLatest_6 rfl rfl (by rw [hnL]; rfl) rfl ?_
  refine g_iload_n (n := 8) hX dX5_setLatest_7 rfl rfl rfl ?_
  refine g_if_lt (n := 11) (tgt := 27) hX dX5_setLatest_8 rfl (by decide) (fun c8 => absurd c8 (nI_pos (by omega))) (fun c8 => ?_)
  refine g_iload_n (n := 12) hX dX5_setLatest_11 rfl rfl rfl ?_
  refine g_aload_n (n := 13) hX dX5_setLatest_12 rfl rfl rfl ?_
  refine g_pget (n := 16) ux_X5 rfl hX hU dX5_setLatest_13 rfl hoL hof 0 rfl uf_X5_11 rfl ?_
  refine g_palen (n := 17) (t0 := 3) (v := nI (12)) hX hY dX5_setLatest_16 rfl haL haf rfl rfl ?_
  refine g_icmp_ge (n := 20) (tgt := 27) hX dX5_setLatest_17 rfl (by decide) (fun c17 => absurd c17 (nI_ge (a := p - 1) (b := 12) (by omega) (by decide))) (fun c17 => ?_)
  refine g_aload_n (n := 21) hX dX5_setLatest_20 rfl rfl rfl ?_
  refine g_pget (n := 24) ux_X5 rfl hX hU dX5_setLatest_21 rfl hoL hof 0 rfl uf_X5_11 rfl ?_
  refine g_iload_n (n := 25) hX dX5_setLatest_24 rfl rfl rfl ?_
  refine g_aload_n (n := 26) hX dX5_setLatest_25 rfl rfl rfl ?_
  refine g_past (n := 27) (i0 := p - 1) 3 hX hY dX5_setLatest_26 rfl haL haf rfl hmL hmf rfl (vp_in_nI (show p - 1 < 12 by omega) (by omega)) (nI_clamp (by omega)) (fun f1 ef1 => ?_)
  have ho_2 : f1 o = .inr (7, [.ref la, .ref ma, .int e2, .int e3, .int e4, .int e5, .int e6, .int e7, .int e8]) := by rw [ef1, va_up_ne _ _ (ne_oa hof haf)]; exact hof
  have hpr_3 : f1 pr = .inr (5, [.int (nI p), .int v1, .int v2, .ref ra, .int v4]) := by rw [ef1, va_up_ne _ _ (ne_oa hpf haf)]; exact hpf
  have hla_4 : f1 la = .inl (K 3, 12, rE (va_up g (p - 1) (some mc))) := by rw [ef1]; exact va_up_self _ _ _
  have hmc_5 : f1 mc = .inr (4, [.int m0, .ref mh, .ref mp, .int m3, .ref mw, va_rf (mf), .int m6, .int m7, .int m8]) := by rw [ef1, va_up_ne _ _ (ne_oa hmf haf)]; exact hmf
  exact g_vret hX hR dX5_setLatest_27 ⟨rfl, _, rfl, by simp only [ef1]⟩

set_option maxHeartbeats 4000000 in
set_option maxRecDepth 100000 in
theorem x_noteMark (l : Launch) (D : va_G) (K : Nat → ClassId) (L : List Nat) (f : Nat → va_E) (x : Int32) (o : Nat) (la ma mk : Nat) (g : Nat → Int32) (e2 e3 e4 e5 e6 e7 : Int32) (hoL : o ∈ L) (hof : f o = .inr (7, [.ref la, .ref ma, .int e2, .int e3, .int e4, .int e5, .int e6, .int e7, .int (nI mk)])) (haL : ma ∈ L) (haf : f ma = .inl (K 0, 100, .inl g)) (hmk : mk ≤ 100) : Mc l yX5_noteMark (wM yX5_noteMark cX5_noteMark 2 none) (rmL 0 0 0) D (yY K) [.ref o, .int x] (va_pl L f) (fun v w => v = none ∧ ∃ f1 : Nat → va_E, w = va_pl L f1 ∧ f1 = if mk < 100 then va_up (va_up f ma (.inl (K 0, 100, .inl (upd g mk x.toInt8.toInt32)))) o (.inr (7, [.ref la, .ref ma, .int e2, .int e3, .int e4, .int e5, .int e6, .int e7, .int (nI (mk + 1))])) else f) 0 0 := by
  refine m_start (lv := [(0, .ref o), (1, .int x)]) rfl (Nat.le_of_ble_eq_true rfl) rfl (fun Γ hX hRm hnL hY hDD hLa hR hI hE => ?_)
  have hU : ∀ w ∈ wU, w ∈ wM yX5_noteMark cX5_noteMark 2 none := fun w h => wM_in h
  subst hLa
  subst hDD
  by_cases hm : mk < 100
  · refine g_aload_n (n := 1) hX dX5_noteMark_0 rfl rfl rfl ?_
    refine g_pget (n := 4) ux_X5 rfl hX hU dX5_noteMark_1 rfl hoL hof 8 rfl uf_X5_43 rfl ?_
    refine g_aload_n (n := 5) hX dX5_noteMark_4 rfl rfl rfl ?_
    refine g_pget (n := 8) ux_X5 rfl hX hU dX5_noteMark_5 rfl hoL hof 1 rfl uf_X5_17 rfl ?_
    refine g_palen (n := 9) (t0 := 0) (v := nI (100)) hX hY dX5_noteMark_8 rfl haL haf rfl rfl ?_
    refine g_icmp_ge (n := 12) (tgt := 33) hX dX5_noteMark_9 rfl (by decide) (fun c9 => absurd c9 (nI_ge (a := mk) (b := 100) hm (by decide))) (fun c9 => ?_)
    refine g_aload_n (n := 13) hX dX5_noteMark_12 rfl rfl rfl ?_
    refine g_pget (n := 16) ux_X5 rfl hX hU dX5_noteMark_13 rfl hoL hof 1 rfl uf_X5_17 rfl ?_
    refine g_aload_n (n := 17) hX dX5_noteMark_16 rfl rfl rfl ?_
    refine g_pget (n := 20) ux_X5 rfl hX hU dX5_noteMark_17 rfl hoL hof 8 rfl uf_X5_43 rfl ?_
    refine g_iload_n (n := 21) hX dX5_noteMark_20 rfl rfl rfl ?_
    refine g_i2b (n := 22) (v := x.toInt8.toInt32) hX dX5_noteMark_21 rfl rfl ?_
    refine g_pbst (n := 23) (i0 := mk) (y := x.toInt8.toInt32) hX hY dX5_noteMark_22 rfl haL haf (vp_in_nI (show mk < 100 by omega) (by omega)) (nI_clamp (by omega)) (pk_vb _) (fun f6 ef6 => ?_)
    have ho_7 : f6 o = .inr (7, [.ref la, .ref ma, .int e2, .int e3, .int e4, .int e5, .int e6, .int e7, .int (nI mk)]) := by rw [ef6, va_up_ne _ _ (ne_oa hof haf)]; exact hof
    have hma_8 : f6 ma = .inl (K 0, 100, .inl (upd g mk x.toInt8.toInt32)) := by rw [ef6]; exact va_up_self _ _ _
    refine g_aload_n (n := 24) hX dX5_noteMark_23 rfl rfl rfl ?_
    refine g_dup (n := 25) hX dX5_noteMark_24 rfl rfl ?_
    refine g_pget (n := 28) ux_X5 rfl hX hU dX5_noteMark_25 rfl hoL ho_7 8 rfl uf_X5_43 rfl ?_
    refine g_iconst (n := 29) (v := 1) hX dX5_noteMark_28 rfl rfl ?_
    refine g_iadd (n := 30) (v := nI (mk + 1)) hX dX5_noteMark_29 rfl (nI_add (mk) (1)) ?_
    refine g_pput (n := 33) (fs' := [.ref la, .ref ma, .int e2, .int e3, .int e4, .int e5, .int e6, .int e7, .int (nI (mk + 1))]) tyX5 tyX5_ok nmX5 ux_X5 rfl hX hU dX5_noteMark_30 rfl hoL ho_7 8 rfl uf_X5_43 rfl rfl rfl rfl rfl (fun f9 ef9 => ?_)
    have ho_10 : f9 o = .inr (7, [.ref la, .ref ma, .int e2, .int e3, .int e4, .int e5, .int e6, .int e7, .int (nI (mk + 1))]) := by rw [ef9]; exact va_up_self _ _ _
    have hma_11 : f9 ma = .inl (K 0, 100, .inl (upd g mk x.toInt8.toInt32)) := by rw [ef9, va_up_ne _ _ (ne_ao hma_8 ho_7)]; exact hma_8
    exact g_vret hX hR dX5_noteMark_33 ⟨rfl, _, rfl, by rw [if_pos hm]; simp only [ef6, ef9]⟩
  · refine g_aload_n (n := 1) hX dX5_noteMark_0 rfl rfl rfl ?_
    refine g_pget (n := 4) ux_X5 rfl hX hU dX5_noteMark_1 rfl hoL hof 8 rfl uf_X5_43 rfl ?_
    refine g_aload_n (n := 5) hX dX5_noteMark_4 rfl rfl rfl ?_
    refine g_pget (n := 8) ux_X5 rfl hX hU dX5_noteMark_5 rfl hoL hof 1 rfl uf_X5_17 rfl ?_
    refine g_palen (n := 9) (t0 := 0) (v := nI (100)) hX hY dX5_noteMark_8 rfl haL haf rfl rfl ?_
    refine g_icmp_ge (n := 12) (tgt := 33) hX dX5_noteMark_9 rfl (by decide) (fun c9 => ?_) (fun c9 => absurd (nI_le (a := 100) (b := mk) (by omega) (by omega)) c9)
    exact g_vret hX hR dX5_noteMark_33 ⟨rfl, _, rfl, by rw [if_neg hm]⟩

set_option maxHeartbeats 4000000 in
set_option maxRecDepth 100000 in
theorem x_markAt (l : Launch) (D : va_G) (K : Nat → ClassId) (L : List Nat) (f : Nat → va_E) (i : Int32) (o : Nat) (la ma mk : Nat) (g : Nat → Int32) (e2 e3 e4 e5 e6 e7 : Int32) (hoL : o ∈ L) (hof : f o = .inr (7, [.ref la, .ref ma, .int e2, .int e3, .int e4, .int e5, .int e6, .int e7, .int (nI mk)])) (haL : ma ∈ L) (haf : f ma = .inl (K 0, 100, .inl g)) (hmk : mk ≤ 100) : Mc l yX5_markAt (wM yX5_markAt cX5_markAt 2 (some .int)) (rmL 0 0 0) D (yY K) [.ref o, .int i] (va_pl L f) (fun v w => v = some (.int (if i < 0 then -1 else if nI mk ≤ i then -1 else g i.toNatClampNeg)) ∧ w = va_pl L f) 0 0 := by
  refine m_start (lv := [(0, .ref o), (1, .int i)]) rfl (Nat.le_of_ble_eq_true rfl) rfl (fun Γ hX hRm hnL hY hDD hLa hR hI hE => ?_)
  have hU : ∀ w ∈ wU, w ∈ wM yX5_markAt cX5_markAt 2 (some .int) := fun w h => wM_in h
  subst hLa
  subst hDD
  by_cases h0 : i < 0
  · refine g_iload_n (n := 1) hX dX5_markAt_0 rfl rfl rfl ?_
    refine g_if_lt (n := 4) (tgt := 30) hX dX5_markAt_1 rfl (by decide) (fun c1 => ?_) (fun c1 => absurd h0 c1)
    refine g_iconst (n := 31) (v := (-1)) hX dX5_markAt_30 rfl rfl ?_
    exact g_iret hX hR dX5_markAt_31 ⟨by rw [if_pos h0], rfl⟩
  · by_cases h1 : nI mk ≤ i
    · refine g_iload_n (n := 1) hX dX5_markAt_0 rfl rfl rfl ?_
      refine g_if_lt (n := 4) (tgt := 30) hX dX5_markAt_1 rfl (by decide) (fun c1 => absurd c1 h0) (fun c1 => ?_)
      refine g_iload_n (n := 5) hX dX5_markAt_4 rfl rfl rfl ?_
      refine g_aload_n (n := 6) hX dX5_markAt_5 rfl rfl rfl ?_
      refine g_pget (n := 9) ux_X5 rfl hX hU dX5_markAt_6 rfl hoL hof 8 rfl uf_X5_43 rfl ?_
      refine g_icmp_ge (n := 12) (tgt := 30) hX dX5_markAt_9 rfl (by decide) (fun c9 => ?_) (fun c9 => absurd h1 c9)
      refine g_iconst (n := 31) (v := (-1)) hX dX5_markAt_30 rfl rfl ?_
      exact g_iret hX hR dX5_markAt_31 ⟨by rw [if_neg h0, if_pos h1], rfl⟩
    · obtain ⟨j, hj, rfl⟩ := nI_of h0
      have hjm : j < mk := by rcases Nat.lt_or_ge j mk with h9 | h9; exact h9; exact absurd (nI_le h9 hj) h1
      have ej : (nI j).toNatClampNeg = j := nI_clamp hj
      refine g_iload_n (n := 1) hX dX5_markAt_0 rfl rfl rfl ?_
      refine g_if_lt (n := 4) (tgt := 30) hX dX5_markAt_1 rfl (by decide) (fun c1 => absurd c1 h0) (fun c1 => ?_)
      refine g_iload_n (n := 5) hX dX5_markAt_4 rfl rfl rfl ?_
      refine g_aload_n (n := 6) hX dX5_markAt_5 rfl rfl rfl ?_
      refine g_pget (n := 9) ux_X5 rfl hX hU dX5_markAt_6 rfl hoL hof 8 rfl uf_X5_43 rfl ?_
      refine g_icmp_ge (n := 12) (tgt := 30) hX dX5_markAt_9 rfl (by decide) (fun c9 => absurd c9 h1) (fun c9 => ?_)
      refine g_iload_n (n := 13) hX dX5_markAt_12 rfl rfl rfl ?_
      refine g_aload_n (n := 14) hX dX5_markAt_13 rfl rfl rfl ?_
      refine g_pget (n := 17) ux_X5 rfl hX hU dX5_markAt_14 rfl hoL hof 1 rfl uf_X5_17 rfl ?_
      refine g_palen (n := 18) (t0 := 0) (v := nI (100)) hX hY dX5_markAt_17 rfl haL haf rfl rfl ?_
      refine g_icmp_ge (n := 21) (tgt := 30) hX dX5_markAt_18 rfl (by decide) (fun c18 => absurd c18 (nI_ge (a := j) (b := 100) (by omega) (by decide))) (fun c18 => ?_)
      refine g_aload_n (n := 22) hX dX5_markAt_21 rfl rfl rfl ?_
      refine g_pget (n := 25) ux_X5 rfl hX hU dX5_markAt_22 rfl hoL hof 1 rfl uf_X5_17 rfl ?_
      refine g_iload_n (n := 26) hX dX5_markAt_25 rfl rfl rfl ?_
      refine g_pbld (n := 27) (v := g j) hX hY dX5_markAt_26 rfl haL haf (vp_in_nI (show j < 100 by omega) (by omega)) (congrArg g (nI_clamp (by omega))) ?_
      refine g_goto (n := 31) hX dX5_markAt_27 (by decide) ?_
      exact g_iret hX hR dX5_markAt_31 ⟨by rw [if_neg h0, if_neg h1, ej], rfl⟩

set_option maxHeartbeats 4000000 in
set_option maxRecDepth 100000 in
theorem x_RowInit (l : Launch) (D : va_G) (K : Nat → ClassId) (L : List Nat) (f : Nat → va_E) (x a b : Int32) (o : Nat) (o0 o1 o2 : Int32) (hoL : o ∈ L) (hof : f o = .inr (6, [.int o0, .int o1, .int o2])) : Mc l yX4_init (wM yX4_init cX4_init 4 none) (rmL 1 0 0) D (yY K) [.ref o, .int x, .int a, .int b] (va_pl L f) (fun v w => v = none ∧ ∃ f1 : Nat → va_E, w = va_pl L f1 ∧ f1 = va_up f o (.inr (6, [.int x, .int a, .int b]))) 0 0 := by
  refine m_start (lv := [(0, .ref o), (1, .int x), (2, .int a), (3, .int b)]) rfl (Nat.le_of_ble_eq_true rfl) rfl (fun Γ hX hRm hnL hY hDD hLa hR hI hE => ?_)
  have hU : ∀ w ∈ wU, w ∈ wM yX4_init cX4_init 4 none := fun w h => wM_in h
  subst hLa
  subst hDD
  refine g_aload_n (n := 1) hX dX4_init_0 rfl rfl rfl ?_
  refine g_objInit (n := 4) hX dX4_init_1 rfl (hU _ um_X4_1) (hU _ ui_obj) (hU _ uc_obj) (by rw [hRm]; decide) (by decide) (by rw [hRm]; decide) ?_
  refine g_aload_n (n := 5) hX dX4_init_4 rfl rfl rfl ?_
  refine g_iload_n (n := 6) hX dX4_init_5 rfl rfl rfl ?_
  refine g_pputF (n := 9) (fs' := [.int x, .int o1, .int o2]) tyX4 tyX4_ok nmX4 ux_X4 rfl hX hU (hI rfl) dX4_init_6 rfl hoL hof 0 rfl uf_X4_7 rfl rfl rfl rfl rfl rfl (fun f12 ef12 => ?_)
  have ho_13 : f12 o = .inr (6, [.int x, .int o1, .int o2]) := by rw [ef12]; exact va_up_self _ _ _
  refine g_aload_n (n := 10) hX dX4_init_9 rfl rfl rfl ?_
  refine g_iload_n (n := 11) hX dX4_init_10 rfl rfl rfl ?_
  refine g_pputF (n := 14) (fs' := [.int x, .int a, .int o2]) tyX4 tyX4_ok nmX4 ux_X4 rfl hX hU (hI rfl) dX4_init_11 rfl hoL ho_13 1 rfl uf_X4_13 rfl rfl rfl rfl rfl rfl (fun f14 ef14 => ?_)
  have ho_15 : f14 o = .inr (6, [.int x, .int a, .int o2]) := by rw [ef14]; exact va_up_self _ _ _
  refine g_aload_n (n := 15) hX dX4_init_14 rfl rfl rfl ?_
  refine g_iload_n (n := 16) hX dX4_init_15 rfl rfl rfl ?_
  refine g_pputF (n := 19) (fs' := [.int x, .int a, .int b]) tyX4 tyX4_ok nmX4 ux_X4 rfl hX hU (hI rfl) dX4_init_16 rfl hoL ho_15 2 rfl uf_X4_16 rfl rfl rfl rfl rfl rfl (fun f16 ef16 => ?_)
  have ho_17 : f16 o = .inr (6, [.int x, .int a, .int b]) := by rw [ef16]; exact va_up_self _ _ _
  exact g_vret hX hR dX4_init_19 ⟨rfl, _, rfl, by simp only [ef12, ef14, ef16, up_up]⟩

theorem bI_congr {c d : Prop} [Decidable c] [Decidable d] (h : c ↔ d) : bI c = bI d := by
  by_cases hc : c
  · rw [bI_t hc, bI_t (h.mp hc)]
  · rw [bI_f hc, bI_f (fun h9 => hc (h.mpr h9))]
theorem lt_pred {z : Nat} (hz : 1 ≤ z) (hz2 : z ≤ 100) (a : Int32) : (0 ≤ a ∧ a < nI z) ↔ (0 ≤ a ∧ a ≤ nI z - 1) := by
  have e : (nI z - 1).toInt = (z : Int) - 1 := by
    rw [show (1 : Int32) = nI 1 from rfl, pk_sub_toInt (by omega) (by decide)]; rfl
  have e2 : (nI z).toInt = (z : Int) := nI_toInt (by omega)
  rw [Int32.lt_iff_toInt_lt, Int32.le_iff_toInt_le (x := a) (y := nI z - 1), e, e2]
  constructor
  · rintro ⟨h1, h2⟩; exact ⟨h1, by omega⟩
  · rintro ⟨h1, h2⟩; exact ⟨h1, by omega⟩
set_option maxHeartbeats 4000000 in
set_option maxRecDepth 100000 in
theorem x_takes (l : Launch) (D : va_G) (K : Nat → ClassId) (L : List Nat) (f : Nat → va_E) (x a b : Int32) (o ra z : Nat) (v0 v2 v4 : Int32) (hoL : o ∈ L) (hof : f o = .inr (5, [.int v0, .int (nI z), .int v2, .ref ra, .int v4])) (hz1 : 1 ≤ z) (hz2 : z ≤ 100) : Mc l yX3_takes (wM yX3_takes cX3_takes 4 (some .boolean)) (rmL 1 0 0) D (yY K) [.ref o, .int x, .int a, .int b] (va_pl L f) (fun v w => v = some (.int (okB (nI z) x a b)) ∧ w = va_pl L f) 0 0 := by
  refine m_start (lv := [(0, .ref o), (1, .int x), (2, .int a), (3, .int b)]) rfl (Nat.le_of_ble_eq_true rfl) rfl (fun Γ hX hRm hnL hY hDD hLa hR hI hE => ?_)
  have hU : ∀ w ∈ wU, w ∈ wM yX3_takes cX3_takes 4 (some .boolean) := fun w h => wM_in h
  subst hLa
  subst hDD
  refine g_iload_n (n := 1) hX dX3_takes_0 rfl rfl rfl ?_
  rcases sw_split x (0) (13) with hsw | hsw
  · refine g_tableOut (n := 181) hX dX3_takes_1 hsw (by decide) ?_
    have hno : ∀ q : Int32, (0 ≤ q.toInt ∧ q.toInt ≤ 13) → ¬ x = q := fun q hq h9 => by rw [h9] at hsw; omega
    have hno2 : ¬ (0 < x ∧ x < 8) := fun h9 => by have h1 := Int32.lt_iff_toInt_lt.mp h9.1; have h2 := Int32.lt_iff_toInt_lt.mp h9.2; have e1 : (0 : Int32).toInt = 0 := rfl; have e2 : (8 : Int32).toInt = 8 := rfl; omega
    refine g_iconst (n := 182) (v := 0) hX dX3_takes_181 rfl rfl ?_
    exact g_zret hX hR dX3_takes_182 rfl (by rw [okB, if_neg (hno _ (by decide)), if_neg (hno _ (by decide)), if_neg (hno _ (by decide)), if_neg (hno _ (by decide)), if_neg (hno _ (by decide)), if_neg (hno _ (by decide)), if_neg (hno _ (by decide)), if_neg hno2]; exact ⟨rfl, rfl⟩)
  · obtain ⟨kz, hk1, hk2⟩ := hsw
    rcases (show kz = (0 : Int) ∨ kz = (1 : Int) ∨ kz = (2 : Int) ∨ kz = (3 : Int) ∨ kz = (4 : Int) ∨ kz = (5 : Int) ∨ kz = (6 : Int) ∨ kz = (7 : Int) ∨ kz = (8 : Int) ∨ kz = (9 : Int) ∨ kz = (10 : Int) ∨ kz = (11 : Int) ∨ kz = (12 : Int) ∨ kz = (13 : Int) by omega) with hkz | hkz | hkz | hkz | hkz | hkz | hkz | hkz | hkz | hkz | hkz | hkz | hkz | hkz
    · have hxe : x = (0 : Int32) := sw_val (hkz ▸ hk1) (by decide)
      refine g_tableIn (n := 72) (off := 71) hX dX3_takes_1 (by rw [hxe]; decide) (by rw [hxe]; decide) (by rw [hxe]; rfl) (by decide) ?_
      refine g_aload_n (n := 73) hX dX3_takes_72 rfl rfl rfl ?_
      refine g_iload_n (n := 74) hX dX3_takes_73 rfl rfl rfl ?_
      refine g_pcallV (n := 77) (As := [.int a]) (rest := []) hX hE hU hY dX3_takes_74 rfl yv_X3_isByteNumber um_X3_28 (x_isByteNumber _ _ K L f a o ra v0 (nI z) v2 v4 hoL hof) ⟨rfl, rfl⟩ (rm_le hRm rfl rfl) rfl hoL hof rfl rfl rfl (Nat.le_of_ble_eq_true rfl) ⟨Nat.zero_le _, Nat.zero_le _⟩ (fun v0 w0 hq0 => ?_)
      rw [bI_congr (lt_pred hz1 hz2 a)] at hq0; obtain ⟨rfl, rfl⟩ := hq0
      show G Γ (va_pl L f) 0 0 77 [(0, .ref o), (1, .int x), (2, .int a), (3, .int b)] [.int (bI (0 ≤ a ∧ a ≤ nI z - 1))]
      refine g_if_eq (n := 80) (tgt := 96) hX dX3_takes_77 rfl (by decide) (fun c77 => ?_) (fun c77 => ?_)
      · refine g_iconst (n := 97) (v := 0) hX dX3_takes_96 rfl rfl ?_
        exact g_zret hX hR dX3_takes_97 rfl (by rw [okB, if_pos hxe]; exact ⟨by rw [bI_f (fun h9 => bI_z.mp c77 h9.1)], rfl⟩)
      · refine g_iload_n (n := 81) hX dX3_takes_80 rfl rfl rfl ?_
        refine g_bipush (n := 83) (v := (-128)) hX dX3_takes_81 rfl rfl ?_
        refine g_icmp_lt (n := 86) (tgt := 96) hX dX3_takes_83 rfl (by decide) (fun c83 => ?_) (fun c83 => ?_)
        · refine g_iconst (n := 97) (v := 0) hX dX3_takes_96 rfl rfl ?_
          exact g_zret hX hR dX3_takes_97 rfl (by rw [okB, if_pos hxe]; exact ⟨by rw [bI_f (fun h9 => Int32.not_lt.mpr h9.2.1 c83)], rfl⟩)
        · refine g_iload_n (n := 87) hX dX3_takes_86 rfl rfl rfl ?_
          refine g_bipush (n := 89) (v := 127) hX dX3_takes_87 rfl rfl ?_
          refine g_icmp_gt (n := 92) (tgt := 96) hX dX3_takes_89 rfl (by decide) (fun c89 => ?_) (fun c89 => ?_)
          · refine g_iconst (n := 97) (v := 0) hX dX3_takes_96 rfl rfl ?_
            exact g_zret hX hR dX3_takes_97 rfl (by rw [okB, if_pos hxe]; exact ⟨by rw [bI_f (fun h9 => Int32.not_lt.mpr h9.2.2 c89)], rfl⟩)
          · refine g_iconst (n := 93) (v := 1) hX dX3_takes_92 rfl rfl ?_
            refine g_goto (n := 97) hX dX3_takes_93 (by decide) ?_
            exact g_zret hX hR dX3_takes_97 rfl (by rw [okB, if_pos hxe]; exact ⟨by rw [bI_t ⟨(Decidable.of_not_not (fun h9 => c77 (bI_z.mpr h9))), Int32.not_lt.mp c83, Int32.not_lt.mp c89⟩], rfl⟩)
    · have hxe : x = (1 : Int32) := sw_val (hkz ▸ hk1) (by decide)
      refine g_tableIn (n := 98) (off := 97) hX dX3_takes_1 (by rw [hxe]; decide) (by rw [hxe]; decide) (by rw [hxe]; rfl) (by decide) ?_
      refine g_aload_n (n := 99) hX dX3_takes_98 rfl rfl rfl ?_
      refine g_iload_n (n := 100) hX dX3_takes_99 rfl rfl rfl ?_
      refine g_pcallV (n := 103) (As := [.int a]) (rest := []) hX hE hU hY dX3_takes_100 rfl yv_X3_isByteNumber um_X3_28 (x_isByteNumber _ _ K L f a o ra v0 (nI z) v2 v4 hoL hof) ⟨rfl, rfl⟩ (rm_le hRm rfl rfl) rfl hoL hof rfl rfl rfl (Nat.le_of_ble_eq_true rfl) ⟨Nat.zero_le _, Nat.zero_le _⟩ (fun v0 w0 hq0 => ?_)
      rw [bI_congr (lt_pred hz1 hz2 a)] at hq0; obtain ⟨rfl, rfl⟩ := hq0
      show G Γ (va_pl L f) 0 0 103 [(0, .ref o), (1, .int x), (2, .int a), (3, .int b)] [.int (bI (0 ≤ a ∧ a ≤ nI z - 1))]
      refine g_if_eq (n := 106) (tgt := 118) hX dX3_takes_103 rfl (by decide) (fun c103 => ?_) (fun c103 => ?_)
      · refine g_iconst (n := 119) (v := 0) hX dX3_takes_118 rfl rfl ?_
        exact g_zret hX hR dX3_takes_119 rfl (by rw [okB, if_neg (by rw [hxe]; decide), if_neg (by rw [hxe]; decide), if_neg (by rw [hxe]; decide), if_neg (by rw [hxe]; decide), if_neg (by rw [hxe]; decide), if_neg (by rw [hxe]; decide), if_neg (by rw [hxe]; decide), if_pos (by rw [hxe]; decide)]; exact ⟨by rw [bI_f (fun h9 => bI_z.mp c103 h9.1)], rfl⟩)
      · refine g_aload_n (n := 107) hX dX3_takes_106 rfl rfl rfl ?_
        refine g_iload_n (n := 108) hX dX3_takes_107 rfl rfl rfl ?_
        refine g_pcallV (n := 111) (As := [.int b]) (rest := []) hX hE hU hY dX3_takes_108 rfl yv_X3_isByteNumber um_X3_28 (x_isByteNumber _ _ K L f b o ra v0 (nI z) v2 v4 hoL hof) ⟨rfl, rfl⟩ (rm_le hRm rfl rfl) rfl hoL hof rfl rfl rfl (Nat.le_of_ble_eq_true rfl) ⟨Nat.zero_le _, Nat.zero_le _⟩ (fun v0 w0 hq0 => ?_)
        rw [bI_congr (lt_pred hz1 hz2 b)] at hq0; obtain ⟨rfl, rfl⟩ := hq0
        show G Γ (va_pl L f) 0 0 111 [(0, .ref o), (1, .int x), (2, .int a), (3, .int b)] [.int (bI (0 ≤ b ∧ b ≤ nI z - 1))]
        refine g_if_eq (n := 114) (tgt := 118) hX dX3_takes_111 rfl (by decide) (fun c111 => ?_) (fun c111 => ?_)
        · refine g_iconst (n := 119) (v := 0) hX dX3_takes_118 rfl rfl ?_
          exact g_zret hX hR dX3_takes_119 rfl (by rw [okB, if_neg (by rw [hxe]; decide), if_neg (by rw [hxe]; decide), if_neg (by rw [hxe]; decide), if_neg (by rw [hxe]; decide), if_neg (by rw [hxe]; decide), if_neg (by rw [hxe]; decide), if_neg (by rw [hxe]; decide), if_pos (by rw [hxe]; decide)]; exact ⟨by rw [bI_f (fun h9 => bI_z.mp c111 h9.2)], rfl⟩)
        · refine g_iconst (n := 115) (v := 1) hX dX3_takes_114 rfl rfl ?_
          refine g_goto (n := 119) hX dX3_takes_115 (by decide) ?_
          exact g_zret hX hR dX3_takes_119 rfl (by rw [okB, if_neg (by rw [hxe]; decide), if_neg (by rw [hxe]; decide), if_neg (by rw [hxe]; decide), if_neg (by rw [hxe]; decide), if_neg (by rw [hxe]; decide), if_neg (by rw [hxe]; decide), if_neg (by rw [hxe]; decide), if_pos (by rw [hxe]; decide)]; exact ⟨by rw [bI_t ⟨(Decidable.of_not_not (fun h9 => c103 (bI_z.mpr h9))), (Decidable.of_not_not (fun h9 => c111 (bI_z.mpr h9)))⟩], rfl⟩)
    · have hxe : x = (2 : Int32) := sw_val (hkz ▸ hk1) (by decide)
      refine g_tableIn (n := 98) (off := 97) hX dX3_takes_1 (by rw [hxe]; decide) (by rw [hxe]; decide) (by rw [hxe]; rfl) (by decide) ?_
      refine g_aload_n (n := 99) hX dX3_takes_98 rfl rfl rfl ?_
      refine g_iload_n (n := 100) hX dX3_takes_99 rfl rfl rfl ?_
      refine g_pcallV (n := 103) (As := [.int a]) (rest := []) hX hE hU hY dX3_takes_100 rfl yv_X3_isByteNumber um_X3_28 (x_isByteNumber _ _ K L f a o ra v0 (nI z) v2 v4 hoL hof) ⟨rfl, rfl⟩ (rm_le hRm rfl rfl) rfl hoL hof rfl rfl rfl (Nat.le_of_ble_eq_true rfl) ⟨Nat.zero_le _, Nat.zero_le _⟩ (fun v0 w0 hq0 => ?_)
      rw [bI_congr (lt_pred hz1 hz2 a)] at hq0; obtain ⟨rfl, rfl⟩ := hq0
      show G Γ (va_pl L f) 0 0 103 [(0, .ref o), (1, .int x), (2, .int a), (3, .int b)] [.int (bI (0 ≤ a ∧ a ≤ nI z - 1))]
      refine g_if_eq (n := 106) (tgt := 118) hX dX3_takes_103 rfl (by decide) (fun c103 => ?_) (fun c103 => ?_)
      · refine g_iconst (n := 119) (v := 0) hX dX3_takes_118 rfl rfl ?_
        exact g_zret hX hR dX3_takes_119 rfl (by rw [okB, if_neg (by rw [hxe]; decide), if_neg (by rw [hxe]; decide), if_neg (by rw [hxe]; decide), if_neg (by rw [hxe]; decide), if_neg (by rw [hxe]; decide), if_neg (by rw [hxe]; decide), if_neg (by rw [hxe]; decide), if_pos (by rw [hxe]; decide)]; exact ⟨by rw [bI_f (fun h9 => bI_z.mp c103 h9.1)], rfl⟩)
      · refine g_aload_n (n := 107) hX dX3_takes_106 rfl rfl rfl ?_
        refine g_iload_n (n := 108) hX dX3_takes_107 rfl rfl rfl ?_
        refine g_pcallV (n := 111) (As := [.int b]) (rest := []) hX hE hU hY dX3_takes_108 rfl yv_X3_isByteNumber um_X3_28 (x_isByteNumber _ _ K L f b o ra v0 (nI z) v2 v4 hoL hof) ⟨rfl, rfl⟩ (rm_le hRm rfl rfl) rfl hoL hof rfl rfl rfl (Nat.le_of_ble_eq_true rfl) ⟨Nat.zero_le _, Nat.zero_le _⟩ (fun v0 w0 hq0 => ?_)
        rw [bI_congr (lt_pred hz1 hz2 b)] at hq0; obtain ⟨rfl, rfl⟩ := hq0
        show G Γ (va_pl L f) 0 0 111 [(0, .ref o), (1, .int x), (2, .int a), (3, .int b)] [.int (bI (0 ≤ b ∧ b ≤ nI z - 1))]
        refine g_if_eq (n := 114) (tgt := 118) hX dX3_takes_111 rfl (by decide) (fun c111 => ?_) (fun c111 => ?_)
        · refine g_iconst (n := 119) (v := 0) hX dX3_takes_118 rfl rfl ?_
          exact g_zret hX hR dX3_takes_119 rfl (by rw [okB, if_neg (by rw [hxe]; decide), if_neg (by rw [hxe]; decide), if_neg (by rw [hxe]; decide), if_neg (by rw [hxe]; decide), if_neg (by rw [hxe]; decide), if_neg (by rw [hxe]; decide), if_neg (by rw [hxe]; decide), if_pos (by rw [hxe]; decide)]; exact ⟨by rw [bI_f (fun h9 => bI_z.mp c111 h9.2)], rfl⟩)
        · refine g_iconst (n := 115) (v := 1) hX dX3_takes_114 rfl rfl ?_
          refine g_goto (n := 119) hX dX3_takes_115 (by decide) ?_
          exact g_zret hX hR dX3_takes_119 rfl (by rw [okB, if_neg (by rw [hxe]; decide), if_neg (by rw [hxe]; decide), if_neg (by rw [hxe]; decide), if_neg (by rw [hxe]; decide), if_neg (by rw [hxe]; decide), if_neg (by rw [hxe]; decide), if_neg (by rw [hxe]; decide), if_pos (by rw [hxe]; decide)]; exact ⟨by rw [bI_t ⟨(Decidable.of_not_not (fun h9 => c103 (bI_z.mpr h9))), (Decidable.of_not_not (fun h9 => c111 (bI_z.mpr h9)))⟩], rfl⟩)
    · have hxe : x = (3 : Int32) := sw_val (hkz ▸ hk1) (by decide)
      refine g_tableIn (n := 98) (off := 97) hX dX3_takes_1 (by rw [hxe]; decide) (by rw [hxe]; decide) (by rw [hxe]; rfl) (by decide) ?_
      refine g_aload_n (n := 99) hX dX3_takes_98 rfl rfl rfl ?_
      refine g_iload_n (n := 100) hX dX3_takes_99 rfl rfl rfl ?_
      refine g_pcallV (n := 103) (As := [.int a]) (rest := []) hX hE hU hY dX3_takes_100 rfl yv_X3_isByteNumber um_X3_28 (x_isByteNumber _ _ K L f a o ra v0 (nI z) v2 v4 hoL hof) ⟨rfl, rfl⟩ (rm_le hRm rfl rfl) rfl hoL hof rfl rfl rfl (Nat.le_of_ble_eq_true rfl) ⟨Nat.zero_le _, Nat.zero_le _⟩ (fun v0 w0 hq0 => ?_)
      rw [bI_congr (lt_pred hz1 hz2 a)] at hq0; obtain ⟨rfl, rfl⟩ := hq0
      show G Γ (va_pl L f) 0 0 103 [(0, .ref o), (1, .int x), (2, .int a), (3, .int b)] [.int (bI (0 ≤ a ∧ a ≤ nI z - 1))]
      refine g_if_eq (n := 106) (tgt := 118) hX dX3_takes_103 rfl (by decide) (fun c103 => ?_) (fun c103 => ?_)
      · refine g_iconst (n := 119) (v := 0) hX dX3_takes_118 rfl rfl ?_
        exact g_zret hX hR dX3_takes_119 rfl (by rw [okB, if_neg (by rw [hxe]; decide), if_neg (by rw [hxe]; decide), if_neg (by rw [hxe]; decide), if_neg (by rw [hxe]; decide), if_neg (by rw [hxe]; decide), if_neg (by rw [hxe]; decide), if_neg (by rw [hxe]; decide), if_pos (by rw [hxe]; decide)]; exact ⟨by rw [bI_f (fun h9 => bI_z.mp c103 h9.1)], rfl⟩)
      · refine g_aload_n (n := 107) hX dX3_takes_106 rfl rfl rfl ?_
        refine g_iload_n (n := 108) hX dX3_takes_107 rfl rfl rfl ?_
        refine g_pcallV (n := 111) (As := [.int b]) (rest := []) hX hE hU hY dX3_takes_108 rfl yv_X3_isByteNumber um_X3_28 (x_isByteNumber _ _ K L f b o ra v0 (nI z) v2 v4 hoL hof) ⟨rfl, rfl⟩ (rm_le hRm rfl rfl) rfl hoL hof rfl rfl rfl (Nat.le_of_ble_eq_true rfl) ⟨Nat.zero_le _, Nat.zero_le _⟩ (fun v0 w0 hq0 => ?_)
        rw [bI_congr (lt_pred hz1 hz2 b)] at hq0; obtain ⟨rfl, rfl⟩ := hq0
        show G Γ (va_pl L f) 0 0 111 [(0, .ref o), (1, .int x), (2, .int a), (3, .int b)] [.int (bI (0 ≤ b ∧ b ≤ nI z - 1))]
        refine g_if_eq (n := 114) (tgt := 118) hX dX3_takes_111 rfl (by decide) (fun c111 => ?_) (fun c111 => ?_)
        · refine g_iconst (n := 119) (v := 0) hX dX3_takes_118 rfl rfl ?_
          exact g_zret hX hR dX3_takes_119 rfl (by rw [okB, if_neg (by rw [hxe]; decide), if_neg (by rw [hxe]; decide), if_neg (by rw [hxe]; decide), if_neg (by rw [hxe]; decide), if_neg (by rw [hxe]; decide), if_neg (by rw [hxe]; decide), if_neg (by rw [hxe]; decide), if_pos (by rw [hxe]; decide)]; exact ⟨by rw [bI_f (fun h9 => bI_z.mp c111 h9.2)], rfl⟩)
        · refine g_iconst (n := 115) (v := 1) hX dX3_takes_114 rfl rfl ?_
          refine g_goto (n := 119) hX dX3_takes_115 (by decide) ?_
          exact g_zret hX hR dX3_takes_119 rfl (by rw [okB, if_neg (by rw [hxe]; decide), if_neg (by rw [hxe]; decide), if_neg (by rw [hxe]; decide), if_neg (by rw [hxe]; decide), if_neg (by rw [hxe]; decide), if_neg (by rw [hxe]; decide), if_neg (by rw [hxe]; decide), if_pos (by rw [hxe]; decide)]; exact ⟨by rw [bI_t ⟨(Decidable.of_not_not (fun h9 => c103 (bI_z.mpr h9))), (Decidable.of_not_not (fun h9 => c111 (bI_z.mpr h9)))⟩], rfl⟩)
    · have hxe : x = (4 : Int32) := sw_val (hkz ▸ hk1) (by decide)
      refine g_tableIn (n := 98) (off := 97) hX dX3_takes_1 (by rw [hxe]; decide) (by rw [hxe]; decide) (by rw [hxe]; rfl) (by decide) ?_
      refine g_aload_n (n := 99) hX dX3_takes_98 rfl rfl rfl ?_
      refine g_iload_n (n := 100) hX dX3_takes_99 rfl rfl rfl ?_
      refine g_pcallV (n := 103) (As := [.int a]) (rest := []) hX hE hU hY dX3_takes_100 rfl yv_X3_isByteNumber um_X3_28 (x_isByteNumber _ _ K L f a o ra v0 (nI z) v2 v4 hoL hof) ⟨rfl, rfl⟩ (rm_le hRm rfl rfl) rfl hoL hof rfl rfl rfl (Nat.le_of_ble_eq_true rfl) ⟨Nat.zero_le _, Nat.zero_le _⟩ (fun v0 w0 hq0 => ?_)
      rw [bI_congr (lt_pred hz1 hz2 a)] at hq0; obtain ⟨rfl, rfl⟩ := hq0
      show G Γ (va_pl L f) 0 0 103 [(0, .ref o), (1, .int x), (2, .int a), (3, .int b)] [.int (bI (0 ≤ a ∧ a ≤ nI z - 1))]
      refine g_if_eq (n := 106) (tgt := 118) hX dX3_takes_103 rfl (by decide) (fun c103 => ?_) (fun c103 => ?_)
      · refine g_iconst (n := 119) (v := 0) hX dX3_takes_118 rfl rfl ?_
        exact g_zret hX hR dX3_takes_119 rfl (by rw [okB, if_neg (by rw [hxe]; decide), if_neg (by rw [hxe]; decide), if_neg (by rw [hxe]; decide), if_neg (by rw [hxe]; decide), if_neg (by rw [hxe]; decide), if_neg (by rw [hxe]; decide), if_neg (by rw [hxe]; decide), if_pos (by rw [hxe]; decide)]; exact ⟨by rw [bI_f (fun h9 => bI_z.mp c103 h9.1)], rfl⟩)
      · refine g_aload_n (n := 107) hX dX3_takes_106 rfl rfl rfl ?_
        refine g_iload_n (n := 108) hX dX3_takes_107 rfl rfl rfl ?_
        refine g_pcallV (n := 111) (As := [.int b]) (rest := []) hX hE hU hY dX3_takes_108 rfl yv_X3_isByteNumber um_X3_28 (x_isByteNumber _ _ K L f b o ra v0 (nI z) v2 v4 hoL hof) ⟨rfl, rfl⟩ (rm_le hRm rfl rfl) rfl hoL hof rfl rfl rfl (Nat.le_of_ble_eq_true rfl) ⟨Nat.zero_le _, Nat.zero_le _⟩ (fun v0 w0 hq0 => ?_)
        rw [bI_congr (lt_pred hz1 hz2 b)] at hq0; obtain ⟨rfl, rfl⟩ := hq0
        show G Γ (va_pl L f) 0 0 111 [(0, .ref o), (1, .int x), (2, .int a), (3, .int b)] [.int (bI (0 ≤ b ∧ b ≤ nI z - 1))]
        refine g_if_eq (n := 114) (tgt := 118) hX dX3_takes_111 rfl (by decide) (fun c111 => ?_) (fun c111 => ?_)
        · refine g_iconst (n := 119) (v := 0) hX dX3_takes_118 rfl rfl ?_
          exact g_zret hX hR dX3_takes_119 rfl (by rw [okB, if_neg (by rw [hxe]; decide), if_neg (by rw [hxe]; decide), if_neg (by rw [hxe]; decide), if_neg (by rw [hxe]; decide), if_neg (by rw [hxe]; decide), if_neg (by rw [hxe]; decide), if_neg (by rw [hxe]; decide), if_pos (by rw [hxe]; decide)]; exact ⟨by rw [bI_f (fun h9 => bI_z.mp c111 h9.2)], rfl⟩)
        · refine g_iconst (n := 115) (v := 1) hX dX3_takes_114 rfl rfl ?_
          refine g_goto (n := 119) hX dX3_takes_115 (by decide) ?_
          exact g_zret hX hR dX3_takes_119 rfl (by rw [okB, if_neg (by rw [hxe]; decide), if_neg (by rw [hxe]; decide), if_neg (by rw [hxe]; decide), if_neg (by rw [hxe]; decide), if_neg (by rw [hxe]; decide), if_neg (by rw [hxe]; decide), if_neg (by rw [hxe]; decide), if_pos (by rw [hxe]; decide)]; exact ⟨by rw [bI_t ⟨(Decidable.of_not_not (fun h9 => c103 (bI_z.mpr h9))), (Decidable.of_not_not (fun h9 => c111 (bI_z.mpr h9)))⟩], rfl⟩)
    · have hxe : x = (5 : Int32) := sw_val (hkz ▸ hk1) (by decide)
      refine g_tableIn (n := 98) (off := 97) hX dX3_takes_1 (by rw [hxe]; decide) (by rw [hxe]; decide) (by rw [hxe]; rfl) (by decide) ?_
      refine g_aload_n (n := 99) hX dX3_takes_98 rfl rfl rfl ?_
      refine g_iload_n (n := 100) hX dX3_takes_99 rfl rfl rfl ?_
      refine g_pcallV (n := 103) (As := [.int a]) (rest := []) hX hE hU hY dX3_takes_100 rfl yv_X3_isByteNumber um_X3_28 (x_isByteNumber _ _ K L f a o ra v0 (nI z) v2 v4 hoL hof) ⟨rfl, rfl⟩ (rm_le hRm rfl rfl) rfl hoL hof rfl rfl rfl (Nat.le_of_ble_eq_true rfl) ⟨Nat.zero_le _, Nat.zero_le _⟩ (fun v0 w0 hq0 => ?_)
      rw [bI_congr (lt_pred hz1 hz2 a)] at hq0; obtain ⟨rfl, rfl⟩ := hq0
      show G Γ (va_pl L f) 0 0 103 [(0, .ref o), (1, .int x), (2, .int a), (3, .int b)] [.int (bI (0 ≤ a ∧ a ≤ nI z - 1))]
      refine g_if_eq (n := 106) (tgt := 118) hX dX3_takes_103 rfl (by decide) (fun c103 => ?_) (fun c103 => ?_)
      · refine g_iconst (n := 119) (v := 0) hX dX3_takes_118 rfl rfl ?_
        exact g_zret hX hR dX3_takes_119 rfl (by rw [okB, if_neg (by rw [hxe]; decide), if_neg (by rw [hxe]; decide), if_neg (by rw [hxe]; decide), if_neg (by rw [hxe]; decide), if_neg (by rw [hxe]; decide), if_neg (by rw [hxe]; decide), if_neg (by rw [hxe]; decide), if_pos (by rw [hxe]; decide)]; exact ⟨by rw [bI_f (fun h9 => bI_z.mp c103 h9.1)], rfl⟩)
      · refine g_aload_n (n := 107) hX dX3_takes_106 rfl rfl rfl ?_
        refine g_iload_n (n := 108) hX dX3_takes_107 rfl rfl rfl ?_
        refine g_pcallV (n := 111) (As := [.int b]) (rest := []) hX hE hU hY dX3_takes_108 rfl yv_X3_isByteNumber um_X3_28 (x_isByteNumber _ _ K L f b o ra v0 (nI z) v2 v4 hoL hof) ⟨rfl, rfl⟩ (rm_le hRm rfl rfl) rfl hoL hof rfl rfl rfl (Nat.le_of_ble_eq_true rfl) ⟨Nat.zero_le _, Nat.zero_le _⟩ (fun v0 w0 hq0 => ?_)
        rw [bI_congr (lt_pred hz1 hz2 b)] at hq0; obtain ⟨rfl, rfl⟩ := hq0
        show G Γ (va_pl L f) 0 0 111 [(0, .ref o), (1, .int x), (2, .int a), (3, .int b)] [.int (bI (0 ≤ b ∧ b ≤ nI z - 1))]
        refine g_if_eq (n := 114) (tgt := 118) hX dX3_takes_111 rfl (by decide) (fun c111 => ?_) (fun c111 => ?_)
        · refine g_iconst (n := 119) (v := 0) hX dX3_takes_118 rfl rfl ?_
          exact g_zret hX hR dX3_takes_119 rfl (by rw [okB, if_neg (by rw [hxe]; decide), if_neg (by rw [hxe]; decide), if_neg (by rw [hxe]; decide), if_neg (by rw [hxe]; decide), if_neg (by rw [hxe]; decide), if_neg (by rw [hxe]; decide), if_neg (by rw [hxe]; decide), if_pos (by rw [hxe]; decide)]; exact ⟨by rw [bI_f (fun h9 => bI_z.mp c111 h9.2)], rfl⟩)
        · refine g_iconst (n := 115) (v := 1) hX dX3_takes_114 rfl rfl ?_
          refine g_goto (n := 119) hX dX3_takes_115 (by decide) ?_
          exact g_zret hX hR dX3_takes_119 rfl (by rw [okB, if_neg (by rw [hxe]; decide), if_neg (by rw [hxe]; decide), if_neg (by rw [hxe]; decide), if_neg (by rw [hxe]; decide), if_neg (by rw [hxe]; decide), if_neg (by rw [hxe]; decide), if_neg (by rw [hxe]; decide), if_pos (by rw [hxe]; decide)]; exact ⟨by rw [bI_t ⟨(Decidable.of_not_not (fun h9 => c103 (bI_z.mpr h9))), (Decidable.of_not_not (fun h9 => c111 (bI_z.mpr h9)))⟩], rfl⟩)
    · have hxe : x = (6 : Int32) := sw_val (hkz ▸ hk1) (by decide)
      refine g_tableIn (n := 98) (off := 97) hX dX3_takes_1 (by rw [hxe]; decide) (by rw [hxe]; decide) (by rw [hxe]; rfl) (by decide) ?_
      refine g_aload_n (n := 99) hX dX3_takes_98 rfl rfl rfl ?_
      refine g_iload_n (n := 100) hX dX3_takes_99 rfl rfl rfl ?_
      refine g_pcallV (n := 103) (As := [.int a]) (rest := []) hX hE hU hY dX3_takes_100 rfl yv_X3_isByteNumber um_X3_28 (x_isByteNumber _ _ K L f a o ra v0 (nI z) v2 v4 hoL hof) ⟨rfl, rfl⟩ (rm_le hRm rfl rfl) rfl hoL hof rfl rfl rfl (Nat.le_of_ble_eq_true rfl) ⟨Nat.zero_le _, Nat.zero_le _⟩ (fun v0 w0 hq0 => ?_)
      rw [bI_congr (lt_pred hz1 hz2 a)] at hq0; obtain ⟨rfl, rfl⟩ := hq0
      show G Γ (va_pl L f) 0 0 103 [(0, .ref o), (1, .int x), (2, .int a), (3, .int b)] [.int (bI (0 ≤ a ∧ a ≤ nI z - 1))]
      refine g_if_eq (n := 106) (tgt := 118) hX dX3_takes_103 rfl (by decide) (fun c103 => ?_) (fun c103 => ?_)
      · refine g_iconst (n := 119) (v := 0) hX dX3_takes_118 rfl rfl ?_
        exact g_zret hX hR dX3_takes_119 rfl (by rw [okB, if_neg (by rw [hxe]; decide), if_neg (by rw [hxe]; decide), if_neg (by rw [hxe]; decide), if_neg (by rw [hxe]; decide), if_neg (by rw [hxe]; decide), if_neg (by rw [hxe]; decide), if_neg (by rw [hxe]; decide), if_pos (by rw [hxe]; decide)]; exact ⟨by rw [bI_f (fun h9 => bI_z.mp c103 h9.1)], rfl⟩)
      · refine g_aload_n (n := 107) hX dX3_takes_106 rfl rfl rfl ?_
        refine g_iload_n (n := 108) hX dX3_takes_107 rfl rfl rfl ?_
        refine g_pcallV (n := 111) (As := [.int b]) (rest := []) hX hE hU hY dX3_takes_108 rfl yv_X3_isByteNumber um_X3_28 (x_isByteNumber _ _ K L f b o ra v0 (nI z) v2 v4 hoL hof) ⟨rfl, rfl⟩ (rm_le hRm rfl rfl) rfl hoL hof rfl rfl rfl (Nat.le_of_ble_eq_true rfl) ⟨Nat.zero_le _, Nat.zero_le _⟩ (fun v0 w0 hq0 => ?_)
        rw [bI_congr (lt_pred hz1 hz2 b)] at hq0; obtain ⟨rfl, rfl⟩ := hq0
        show G Γ (va_pl L f) 0 0 111 [(0, .ref o), (1, .int x), (2, .int a), (3, .int b)] [.int (bI (0 ≤ b ∧ b ≤ nI z - 1))]
        refine g_if_eq (n := 114) (tgt := 118) hX dX3_takes_111 rfl (by decide) (fun c111 => ?_) (fun c111 => ?_)
        · refine g_iconst (n := 119) (v := 0) hX dX3_takes_118 rfl rfl ?_
          exact g_zret hX hR dX3_takes_119 rfl (by rw [okB, if_neg (by rw [hxe]; decide), if_neg (by rw [hxe]; decide), if_neg (by rw [hxe]; decide), if_neg (by rw [hxe]; decide), if_neg (by rw [hxe]; decide), if_neg (by rw [hxe]; decide), if_neg (by rw [hxe]; decide), if_pos (by rw [hxe]; decide)]; exact ⟨by rw [bI_f (fun h9 => bI_z.mp c111 h9.2)], rfl⟩)
        · refine g_iconst (n := 115) (v := 1) hX dX3_takes_114 rfl rfl ?_
          refine g_goto (n := 119) hX dX3_takes_115 (by decide) ?_
          exact g_zret hX hR dX3_takes_119 rfl (by rw [okB, if_neg (by rw [hxe]; decide), if_neg (by rw [hxe]; decide), if_neg (by rw [hxe]; decide), if_neg (by rw [hxe]; decide), if_neg (by rw [hxe]; decide), if_neg (by rw [hxe]; decide), if_neg (by rw [hxe]; decide), if_pos (by rw [hxe]; decide)]; exact ⟨by rw [bI_t ⟨(Decidable.of_not_not (fun h9 => c103 (bI_z.mpr h9))), (Decidable.of_not_not (fun h9 => c111 (bI_z.mpr h9)))⟩], rfl⟩)
    · have hxe : x = (7 : Int32) := sw_val (hkz ▸ hk1) (by decide)
      refine g_tableIn (n := 98) (off := 97) hX dX3_takes_1 (by rw [hxe]; decide) (by rw [hxe]; decide) (by rw [hxe]; rfl) (by decide) ?_
      refine g_aload_n (n := 99) hX dX3_takes_98 rfl rfl rfl ?_
      refine g_iload_n (n := 100) hX dX3_takes_99 rfl rfl rfl ?_
      refine g_pcallV (n := 103) (As := [.int a]) (rest := []) hX hE hU hY dX3_takes_100 rfl yv_X3_isByteNumber um_X3_28 (x_isByteNumber _ _ K L f a o ra v0 (nI z) v2 v4 hoL hof) ⟨rfl, rfl⟩ (rm_le hRm rfl rfl) rfl hoL hof rfl rfl rfl (Nat.le_of_ble_eq_true rfl) ⟨Nat.zero_le _, Nat.zero_le _⟩ (fun v0 w0 hq0 => ?_)
      rw [bI_congr (lt_pred hz1 hz2 a)] at hq0; obtain ⟨rfl, rfl⟩ := hq0
      show G Γ (va_pl L f) 0 0 103 [(0, .ref o), (1, .int x), (2, .int a), (3, .int b)] [.int (bI (0 ≤ a ∧ a ≤ nI z - 1))]
      refine g_if_eq (n := 106) (tgt := 118) hX dX3_takes_103 rfl (by decide) (fun c103 => ?_) (fun c103 => ?_)
      · refine g_iconst (n := 119) (v := 0) hX dX3_takes_118 rfl rfl ?_
        exact g_zret hX hR dX3_takes_119 rfl (by rw [okB, if_neg (by rw [hxe]; decide), if_neg (by rw [hxe]; decide), if_neg (by rw [hxe]; decide), if_neg (by rw [hxe]; decide), if_neg (by rw [hxe]; decide), if_neg (by rw [hxe]; decide), if_neg (by rw [hxe]; decide), if_pos (by rw [hxe]; decide)]; exact ⟨by rw [bI_f (fun h9 => bI_z.mp c103 h9.1)], rfl⟩)
      · refine g_aload_n (n := 107) hX dX3_takes_106 rfl rfl rfl ?_
        refine g_iload_n (n := 108) hX dX3_takes_107 rfl rfl rfl ?_
        refine g_pcallV (n := 111) (As := [.int b]) (rest := []) hX hE hU hY dX3_takes_108 rfl yv_X3_isByteNumber um_X3_28 (x_isByteNumber _ _ K L f b o ra v0 (nI z) v2 v4 hoL hof) ⟨rfl, rfl⟩ (rm_le hRm rfl rfl) rfl hoL hof rfl rfl rfl (Nat.le_of_ble_eq_true rfl) ⟨Nat.zero_le _, Nat.zero_le _⟩ (fun v0 w0 hq0 => ?_)
        rw [bI_congr (lt_pred hz1 hz2 b)] at hq0; obtain ⟨rfl, rfl⟩ := hq0
        show G Γ (va_pl L f) 0 0 111 [(0, .ref o), (1, .int x), (2, .int a), (3, .int b)] [.int (bI (0 ≤ b ∧ b ≤ nI z - 1))]
        refine g_if_eq (n := 114) (tgt := 118) hX dX3_takes_111 rfl (by decide) (fun c111 => ?_) (fun c111 => ?_)
        · refine g_iconst (n := 119) (v := 0) hX dX3_takes_118 rfl rfl ?_
          exact g_zret hX hR dX3_takes_119 rfl (by rw [okB, if_neg (by rw [hxe]; decide), if_neg (by rw [hxe]; decide), if_neg (by rw [hxe]; decide), if_neg (by rw [hxe]; decide), if_neg (by rw [hxe]; decide), if_neg (by rw [hxe]; decide), if_neg (by rw [hxe]; decide), if_pos (by rw [hxe]; decide)]; exact ⟨by rw [bI_f (fun h9 => bI_z.mp c111 h9.2)], rfl⟩)
        · refine g_iconst (n := 115) (v := 1) hX dX3_takes_114 rfl rfl ?_
          refine g_goto (n := 119) hX dX3_takes_115 (by decide) ?_
          exact g_zret hX hR dX3_takes_119 rfl (by rw [okB, if_neg (by rw [hxe]; decide), if_neg (by rw [hxe]; decide), if_neg (by rw [hxe]; decide), if_neg (by rw [hxe]; decide), if_neg (by rw [hxe]; decide), if_neg (by rw [hxe]; decide), if_neg (by rw [hxe]; decide), if_pos (by rw [hxe]; decide)]; exact ⟨by rw [bI_t ⟨(Decidable.of_not_not (fun h9 => c103 (bI_z.mpr h9))), (Decidable.of_not_not (fun h9 => c111 (bI_z.mpr h9)))⟩], rfl⟩)
    · have hxe : x = (8 : Int32) := sw_val (hkz ▸ hk1) (by decide)
      refine g_tableIn (n := 120) (off := 119) hX dX3_takes_1 (by rw [hxe]; decide) (by rw [hxe]; decide) (by rw [hxe]; rfl) (by decide) ?_
      refine g_aload_n (n := 121) hX dX3_takes_120 rfl rfl rfl ?_
      refine g_iload_n (n := 122) hX dX3_takes_121 rfl rfl rfl ?_
      refine g_pcallV (n := 125) (As := [.int a]) (rest := []) hX hE hU hY dX3_takes_122 rfl yv_X3_isByteNumber um_X3_28 (x_isByteNumber _ _ K L f a o ra v0 (nI z) v2 v4 hoL hof) ⟨rfl, rfl⟩ (rm_le hRm rfl rfl) rfl hoL hof rfl rfl rfl (Nat.le_of_ble_eq_true rfl) ⟨Nat.zero_le _, Nat.zero_le _⟩ (fun v0 w0 hq0 => ?_)
      rw [bI_congr (lt_pred hz1 hz2 a)] at hq0; obtain ⟨rfl, rfl⟩ := hq0
      show G Γ (va_pl L f) 0 0 125 [(0, .ref o), (1, .int x), (2, .int a), (3, .int b)] [.int (bI (0 ≤ a ∧ a ≤ nI z - 1))]
      refine g_if_eq (n := 128) (tgt := 140) hX dX3_takes_125 rfl (by decide) (fun c125 => ?_) (fun c125 => ?_)
      · refine g_iconst (n := 141) (v := 0) hX dX3_takes_140 rfl rfl ?_
        exact g_zret hX hR dX3_takes_141 rfl (by rw [okB, if_neg (by rw [hxe]; decide), if_neg (by rw [hxe]; decide), if_pos hxe]; exact ⟨by rw [bI_f (fun h9 => bI_z.mp c125 h9.1)], rfl⟩)
      · refine g_aload_n (n := 129) hX dX3_takes_128 rfl rfl rfl ?_
        refine g_iload_n (n := 130) hX dX3_takes_129 rfl rfl rfl ?_
        refine g_pcallV (n := 133) (As := [.int b]) (rest := []) hX hE hU hY dX3_takes_130 rfl yv_X3_isTarget um_X3_32 (x_isTarget _ _ K L f b o) ⟨rfl, rfl⟩ (rm_le hRm rfl rfl) rfl hoL hof rfl rfl rfl (Nat.le_of_ble_eq_true rfl) ⟨Nat.zero_le _, Nat.zero_le _⟩ (fun v0 w0 hq0 => ?_)
        obtain ⟨rfl, rfl⟩ := hq0
        show G Γ (va_pl L f) 0 0 133 [(0, .ref o), (1, .int x), (2, .int a), (3, .int b)] [.int (bI (1 ≤ b ∧ b ≤ 61))]
        refine g_if_eq (n := 136) (tgt := 140) hX dX3_takes_133 rfl (by decide) (fun c133 => ?_) (fun c133 => ?_)
        · refine g_iconst (n := 141) (v := 0) hX dX3_takes_140 rfl rfl ?_
          exact g_zret hX hR dX3_takes_141 rfl (by rw [okB, if_neg (by rw [hxe]; decide), if_neg (by rw [hxe]; decide), if_pos hxe]; exact ⟨by rw [bI_f (fun h9 => bI_z.mp c133 h9.2)], rfl⟩)
        · refine g_iconst (n := 137) (v := 1) hX dX3_takes_136 rfl rfl ?_
          refine g_goto (n := 141) hX dX3_takes_137 (by decide) ?_
          exact g_zret hX hR dX3_takes_141 rfl (by rw [okB, if_neg (by rw [hxe]; decide), if_neg (by rw [hxe]; decide), if_pos hxe]; exact ⟨by rw [bI_t ⟨(Decidable.of_not_not (fun h9 => c125 (bI_z.mpr h9))), (Decidable.of_not_not (fun h9 => c133 (bI_z.mpr h9)))⟩], rfl⟩)
    · have hxe : x = (9 : Int32) := sw_val (hkz ▸ hk1) (by decide)
      refine g_tableIn (n := 142) (off := 141) hX dX3_takes_1 (by rw [hxe]; decide) (by rw [hxe]; decide) (by rw [hxe]; rfl) (by decide) ?_
      refine g_aload_n (n := 143) hX dX3_takes_142 rfl rfl rfl ?_
      refine g_iload_n (n := 144) hX dX3_takes_143 rfl rfl rfl ?_
      refine g_pcallV (n := 147) (As := [.int b]) (rest := []) hX hE hU hY dX3_takes_144 rfl yv_X3_isTarget um_X3_32 (x_isTarget _ _ K L f b o) ⟨rfl, rfl⟩ (rm_le hRm rfl rfl) rfl hoL hof rfl rfl rfl (Nat.le_of_ble_eq_true rfl) ⟨Nat.zero_le _, Nat.zero_le _⟩ (fun v0 w0 hq0 => ?_)
      obtain ⟨rfl, rfl⟩ := hq0
      show G Γ (va_pl L f) 0 0 147 [(0, .ref o), (1, .int x), (2, .int a), (3, .int b)] [.int (bI (1 ≤ b ∧ b ≤ 61))]
      exact g_zret hX hR dX3_takes_147 (bI_nar _) (by rw [okB, if_neg (by rw [hxe]; decide), if_neg (by rw [hxe]; decide), if_neg (by rw [hxe]; decide), if_pos hxe]; exact ⟨rfl, rfl⟩)
    · have hxe : x = (10 : Int32) := sw_val (hkz ▸ hk1) (by decide)
      refine g_tableIn (n := 148) (off := 147) hX dX3_takes_1 (by rw [hxe]; decide) (by rw [hxe]; decide) (by rw [hxe]; rfl) (by decide) ?_
      refine g_iload_n (n := 149) hX dX3_takes_148 rfl rfl rfl ?_
      refine g_iconst (n := 150) (v := 1) hX dX3_takes_149 rfl rfl ?_
      refine g_icmp_lt (n := 153) (tgt := 163) hX dX3_takes_150 rfl (by decide) (fun c150 => ?_) (fun c150 => ?_)
      · refine g_iconst (n := 164) (v := 0) hX dX3_takes_163 rfl rfl ?_
        exact g_zret hX hR dX3_takes_164 rfl (by rw [okB, if_neg (by rw [hxe]; decide), if_neg (by rw [hxe]; decide), if_neg (by rw [hxe]; decide), if_neg (by rw [hxe]; decide), if_pos hxe]; exact ⟨by rw [bI_f (fun h9 => Int32.not_lt.mpr h9.1 c150)], rfl⟩)
      · refine g_iload_n (n := 154) hX dX3_takes_153 rfl rfl rfl ?_
        refine g_bipush (n := 156) (v := 12) hX dX3_takes_154 rfl rfl ?_
        refine g_icmp_gt (n := 159) (tgt := 163) hX dX3_takes_156 rfl (by decide) (fun c156 => ?_) (fun c156 => ?_)
        · refine g_iconst (n := 164) (v := 0) hX dX3_takes_163 rfl rfl ?_
          exact g_zret hX hR dX3_takes_164 rfl (by rw [okB, if_neg (by rw [hxe]; decide), if_neg (by rw [hxe]; decide), if_neg (by rw [hxe]; decide), if_neg (by rw [hxe]; decide), if_pos hxe]; exact ⟨by rw [bI_f (fun h9 => Int32.not_lt.mpr h9.2 c156)], rfl⟩)
        · refine g_iconst (n := 160) (v := 1) hX dX3_takes_159 rfl rfl ?_
          refine g_goto (n := 164) hX dX3_takes_160 (by decide) ?_
          exact g_zret hX hR dX3_takes_164 rfl (by rw [okB, if_neg (by rw [hxe]; decide), if_neg (by rw [hxe]; decide), if_neg (by rw [hxe]; decide), if_neg (by rw [hxe]; decide), if_pos hxe]; exact ⟨by rw [bI_t ⟨Int32.not_lt.mp c150, Int32.not_lt.mp c156⟩], rfl⟩)
    · have hxe : x = (11 : Int32) := sw_val (hkz ▸ hk1) (by decide)
      refine g_tableIn (n := 165) (off := 164) hX dX3_takes_1 (by rw [hxe]; decide) (by rw [hxe]; decide) (by rw [hxe]; rfl) (by decide) ?_
      refine g_iload_n (n := 166) hX dX3_takes_165 rfl rfl rfl ?_
      refine g_if_lt (n := 169) (tgt := 179) hX dX3_takes_166 rfl (by decide) (fun c166 => ?_) (fun c166 => ?_)
      · refine g_iconst (n := 180) (v := 0) hX dX3_takes_179 rfl rfl ?_
        exact g_zret hX hR dX3_takes_180 rfl (by rw [okB, if_neg (by rw [hxe]; decide), if_neg (by rw [hxe]; decide), if_neg (by rw [hxe]; decide), if_neg (by rw [hxe]; decide), if_neg (by rw [hxe]; decide), if_pos hxe]; exact ⟨by rw [bI_f (fun h9 => Int32.not_lt.mpr h9.1 c166)], rfl⟩)
      · refine g_iload_n (n := 170) hX dX3_takes_169 rfl rfl rfl ?_
        refine g_bipush (n := 172) (v := 127) hX dX3_takes_170 rfl rfl ?_
        refine g_icmp_gt (n := 175) (tgt := 179) hX dX3_takes_172 rfl (by decide) (fun c172 => ?_) (fun c172 => ?_)
        · refine g_iconst (n := 180) (v := 0) hX dX3_takes_179 rfl rfl ?_
          exact g_zret hX hR dX3_takes_180 rfl (by rw [okB, if_neg (by rw [hxe]; decide), if_neg (by rw [hxe]; decide), if_neg (by rw [hxe]; decide), if_neg (by rw [hxe]; decide), if_neg (by rw [hxe]; decide), if_pos hxe]; exact ⟨by rw [bI_f (fun h9 => Int32.not_lt.mpr h9.2 c172)], rfl⟩)
        · refine g_iconst (n := 176) (v := 1) hX dX3_takes_175 rfl rfl ?_
          refine g_goto (n := 180) hX dX3_takes_176 (by decide) ?_
          exact g_zret hX hR dX3_takes_180 rfl (by rw [okB, if_neg (by rw [hxe]; decide), if_neg (by rw [hxe]; decide), if_neg (by rw [hxe]; decide), if_neg (by rw [hxe]; decide), if_neg (by rw [hxe]; decide), if_pos hxe]; exact ⟨by rw [bI_t ⟨Int32.not_lt.mp c166, Int32.not_lt.mp c172⟩], rfl⟩)
    · have hxe : x = (12 : Int32) := sw_val (hkz ▸ hk1) (by decide)
      refine g_tableIn (n := 165) (off := 164) hX dX3_takes_1 (by rw [hxe]; decide) (by rw [hxe]; decide) (by rw [hxe]; rfl) (by decide) ?_
      refine g_iload_n (n := 166) hX dX3_takes_165 rfl rfl rfl ?_
      refine g_if_lt (n := 169) (tgt := 179) hX dX3_takes_166 rfl (by decide) (fun c166 => ?_) (fun c166 => ?_)
      · refine g_iconst (n := 180) (v := 0) hX dX3_takes_179 rfl rfl ?_
        exact g_zret hX hR dX3_takes_180 rfl (by rw [okB, if_neg (by rw [hxe]; decide), if_neg (by rw [hxe]; decide), if_neg (by rw [hxe]; decide), if_neg (by rw [hxe]; decide), if_neg (by rw [hxe]; decide), if_neg (by rw [hxe]; decide), if_pos hxe]; exact ⟨by rw [bI_f (fun h9 => Int32.not_lt.mpr h9.1 c166)], rfl⟩)
      · refine g_iload_n (n := 170) hX dX3_takes_169 rfl rfl rfl ?_
        refine g_bipush (n := 172) (v := 127) hX dX3_takes_170 rfl rfl ?_
        refine g_icmp_gt (n := 175) (tgt := 179) hX dX3_takes_172 rfl (by decide) (fun c172 => ?_) (fun c172 => ?_)
        · refine g_iconst (n := 180) (v := 0) hX dX3_takes_179 rfl rfl ?_
          exact g_zret hX hR dX3_takes_180 rfl (by rw [okB, if_neg (by rw [hxe]; decide), if_neg (by rw [hxe]; decide), if_neg (by rw [hxe]; decide), if_neg (by rw [hxe]; decide), if_neg (by rw [hxe]; decide), if_neg (by rw [hxe]; decide), if_pos hxe]; exact ⟨by rw [bI_f (fun h9 => Int32.not_lt.mpr h9.2 c172)], rfl⟩)
        · refine g_iconst (n := 176) (v := 1) hX dX3_takes_175 rfl rfl ?_
          refine g_goto (n := 180) hX dX3_takes_176 (by decide) ?_
          exact g_zret hX hR dX3_takes_180 rfl (by rw [okB, if_neg (by rw [hxe]; decide), if_neg (by rw [hxe]; decide), if_neg (by rw [hxe]; decide), if_neg (by rw [hxe]; decide), if_neg (by rw [hxe]; decide), if_neg (by rw [hxe]; decide), if_pos hxe]; exact ⟨by rw [bI_t ⟨Int32.not_lt.mp c166, Int32.not_lt.mp c172⟩], rfl⟩)
    · have hxe : x = (13 : Int32) := sw_val (hkz ▸ hk1) (by decide)
      refine g_tableIn (n := 72) (off := 71) hX dX3_takes_1 (by rw [hxe]; decide) (by rw [hxe]; decide) (by rw [hxe]; rfl) (by decide) ?_
      refine g_aload_n (n := 73) hX dX3_takes_72 rfl rfl rfl ?_
      refine g_iload_n (n := 74) hX dX3_takes_73 rfl rfl rfl ?_
      refine g_pcallV (n := 77) (As := [.int a]) (rest := []) hX hE hU hY dX3_takes_74 rfl yv_X3_isByteNumber um_X3_28 (x_isByteNumber _ _ K L f a o ra v0 (nI z) v2 v4 hoL hof) ⟨rfl, rfl⟩ (rm_le hRm rfl rfl) rfl hoL hof rfl rfl rfl (Nat.le_of_ble_eq_true rfl) ⟨Nat.zero_le _, Nat.zero_le _⟩ (fun v0 w0 hq0 => ?_)
      rw [bI_congr (lt_pred hz1 hz2 a)] at hq0; obtain ⟨rfl, rfl⟩ := hq0
      show G Γ (va_pl L f) 0 0 77 [(0, .ref o), (1, .int x), (2, .int a), (3, .int b)] [.int (bI (0 ≤ a ∧ a ≤ nI z - 1))]
      refine g_if_eq (n := 80) (tgt := 96) hX dX3_takes_77 rfl (by decide) (fun c77 => ?_) (fun c77 => ?_)
      · refine g_iconst (n := 97) (v := 0) hX dX3_takes_96 rfl rfl ?_
        exact g_zret hX hR dX3_takes_97 rfl (by rw [okB, if_neg (by rw [hxe]; decide), if_pos hxe]; exact ⟨by rw [bI_f (fun h9 => bI_z.mp c77 h9.1)], rfl⟩)
      · refine g_iload_n (n := 81) hX dX3_takes_80 rfl rfl rfl ?_
        refine g_bipush (n := 83) (v := (-128)) hX dX3_takes_81 rfl rfl ?_
        refine g_icmp_lt (n := 86) (tgt := 96) hX dX3_takes_83 rfl (by decide) (fun c83 => ?_) (fun c83 => ?_)
        · refine g_iconst (n := 97) (v := 0) hX dX3_takes_96 rfl rfl ?_
          exact g_zret hX hR dX3_takes_97 rfl (by rw [okB, if_neg (by rw [hxe]; decide), if_pos hxe]; exact ⟨by rw [bI_f (fun h9 => Int32.not_lt.mpr h9.2.1 c83)], rfl⟩)
        · refine g_iload_n (n := 87) hX dX3_takes_86 rfl rfl rfl ?_
          refine g_bipush (n := 89) (v := 127) hX dX3_takes_87 rfl rfl ?_
          refine g_icmp_gt (n := 92) (tgt := 96) hX dX3_takes_89 rfl (by decide) (fun c89 => ?_) (fun c89 => ?_)
          · refine g_iconst (n := 97) (v := 0) hX dX3_takes_96 rfl rfl ?_
            exact g_zret hX hR dX3_takes_97 rfl (by rw [okB, if_neg (by rw [hxe]; decide), if_pos hxe]; exact ⟨by rw [bI_f (fun h9 => Int32.not_lt.mpr h9.2.2 c89)], rfl⟩)
          · refine g_iconst (n := 93) (v := 1) hX dX3_takes_92 rfl rfl ?_
            refine g_goto (n := 97) hX dX3_takes_93 (by decide) ?_
            exact g_zret hX hR dX3_takes_97 rfl (by rw [okB, if_neg (by rw [hxe]; decide), if_pos hxe]; exact ⟨by rw [bI_t ⟨(Decidable.of_not_not (fun h9 => c77 (bI_z.mpr h9))), Int32.not_lt.mp c83, Int32.not_lt.mp c89⟩], rfl⟩)

set_option maxHeartbeats 4000000 in
set_option maxRecDepth 100000 in
theorem x_addRow (l : Launch) (D : va_G) (K : Nat → ClassId) (L : List Nat) (f : Nat → va_E) (x a b : Int32) (o ra rc : Nat) (g : Nat → Option Nat) (v0 v1 v2 : Int32) (hoL : o ∈ L) (hof : f o = .inr (5, [.int v0, .int v1, .int v2, .ref ra, .int (nI rc)])) (haL : ra ∈ L) (haf : f ra = .inl (K 5, 60, rE g)) (hrc2 : rc ≤ 60) : Mc l yX3_addRow (wM yX3_addRow cX3_addRow 4 (some .int)) (rmL 2 1 3) D (yY K) [.ref o, .int x, .int a, .int b] (va_pl L f) (fun v w => (¬ rc < 60 ∧ v = some (.int (-1)) ∧ w = va_pl L f) ∨ (rc < 60 ∧ v = some (.int (nI (rc + 1))) ∧ ∃ (q : Nat) (f1 : Nat → va_E), q ∉ L ∧ w = va_pl (L ++ [q]) f1 ∧ f1 = va_up (va_up (va_up f q (.inr (6, [.int x, .int a, .int b]))) ra (.inl (K 5, 60, rE (va_up g rc (some q))))) o (.inr (5, [.int v0, .int v1, .int v2, .ref ra, .int (nI (rc + 1))])))) 1 3 := by
  refine m_start (lv := [(0, .ref o), (1, .int x), (2, .int a), (3, .int b)]) rfl (Nat.le_of_ble_eq_true rfl) rfl (fun Γ hX hRm hnL hY hDD hLa hR hI hE => ?_)
  have hU : ∀ w ∈ wU, w ∈ wM yX3_addRow cX3_addRow 4 (some .int) := fun w h => wM_in h
  subst hLa
  subst hDD
  by_cases hrc : rc < 60
  · refine g_aload_n (n := 1) hX dX3_addRow_0 rfl rfl rfl ?_
    refine g_pget (n := 4) ux_X3 rfl hX hU dX3_addRow_1 rfl hoL hof 4 rfl uf_X3_35 rfl ?_
    refine g_aload_n (n := 5) hX dX3_addRow_4 rfl rfl rfl ?_
    refine g_pget (n := 8) ux_X3 rfl hX hU dX3_addRow_5 rfl hoL hof 3 rfl uf_X3_24 rfl ?_
    refine g_palen (n := 9) (t0 := 5) (v := nI (60)) hX hY dX3_addRow_8 rfl haL haf rfl rfl ?_
    refine g_icmp_lt (n := 12) (tgt := 14) hX dX3_addRow_9 rfl (by decide) (fun c9 => ?_) (fun c9 => absurd (nI_lt (a := rc) (b := 60) hrc (by decide)) c9)
    refine g_aload_n (n := 15) hX dX3_addRow_14 rfl rfl rfl ?_
    refine g_pget (n := 18) ux_X3 rfl hX hU dX3_addRow_15 rfl hoL hof 3 rfl uf_X3_24 rfl ?_
    refine g_aload_n (n := 19) hX dX3_addRow_18 rfl rfl rfl ?_
    refine g_pget (n := 22) ux_X3 rfl hX hU dX3_addRow_19 rfl hoL hof 4 rfl uf_X3_35 rfl ?_
    refine g_pnew (n := 25) (ci := 6) (fs := [.int 0, .int 0, .int 0]) tyX4 tyX4_ok ux_X4 rfl hX hU dX3_addRow_22 rfl ul_X3_22 ut_X4 un_X4 (by decide) (by rw [hRm]; decide) (by rw [hRm]; decide) (fun q18 f18 hq18 ef18 => ?_)
    have ho_19 : f18 o = .inr (5, [.int v0, .int v1, .int v2, .ref ra, .int (nI rc)]) := by rw [ef18, va_up_ne _ _ (ne_new hoL hq18)]; exact hof
    have hra_20 : f18 ra = .inl (K 5, 60, rE g) := by rw [ef18, va_up_ne _ _ (ne_new haL hq18)]; exact haf
    have hq18_21 : f18 q18 = .inr (6, [.int 0, .int 0, .int 0]) := by rw [ef18]; exact va_up_self _ _ _
    refine g_dup (n := 26) hX dX3_addRow_25 rfl rfl ?_
    refine g_iload_n (n := 27) hX dX3_addRow_26 rfl rfl rfl ?_
    refine g_iload_n (n := 28) hX dX3_addRow_27 rfl rfl rfl ?_
    refine g_iload_n (n := 29) hX dX3_addRow_28 rfl rfl rfl ?_
    refine g_callI0 (n := 32) (As := [.int x, .int a, .int b]) (rest := [.ref q18, .int (nI rc), .ref ra]) hX hE hU hY dX3_addRow_29 rfl yi_X4_init um_X3_38 (x_RowInit _ _ K (L ++ [q18]) f18 x a b q18 0 0 0 in_new hq18_21) ⟨rfl, rfl⟩ (rm_le hRm rfl rfl) rfl rfl (Nat.le_of_ble_eq_true rfl) (by rw [hRm]; decide) (fun v0 w0 hq0 => ?_)
    obtain ⟨rfl, f22, rfl, ef22⟩ := hq0
    show G Γ (va_pl (L ++ [q18]) f22) 1 3 32 [(0, .ref o), (1, .int x), (2, .int a), (3, .int b)] [.ref q18, .int (nI rc), .ref ra]
    have ho_23 : f22 o = .inr (5, [.int v0, .int v1, .int v2, .ref ra, .int (nI rc)]) := by rw [ef22, va_up_ne _ _ (ne_new hoL hq18)]; exact ho_19
    have hra_24 : f22 ra = .inl (K 5, 60, rE g) := by rw [ef22, va_up_ne _ _ (ne_new haL hq18)]; exact hra_20
    have hq18_25 : f22 q18 = .inr (6, [.int x, .int a, .int b]) := by rw [ef22]; exact va_up_self _ _ _
    refine g_past (n := 33) (i0 := rc) 5 hX hY dX3_addRow_32 rfl (in_app haL) hra_24 rfl in_new hq18_25 rfl (vp_in_nI (show rc < 60 by omega) (by omega)) (nI_clamp (by omega)) (fun f26 ef26 => ?_)
    have ho_27 : f26 o = .inr (5, [.int v0, .int v1, .int v2, .ref ra, .int (nI rc)]) := by rw [ef26, va_up_ne _ _ (ne_oa ho_23 hra_24)]; exact ho_23
    have hra_28 : f26 ra = .inl (K 5, 60, rE (va_up g rc (some q18))) := by rw [ef26]; exact va_up_self _ _ _
    have hq18_29 : f26 q18 = .inr (6, [.int x, .int a, .int b]) := by rw [ef26, va_up_ne _ _ (Ne.symm (ne_new haL hq18))]; exact hq18_25
    refine g_aload_n (n := 34) hX dX3_addRow_33 rfl rfl rfl ?_
    refine g_dup (n := 35) hX dX3_addRow_34 rfl rfl ?_
    refine g_pget (n := 38) ux_X3 rfl hX hU dX3_addRow_35 rfl (in_app hoL) ho_27 4 rfl uf_X3_35 rfl ?_
    refine g_iconst (n := 39) (v := 1) hX dX3_addRow_38 rfl rfl ?_
    refine g_iadd (n := 40) (v := nI (rc + 1)) hX dX3_addRow_39 rfl (nI_add (rc) (1)) ?_
    refine g_pput (n := 43) (fs' := [.int v0, .int v1, .int v2, .ref ra, .int (nI (rc + 1))]) tyX3 tyX3_ok nmX3 ux_X3 rfl hX hU dX3_addRow_40 rfl (in_app hoL) ho_27 4 rfl uf_X3_35 rfl rfl rfl rfl rfl (fun f30 ef30 => ?_)
    have ho_31 : f30 o = .inr (5, [.int v0, .int v1, .int v2, .ref ra, .int (nI (rc + 1))]) := by rw [ef30]; exact va_up_self _ _ _
    have hra_32 : f30 ra = .inl (K 5, 60, rE (va_up g rc (some q18))) := by rw [ef30, va_up_ne _ _ (ne_ao hra_28 ho_27)]; exact hra_28
    have hq18_33 : f30 q18 = .inr (6, [.int x, .int a, .int b]) := by rw [ef30, va_up_ne _ _ (Ne.symm (ne_new hoL hq18))]; exact hq18_29
    refine g_aload_n (n := 44) hX dX3_addRow_43 rfl rfl rfl ?_
    refine g_pget (n := 47) ux_X3 rfl hX hU dX3_addRow_44 rfl (in_app hoL) ho_31 4 rfl uf_X3_35 rfl ?_
    exact g_iret hX hR dX3_addRow_47 (Or.inr ⟨hrc, rfl, _, _, hq18, rfl, by simp only [ef18, ef22, ef26, ef30, up_up]⟩)
  · refine g_widen (kc' := 1) (ks' := 3) (by decide) (by decide) ?_
    refine g_aload_n (n := 1) hX dX3_addRow_0 rfl rfl rfl ?_
    refine g_pget (n := 4) ux_X3 rfl hX hU dX3_addRow_1 rfl hoL hof 4 rfl uf_X3_35 rfl ?_
    refine g_aload_n (n := 5) hX dX3_addRow_4 rfl rfl rfl ?_
    refine g_pget (n := 8) ux_X3 rfl hX hU dX3_addRow_5 rfl hoL hof 3 rfl uf_X3_24 rfl ?_
    refine g_palen (n := 9) (t0 := 5) (v := nI (60)) hX hY dX3_addRow_8 rfl haL haf rfl rfl ?_
    refine g_icmp_lt (n := 12) (tgt := 14) hX dX3_addRow_9 rfl (by decide) (fun c9 => absurd c9 (nI_nlt (a := rc) (b := 60) (by omega) (by omega))) (fun c9 => ?_)
    refine g_iconst (n := 13) (v := (-1)) hX dX3_addRow_12 rfl rfl ?_
    exact g_iret hX hR dX3_addRow_13 (Or.inl ⟨hrc, rfl, rfl⟩)

