section GPC
variable {Γ : gT} {L : List Nat} {f : Nat → va_E} {kc ks pc n : Nat} {lv : List (Nat × Value)} {st : List Value} {cc : ByteArray} {Ts : List Cond} {own : String} {post : Option Value → va_W → Prop} {ret : Option FieldType} {y : MethodName} {bytes : ByteArray} {maxL index mc ms na : Nat} {rm : Room} {C : String} {b : Nat} {As rest : List Value}
theorem g_pcallV (h : gOk Γ cc Ts own) (hE : gEv Γ) (hU : ∀ w ∈ wU, w ∈ Ts) {Yc : List (ClassId × FieldType)} (hYY : gY Γ = Yc) (hdg : decode cc pc = .ok (.invokevirtual index, 3)) (hn : pc + 3 = n) (hy : yV y bytes maxL ret C na) (hlk : Cond.methodLink own index y ∈ wU)
    (hM : Mc (gLa Γ) y (wM y bytes maxL ret) rm (gD Γ) Yc (.ref b :: As) (va_pl L f) post mc ms) (hrm : rm.cells = mc ∧ rm.slots = ms) (hR : rm.frames + 1 ≤ (gRm Γ).frames ∧ 8 + (maxL + 11) + rm.locals ≤ (gRm Γ).locals) (hna : As.length = na)
    {ci : Nat} {fs : List Value} {cq : vw_C} (hL : b ∈ L) (hf : f b = .inr (ci, fs)) (hci : vwCl[ci]? = some cq) (hcq : cq.1 = C) (hst : st = As.reverse ++ .ref b :: rest) (hcat : (rest.map fun v => v.category).sum ≤ 8) (hcells : kc + mc ≤ (gRm Γ).cells ∧ ks + ms ≤ (gRm Γ).slots)
    (k : ∀ (v : Option Value) (w1 : va_W), post v w1 → G Γ w1 (kc + mc) (ks + ms) n lv (v.toList ++ rest)) : G Γ (va_pl L f) kc ks pc lv st := by
  obtain ⟨q0, hq⟩ := p_at (f := f) hL
  exact g_callV0 h hE hU hYY hdg hn hy hlk hM hrm hR hna (q0 := q0) (by rw [hq, hf]) hci hcq hst hcat hcells k
end GPC
set_option maxHeartbeats 4000000 in
set_option maxRecDepth 100000 in
theorem x_findRow3 (l : Launch) (D : va_G) (K : Nat → ClassId) (L : List Nat) (f : Nat → va_E) (i : Int32) (o ar cnt : Nat) (g : Nat → Option Nat) (v0 v1 v2 : Int32) (hoL : o ∈ L) (hof : f o = .inr (5, [.int v0, .int v1, .int v2, .ref ar, .int (nI cnt)])) (haL : ar ∈ L) (haf : f ar = .inl (K 5, 60, rE g)) (hcnt : cnt ≤ 60) : Mc l yX3_findRow (wM yX3_findRow cX3_findRow 2 (some (.object "ClassMaker4$Row"))) (rmL 0 0 0) D (yY K) [.ref o, .int i] (va_pl L f) (fun v w => v = some (va_rf (if 1 ≤ i ∧ i ≤ nI cnt then g (i.toNatClampNeg - 1) else none)) ∧ w = va_pl L f) 0 0 := by
  refine m_start (lv := [(0, .ref o), (1, .int i)]) rfl (Nat.le_of_ble_eq_true rfl) rfl (fun Γ hX hRm hnL hY hDD hLa hR hI hE => ?_)
  have hU : ∀ w ∈ wU, w ∈ wM yX3_findRow cX3_findRow 2 (some (.object "ClassMaker4$Row")) := fun w h => wM_in h
  subst hLa
  subst hDD
  by_cases hin : 1 ≤ i ∧ i ≤ nI cnt
  · obtain ⟨j, hj1, hj2, rfl⟩ := in_nI (f := 1) (by omega) hin (by decide)
    have ej : (nI j).toNatClampNeg = j := nI_clamp (by omega)
    refine g_iload_n (n := 1) hX dX3_findRow_0 rfl rfl rfl ?_
    refine g_iconst (n := 2) (v := 1) hX dX3_findRow_1 rfl rfl ?_
    refine g_icmp_lt (n := 5) (tgt := 24) hX dX3_findRow_2 rfl (by decide) (fun c2 => absurd c2 (Int32.not_lt.mpr hin.1)) (fun c2 => ?_)
    refine g_iload_n (n := 6) hX dX3_findRow_5 rfl rfl rfl ?_
    refine g_aload_n (n := 7) hX dX3_findRow_6 rfl rfl rfl ?_
    refine g_pget (n := 10) ux_X3 rfl hX hU dX3_findRow_7 rfl hoL hof 4 rfl uf_X3_35 rfl ?_
    refine g_icmp_gt (n := 13) (tgt := 24) hX dX3_findRow_10 rfl (by decide) (fun c10 => absurd c10 (Int32.not_lt.mpr hin.2)) (fun c10 => ?_)
    refine g_aload_n (n := 14) hX dX3_findRow_13 rfl rfl rfl ?_
    refine g_pget (n := 17) ux_X3 rfl hX hU dX3_findRow_14 rfl hoL hof 3 rfl uf_X3_24 rfl ?_
    refine g_iload_n (n := 18) hX dX3_findRow_17 rfl rfl rfl ?_
    refine g_iconst (n := 19) (v := 1) hX dX3_findRow_18 rfl rfl ?_
    refine g_isub (n := 20) (v := nI (j - 1)) hX dX3_findRow_19 rfl (nI_sub1 hj1) ?_
    refine g_pald (n := 21) (r := g (j - 1)) 5 hX hY dX3_findRow_20 rfl haL haf rfl (vp_in_nI (show j - 1 < 60 by omega) (by omega)) (congrArg g (nI_clamp (by omega))) ?_
    refine g_goto (n := 25) hX dX3_findRow_21 (by decide) ?_
    exact g_aret hX hR dX3_findRow_25 (Or.inl ⟨_, rfl⟩) (va_rf_or _) ⟨by rw [if_pos hin, ej], rfl⟩
  · refine g_iload_n (n := 1) hX dX3_findRow_0 rfl rfl rfl ?_
    refine g_iconst (n := 2) (v := 1) hX dX3_findRow_1 rfl rfl ?_
    refine g_icmp_lt (n := 5) (tgt := 24) hX dX3_findRow_2 rfl (by decide) (fun c2 => ?_) (fun c2 => ?_)
    · refine g_null (n := 25) hX dX3_findRow_24 rfl ?_
      exact g_aret hX hR dX3_findRow_25 (Or.inl ⟨_, rfl⟩) (Or.inl rfl) ⟨by rw [if_neg hin]; rfl, rfl⟩
    · refine g_iload_n (n := 6) hX dX3_findRow_5 rfl rfl rfl ?_
      refine g_aload_n (n := 7) hX dX3_findRow_6 rfl rfl rfl ?_
      refine g_pget (n := 10) ux_X3 rfl hX hU dX3_findRow_7 rfl hoL hof 4 rfl uf_X3_35 rfl ?_
      refine g_icmp_gt (n := 13) (tgt := 24) hX dX3_findRow_10 rfl (by decide) (fun c10 => ?_) (fun c10 => absurd (Int32.not_le.mp (fun h9 => hin ⟨Int32.not_lt.mp c2, h9⟩)) c10)
      refine g_null (n := 25) hX dX3_findRow_24 rfl ?_
      exact g_aret hX hR dX3_findRow_25 (Or.inl ⟨_, rfl⟩) (Or.inl rfl) ⟨by rw [if_neg hin]; rfl, rfl⟩

set_option maxHeartbeats 4000000 in
set_option maxRecDepth 100000 in
theorem x_findProgram (l : Launch) (D : va_G) (K : Nat → ClassId) (L : List Nat) (f : Nat → va_E) (i : Int32) (o ar cnt : Nat) (g : Nat → Option Nat) (ca : Nat) (v3 : Int32) (hoL : o ∈ L) (hof : f o = .inr (8, [.ref ar, .ref ca, .int (nI cnt), .int v3])) (haL : ar ∈ L) (haf : f ar = .inl (K 4, 12, rE g)) (hcnt : cnt ≤ 12) : Mc l yX6_findProgram (wM yX6_findProgram cX6_findProgram 2 (some (.object "ClassMaker4$Program"))) (rmL 0 0 0) D (yY K) [.ref o, .int i] (va_pl L f) (fun v w => v = some (va_rf (if 1 ≤ i ∧ i ≤ nI cnt then g (i.toNatClampNeg - 1) else none)) ∧ w = va_pl L f) 0 0 := by
  refine m_start (lv := [(0, .ref o), (1, .int i)]) rfl (Nat.le_of_ble_eq_true rfl) rfl (fun Γ hX hRm hnL hY hDD hLa hR hI hE => ?_)
  have hU : ∀ w ∈ wU, w ∈ wM yX6_findProgram cX6_findProgram 2 (some (.object "ClassMaker4$Program")) := fun w h => wM_in h
  subst hLa
  subst hDD
  by_cases hin : 1 ≤ i ∧ i ≤ nI cnt
  · obtain ⟨j, hj1, hj2, rfl⟩ := in_nI (f := 1) (by omega) hin (by decide)
    have ej : (nI j).toNatClampNeg = j := nI_clamp (by omega)
    refine g_iload_n (n := 1) hX dX6_findProgram_0 rfl rfl rfl ?_
    refine g_iconst (n := 2) (v := 1) hX dX6_findProgram_1 rfl rfl ?_
    refine g_icmp_lt (n := 5) (tgt := 24) hX dX6_findProgram_2 rfl (by decide) (fun c2 => absurd c2 (Int32.not_lt.mpr hin.1)) (fun c2 => ?_)
    refine g_iload_n (n := 6) hX dX6_findProgram_5 rfl rfl rfl ?_
    refine g_aload_n (n := 7) hX dX6_findProgram_6 rfl rfl rfl ?_
    refine g_pget (n := 10) ux_X6 rfl hX hU dX6_findProgram_7 rfl hoL hof 2 rfl uf_X6_23 rfl ?_
    refine g_icmp_gt (n := 13) (tgt := 24) hX dX6_findProgram_10 rfl (by decide) (fun c10 => absurd c10 (Int32.not_lt.mpr hin.2)) (fun c10 => ?_)
    refine g_aload_n (n := 14) hX dX6_findProgram_13 rfl rfl rfl ?_
    refine g_pget (n := 17) ux_X6 rfl hX hU dX6_findProgram_14 rfl hoL hof 0 rfl uf_X6_11 rfl ?_
    refine g_iload_n (n := 18) hX dX6_findProgram_17 rfl rfl rfl ?_
    refine g_iconst (n := 19) (v := 1) hX dX6_findProgram_18 rfl rfl ?_
    refine g_isub (n := 20) (v := nI (j - 1)) hX dX6_findProgram_19 rfl (nI_sub1 hj1) ?_
    refine g_pald (n := 21) (r := g (j - 1)) 4 hX hY dX6_findProgram_20 rfl haL haf rfl (vp_in_nI (show j - 1 < 12 by omega) (by omega)) (congrArg g (nI_clamp (by omega))) ?_
    refine g_goto (n := 25) hX dX6_findProgram_21 (by decide) ?_
    exact g_aret hX hR dX6_findProgram_25 (Or.inl ⟨_, rfl⟩) (va_rf_or _) ⟨by rw [if_pos hin, ej], rfl⟩
  · refine g_iload_n (n := 1) hX dX6_findProgram_0 rfl rfl rfl ?_
    refine g_iconst (n := 2) (v := 1) hX dX6_findProgram_1 rfl rfl ?_
    refine g_icmp_lt (n := 5) (tgt := 24) hX dX6_findProgram_2 rfl (by decide) (fun c2 => ?_) (fun c2 => ?_)
    · refine g_null (n := 25) hX dX6_findProgram_24 rfl ?_
      exact g_aret hX hR dX6_findProgram_25 (Or.inl ⟨_, rfl⟩) (Or.inl rfl) ⟨by rw [if_neg hin]; rfl, rfl⟩
    · refine g_iload_n (n := 6) hX dX6_findProgram_5 rfl rfl rfl ?_
      refine g_aload_n (n := 7) hX dX6_findProgram_6 rfl rfl rfl ?_
      refine g_pget (n := 10) ux_X6 rfl hX hU dX6_findProgram_7 rfl hoL hof 2 rfl uf_X6_23 rfl ?_
      refine g_icmp_gt (n := 13) (tgt := 24) hX dX6_findProgram_10 rfl (by decide) (fun c10 => ?_) (fun c10 => absurd (Int32.not_le.mp (fun h9 => hin ⟨Int32.not_lt.mp c2, h9⟩)) c10)
      refine g_null (n := 25) hX dX6_findProgram_24 rfl ?_
      exact g_aret hX hR dX6_findProgram_25 (Or.inl ⟨_, rfl⟩) (Or.inl rfl) ⟨by rw [if_neg hin]; rfl, rfl⟩

set_option maxHeartbeats 4000000 in
set_option maxRecDepth 100000 in
theorem x_findClass (l : Launch) (D : va_G) (K : Nat → ClassId) (L : List Nat) (f : Nat → va_E) (i : Int32) (o ar cnt : Nat) (g : Nat → Option Nat) (pa : Nat) (v2 : Int32) (hoL : o ∈ L) (hof : f o = .inr (8, [.ref pa, .ref ar, .int v2, .int (nI cnt)])) (haL : ar ∈ L) (haf : f ar = .inl (K 3, 40, rE g)) (hcnt : cnt ≤ 40) : Mc l yX6_findClass (wM yX6_findClass cX6_findClass 2 (some (.object "ClassMaker4$MadeClass"))) (rmL 0 0 0) D (yY K) [.ref o, .int i] (va_pl L f) (fun v w => v = some (va_rf (if 1 ≤ i ∧ i ≤ nI cnt then g (i.toNatClampNeg - 1) else none)) ∧ w = va_pl L f) 0 0 := by
  refine m_start (lv := [(0, .ref o), (1, .int i)]) rfl (Nat.le_of_ble_eq_true rfl) rfl (fun Γ hX hRm hnL hY hDD hLa hR hI hE => ?_)
  have hU : ∀ w ∈ wU, w ∈ wM yX6_findClass cX6_findClass 2 (some (.object "ClassMaker4$MadeClass")) := fun w h => wM_in h
  subst hLa
  subst hDD
  by_cases hin : 1 ≤ i ∧ i ≤ nI cnt
  · obtain ⟨j, hj1, hj2, rfl⟩ := in_nI (f := 1) (by omega) hin (by decide)
    have ej : (nI j).toNatClampNeg = j := nI_clamp (by omega)
    refine g_iload_n (n := 1) hX dX6_findClass_0 rfl rfl rfl ?_
    refine g_iconst (n := 2) (v := 1) hX dX6_findClass_1 rfl rfl ?_
    refine g_icmp_lt (n := 5) (tgt := 24) hX dX6_findClass_2 rfl (by decide) (fun c2 => absurd c2 (Int32.not_lt.mpr hin.1)) (fun c2 => ?_)
    refine g_iload_n (n := 6) hX dX6_findClass_5 rfl rfl rfl ?_
    refine g_aload_n (n := 7) hX dX6_findClass_6 rfl rfl rfl ?_
    refine g_pget (n := 10) ux_X6 rfl hX hU dX6_findClass_7 rfl hoL hof 3 rfl uf_X6_30 rfl ?_
    refine g_icmp_gt (n := 13) (tgt := 24) hX dX6_findClass_10 rfl (by decide) (fun c10 => absurd c10 (Int32.not_lt.mpr hin.2)) (fun c10 => ?_)
    refine g_aload_n (n := 14) hX dX6_findClass_13 rfl rfl rfl ?_
    refine g_pget (n := 17) ux_X6 rfl hX hU dX6_findClass_14 rfl hoL hof 1 rfl uf_X6_19 rfl ?_
    refine g_iload_n (n := 18) hX dX6_findClass_17 rfl rfl rfl ?_
    refine g_iconst (n := 19) (v := 1) hX dX6_findClass_18 rfl rfl ?_
    refine g_isub (n := 20) (v := nI (j - 1)) hX dX6_findClass_19 rfl (nI_sub1 hj1) ?_
    refine g_pald (n := 21) (r := g (j - 1)) 3 hX hY dX6_findClass_20 rfl haL haf rfl (vp_in_nI (show j - 1 < 40 by omega) (by omega)) (congrArg g (nI_clamp (by omega))) ?_
    refine g_goto (n := 25) hX dX6_findClass_21 (by decide) ?_
    exact g_aret hX hR dX6_findClass_25 (Or.inl ⟨_, rfl⟩) (va_rf_or _) ⟨by rw [if_pos hin, ej], rfl⟩
  · refine g_iload_n (n := 1) hX dX6_findClass_0 rfl rfl rfl ?_
    refine g_iconst (n := 2) (v := 1) hX dX6_findClass_1 rfl rfl ?_
    refine g_icmp_lt (n := 5) (tgt := 24) hX dX6_findClass_2 rfl (by decide) (fun c2 => ?_) (fun c2 => ?_)
    · refine g_null (n := 25) hX dX6_findClass_24 rfl ?_
      exact g_aret hX hR dX6_findClass_25 (Or.inl ⟨_, rfl⟩) (Or.inl rfl) ⟨by rw [if_neg hin]; rfl, rfl⟩
    · refine g_iload_n (n := 6) hX dX6_findClass_5 rfl rfl rfl ?_
      refine g_aload_n (n := 7) hX dX6_findClass_6 rfl rfl rfl ?_
      refine g_pget (n := 10) ux_X6 rfl hX hU dX6_findClass_7 rfl hoL hof 3 rfl uf_X6_30 rfl ?_
      refine g_icmp_gt (n := 13) (tgt := 24) hX dX6_findClass_10 rfl (by decide) (fun c10 => ?_) (fun c10 => absurd (Int32.not_le.mp (fun h9 => hin ⟨Int32.not_lt.mp c2, h9⟩)) c10)
      refine g_null (n := 25) hX dX6_findClass_24 rfl ?_
      exact g_aret hX hR dX6_findClass_25 (Or.inl ⟨_, rfl⟩) (Or.inl rfl) ⟨by rw [if_neg hin]; rfl, rfl⟩

set_option maxHeartbeats 4000000 in
set_option maxRecDepth 100000 in
theorem x_findUnit (l : Launch) (D : va_G) (K : Nat → ClassId) (L : List Nat) (f : Nat → va_E) (i : Int32) (o ar cnt : Nat) (g : Nat → Option Nat) (a0 a1 a2 : Nat) (hoL : o ∈ L) (hof : f o = .inr (9, [.ref a0, .ref a1, .ref a2, .ref ar, .int (nI cnt)])) (haL : ar ∈ L) (haf : f ar = .inl (K 6, 8, rE g)) (hcnt : cnt ≤ 8) : Mc l yX7_findUnit (wM yX7_findUnit cX7_findUnit 2 (some (.object "ClassMaker4$RunUnit"))) (rmL 0 0 0) D (yY K) [.ref o, .int i] (va_pl L f) (fun v w => v = some (va_rf (if 1 ≤ i ∧ i ≤ nI cnt then g (i.toNatClampNeg - 1) else none)) ∧ w = va_pl L f) 0 0 := by
  refine m_start (lv := [(0, .ref o), (1, .int i)]) rfl (Nat.le_of_ble_eq_true rfl) rfl (fun Γ hX hRm hnL hY hDD hLa hR hI hE => ?_)
  have hU : ∀ w ∈ wU, w ∈ wM yX7_findUnit cX7_findUnit 2 (some (.object "ClassMaker4$RunUnit")) := fun w h => wM_in h
  subst hLa
  subst hDD
  by_cases hin : 1 ≤ i ∧ i ≤ nI cnt
  · obtain ⟨j, hj1, hj2, rfl⟩ := in_nI (f := 1) (by omega) hin (by decide)
    have ej : (nI j).toNatClampNeg = j := nI_clamp (by omega)
    refine g_iload_n (n := 1) hX dX7_findUnit_0 rfl rfl rfl ?_
    refine g_iconst (n := 2) (v := 1) hX dX7_findUnit_1 rfl rfl ?_
    refine g_icmp_lt (n := 5) (tgt := 24) hX dX7_findUnit_2 rfl (by decide) (fun c2 => absurd c2 (Int32.not_lt.mpr hin.1)) (fun c2 => ?_)
    refine g_iload_n (n := 6) hX dX7_findUnit_5 rfl rfl rfl ?_
    refine g_aload_n (n := 7) hX dX7_findUnit_6 rfl rfl rfl ?_
    refine g_pget (n := 10) ux_X7 rfl hX hU dX7_findUnit_7 rfl hoL hof 4 rfl uf_X7_56 rfl ?_
    refine g_icmp_gt (n := 13) (tgt := 24) hX dX7_findUnit_10 rfl (by decide) (fun c10 => absurd c10 (Int32.not_lt.mpr hin.2)) (fun c10 => ?_)
    refine g_aload_n (n := 14) hX dX7_findUnit_13 rfl rfl rfl ?_
    refine g_pget (n := 17) ux_X7 rfl hX hU dX7_findUnit_14 rfl hoL hof 3 rfl uf_X7_34 rfl ?_
    refine g_iload_n (n := 18) hX dX7_findUnit_17 rfl rfl rfl ?_
    refine g_iconst (n := 19) (v := 1) hX dX7_findUnit_18 rfl rfl ?_
    refine g_isub (n := 20) (v := nI (j - 1)) hX dX7_findUnit_19 rfl (nI_sub1 hj1) ?_
    refine g_pald (n := 21) (r := g (j - 1)) 6 hX hY dX7_findUnit_20 rfl haL haf rfl (vp_in_nI (show j - 1 < 8 by omega) (by omega)) (congrArg g (nI_clamp (by omega))) ?_
    refine g_goto (n := 25) hX dX7_findUnit_21 (by decide) ?_
    exact g_aret hX hR dX7_findUnit_25 (Or.inl ⟨_, rfl⟩) (va_rf_or _) ⟨by rw [if_pos hin, ej], rfl⟩
  · refine g_iload_n (n := 1) hX dX7_findUnit_0 rfl rfl rfl ?_
    refine g_iconst (n := 2) (v := 1) hX dX7_findUnit_1 rfl rfl ?_
    refine g_icmp_lt (n := 5) (tgt := 24) hX dX7_findUnit_2 rfl (by decide) (fun c2 => ?_) (fun c2 => ?_)
    · refine g_null (n := 25) hX dX7_findUnit_24 rfl ?_
      exact g_aret hX hR dX7_findUnit_25 (Or.inl ⟨_, rfl⟩) (Or.inl rfl) ⟨by rw [if_neg hin]; rfl, rfl⟩
    · refine g_iload_n (n := 6) hX dX7_findUnit_5 rfl rfl rfl ?_
      refine g_aload_n (n := 7) hX dX7_findUnit_6 rfl rfl rfl ?_
      refine g_pget (n := 10) ux_X7 rfl hX hU dX7_findUnit_7 rfl hoL hof 4 rfl uf_X7_56 rfl ?_
      refine g_icmp_gt (n := 13) (tgt := 24) hX dX7_findUnit_10 rfl (by decide) (fun c10 => ?_) (fun c10 => absurd (Int32.not_le.mp (fun h9 => hin ⟨Int32.not_lt.mp c2, h9⟩)) c10)
      refine g_null (n := 25) hX dX7_findUnit_24 rfl ?_
      exact g_aret hX hR dX7_findUnit_25 (Or.inl ⟨_, rfl⟩) (Or.inl rfl) ⟨by rw [if_neg hin]; rfl, rfl⟩

set_option maxHeartbeats 4000000 in
set_option maxRecDepth 100000 in
theorem x_isByteNumber (l : Launch) (D : va_G) (K : Nat → ClassId) (L : List Nat) (f : Nat → va_E) (i : Int32) (o ra : Nat) (v0 z v2 v4 : Int32) (hoL : o ∈ L) (hof : f o = .inr (5, [.int v0, .int z, .int v2, .ref ra, .int v4])) : Mc l yX3_isByteNumber (wM yX3_isByteNumber cX3_isByteNumber 2 (some .boolean)) (rmL 0 0 0) D (yY K) [.ref o, .int i] (va_pl L f) (fun v w => v = some (.int (bI (0 ≤ i ∧ i < z))) ∧ w = va_pl L f) 0 0 := by
  refine m_start (lv := [(0, .ref o), (1, .int i)]) rfl (Nat.le_of_ble_eq_true rfl) rfl (fun Γ hX hRm hnL hY hDD hLa hR hI hE => ?_)
  have hU : ∀ w ∈ wU, w ∈ wM yX3_isByteNumber cX3_isByteNumber 2 (some .boolean) := fun w h => wM_in h
  subst hLa
  subst hDD
  refine g_iload_n (n := 1) hX dX3_isByteNumber_0 rfl rfl rfl ?_
  refine g_if_lt (n := 4) (tgt := 16) hX dX3_isByteNumber_1 rfl (by decide) (fun c1 => ?_) (fun c1 => ?_)
  · refine g_iconst (n := 17) (v := 0) hX dX3_isByteNumber_16 rfl rfl ?_
    exact g_zret hX hR dX3_isByteNumber_17 rfl ⟨by rw [bI_f (fun h9 => Int32.not_lt.mpr h9.1 c1)], rfl⟩
  · refine g_iload_n (n := 5) hX dX3_isByteNumber_4 rfl rfl rfl ?_
    refine g_aload_n (n := 6) hX dX3_isByteNumber_5 rfl rfl rfl ?_
    refine g_pget (n := 9) ux_X3 rfl hX hU dX3_isByteNumber_6 rfl hoL hof 1 rfl uf_X3_15 rfl ?_
    refine g_icmp_ge (n := 12) (tgt := 16) hX dX3_isByteNumber_9 rfl (by decide) (fun c9 => ?_) (fun c9 => ?_)
    · refine g_iconst (n := 17) (v := 0) hX dX3_isByteNumber_16 rfl rfl ?_
      exact g_zret hX hR dX3_isByteNumber_17 rfl ⟨by rw [bI_f (fun h9 => Int32.not_le.mpr h9.2 c9)], rfl⟩
    · refine g_iconst (n := 13) (v := 1) hX dX3_isByteNumber_12 rfl rfl ?_
      refine g_goto (n := 17) hX dX3_isByteNumber_13 (by decide) ?_
      exact g_zret hX hR dX3_isByteNumber_17 rfl ⟨by rw [bI_t ⟨Int32.not_lt.mp c1, Int32.not_le.mp c9⟩], rfl⟩

set_option maxHeartbeats 4000000 in
set_option maxRecDepth 100000 in
theorem x_isTarget (l : Launch) (D : va_G) (K : Nat → ClassId) (L : List Nat) (f : Nat → va_E) (i : Int32) (o : Nat)  : Mc l yX3_isTarget (wM yX3_isTarget cX3_isTarget 2 (some .boolean)) (rmL 0 0 0) D (yY K) [.ref o, .int i] (va_pl L f) (fun v w => v = some (.int (bI (1 ≤ i ∧ i ≤ 61))) ∧ w = va_pl L f) 0 0 := by
  refine m_start (lv := [(0, .ref o), (1, .int i)]) rfl (Nat.le_of_ble_eq_true rfl) rfl (fun Γ hX hRm hnL hY hDD hLa hR hI hE => ?_)
  have hU : ∀ w ∈ wU, w ∈ wM yX3_isTarget cX3_isTarget 2 (some .boolean) := fun w h => wM_in h
  subst hLa
  subst hDD
  refine g_iload_n (n := 1) hX dX3_isTarget_0 rfl rfl rfl ?_
  refine g_iconst (n := 2) (v := 1) hX dX3_isTarget_1 rfl rfl ?_
  refine g_icmp_lt (n := 5) (tgt := 15) hX dX3_isTarget_2 rfl (by decide) (fun c2 => ?_) (fun c2 => ?_)
  · refine g_iconst (n := 16) (v := 0) hX dX3_isTarget_15 rfl rfl ?_
    exact g_zret hX hR dX3_isTarget_16 rfl ⟨by rw [bI_f (fun h9 => Int32.not_lt.mpr h9.1 c2)], rfl⟩
  · refine g_iload_n (n := 6) hX dX3_isTarget_5 rfl rfl rfl ?_
    refine g_bipush (n := 8) (v := 61) hX dX3_isTarget_6 rfl rfl ?_
    refine g_icmp_gt (n := 11) (tgt := 15) hX dX3_isTarget_8 rfl (by decide) (fun c8 => ?_) (fun c8 => ?_)
    · refine g_iconst (n := 16) (v := 0) hX dX3_isTarget_15 rfl rfl ?_
      exact g_zret hX hR dX3_isTarget_16 rfl ⟨by rw [bI_f (fun h9 => Int32.not_lt.mpr h9.2 c8)], rfl⟩
    · refine g_iconst (n := 12) (v := 1) hX dX3_isTarget_11 rfl rfl ?_
      refine g_goto (n := 16) hX dX3_isTarget_12 (by decide) ?_
      exact g_zret hX hR dX3_isTarget_16 rfl ⟨by rw [bI_t ⟨Int32.not_lt.mp c2, Int32.not_lt.mp c8⟩], rfl⟩

theorem up_up {α : Type} (f : Nat → α) (a : Nat) (x y : α) : va_up (va_up f a x) a y = va_up f a y := bx_uu f a x y
set_option maxHeartbeats 4000000 in
set_option maxRecDepth 100000 in
theorem x_beginRun (l : Launch) (D : va_G) (K : Nat → ClassId) (L : List Nat) (f : Nat → va_E) (o : Nat) (la ma : Nat) (e2 e3 e4 e5 e6 e7 e8 : Int32) (hoL : o ∈ L) (hof : f o = .inr (7, [.ref la, .ref ma, .int e2, .int e3, .int e4, .int e5, .int e6, .int e7, .int e8])) : Mc l yX5_beginRun (wM yX5_beginRun cX5_beginRun 1 none) (rmL 0 0 0) D (yY K) [.ref o] (va_pl L f) (fun v w => v = none ∧ ∃ f1 : Nat → va_E, w = va_pl L f1 ∧ f1 = va_up f o (.inr (7, [.ref la, .ref ma, .int e2, .int 1, .int 0, .int (-1), .int (-1), .int 0, .int 0]))) 0 0 := by
  refine m_start (lv := [(0, .ref o)]) rfl (Nat.le_of_ble_eq_true rfl) rfl (fun Γ hX hRm hnL hY hDD hLa hR hI hE => ?_)
  have hU : ∀ w ∈ wU, w ∈ wM yX5_beginRun cX5_beginRun 1 none := fun w h => wM_in h
  subst hLa
  subst hDD
  refine g_aload_n (n := 1) hX dX5_beginRun_0 rfl rfl rfl ?_
  refine g_iconst (n := 2) (v := 1) hX dX5_beginRun_1 rfl rfl ?_
  refine g_pput (n := 5) (fs' := [.ref la, .ref ma, .int e2, .int 1, .int e4, .int e5, .int e6, .int e7, .int e8]) tyX5 tyX5_ok nmX5 ux_X5 rfl hX hU dX5_beginRun_2 rfl hoL hof 3 rfl uf_X5_27 rfl rfl rfl rfl rfl (fun f1 ef1 => ?_)
  have ho_2 : f1 o = .inr (7, [.ref la, .ref ma, .int e2, .int 1, .int e4, .int e5, .int e6, .int e7, .int e8]) := by rw [ef1]; exact va_up_self _ _ _
  refine g_aload_n (n := 6) hX dX5_beginRun_5 rfl rfl rfl ?_
  refine g_iconst (n := 7) (v := 0) hX dX5_beginRun_6 rfl rfl ?_
  refine g_pput (n := 10) (fs' := [.ref la, .ref ma, .int e2, .int 1, .int 0, .int e5, .int e6, .int e7, .int e8]) tyX5 tyX5_ok nmX5 ux_X5 rfl hX hU dX5_beginRun_7 rfl hoL ho_2 4 rfl uf_X5_31 rfl rfl rfl rfl rfl (fun f3 ef3 => ?_)
  have ho_4 : f3 o = .inr (7, [.ref la, .ref ma, .int e2, .int 1, .int 0, .int e5, .int e6, .int e7, .int e8]) := by rw [ef3]; exact va_up_self _ _ _
  refine g_aload_n (n := 11) hX dX5_beginRun_10 rfl rfl rfl ?_
  refine g_iconst (n := 12) (v := (-1)) hX dX5_beginRun_11 rfl rfl ?_
  refine g_pput (n := 15) (fs' := [.ref la, .ref ma, .int e2, .int 1, .int 0, .int (-1), .int e6, .int e7, .int e8]) tyX5 tyX5_ok nmX5 ux_X5 rfl hX hU dX5_beginRun_12 rfl hoL ho_4 5 rfl uf_X5_34 rfl rfl rfl rfl rfl (fun f5 ef5 => ?_)
  have ho_6 : f5 o = .inr (7, [.ref la, .ref ma, .int e2, .int 1, .int 0, .int (-1), .int e6, .int e7, .int e8]) := by rw [ef5]; exact va_up_self _ _ _
  refine g_aload_n (n := 16) hX dX5_beginRun_15 rfl rfl rfl ?_
  refine g_iconst (n := 17) (v := (-1)) hX dX5_beginRun_16 rfl rfl ?_
  refine g_pput (n := 20) (fs' := [.ref la, .ref ma, .int e2, .int 1, .int 0, .int (-1), .int (-1), .int e7, .int e8]) tyX5 tyX5_ok nmX5 ux_X5 rfl hX hU dX5_beginRun_17 rfl hoL ho_6 6 rfl uf_X5_37 rfl rfl rfl rfl rfl (fun f7 ef7 => ?_)
  have ho_8 : f7 o = .inr (7, [.ref la, .ref ma, .int e2, .int 1, .int 0, .int (-1), .int (-1), .int e7, .int e8]) := by rw [ef7]; exact va_up_self _ _ _
  refine g_aload_n (n := 21) hX dX5_beginRun_20 rfl rfl rfl ?_
  refine g_iconst (n := 22) (v := 0) hX dX5_beginRun_21 rfl rfl ?_
  refine g_pput (n := 25) (fs' := [.ref la, .ref ma, .int e2, .int 1, .int 0, .int (-1), .int (-1), .int 0, .int e8]) tyX5 tyX5_ok nmX5 ux_X5 rfl hX hU dX5_beginRun_22 rfl hoL ho_8 7 rfl uf_X5_40 rfl rfl rfl rfl rfl (fun f9 ef9 => ?_)
  have ho_10 : f9 o = .inr (7, [.ref la, .ref ma, .int e2, .int 1, .int 0, .int (-1), .int (-1), .int 0, .int e8]) := by rw [ef9]; exact va_up_self _ _ _
  refine g_aload_n (n := 26) hX dX5_beginRun_25 rfl rfl rfl ?_
  refine g_iconst (n := 27) (v := 0) hX dX5_beginRun_26 rfl rfl ?_
  refine g_pput (n := 30) (fs' := [.ref la, .ref ma, .int e2, .int 1, .int 0, .int (-1), .int (-1), .int 0, .int 0]) tyX5 tyX5_ok nmX5 ux_X5 rfl hX hU dX5_beginRun_27 rfl hoL ho_10 8 rfl uf_X5_43 rfl rfl rfl rfl rfl (fun f11 ef11 => ?_)
  have ho_12 : f11 o = .inr (7, [.ref la, .ref ma, .int e2, .int 1, .int 0, .int (-1), .int (-1), .int 0, .int 0]) := by rw [ef11]; exact va_up_self _ _ _
  exact g_vret hX hR dX5_beginRun_30 ⟨rfl, _, rfl, by simp only [ef1, ef11, ef3, ef5, ef7, ef9, up_up]⟩

set_option maxHeartbeats 4000000 in
set_option maxRecDepth 100000 in
theorem x_takeStep (l : Launch) (D : va_G) (K : Nat → ClassId) (L : List Nat) (f : Nat → va_E) (o : Nat) (la ma : Nat) (e2 e3 e4 e5 e6 e7 e8 : Int32) (hoL : o ∈ L) (hof : f o = .inr (7, [.ref la, .ref ma, .int e2, .int e3, .int e4, .int e5, .int e6, .int e7, .int e8])) : Mc l yX5_takeStep (wM yX5_takeStep cX5_takeStep 1 (some .boolean)) (rmL 0 0 0) D (yY K) [.ref o] (va_pl L f) (fun v w => v = some (.int (bI (e7 < 1000))) ∧ ∃ f1 : Nat → va_E, w = va_pl L f1 ∧ f1 = if e7 < 1000 then va_up f o (.inr (7, [.ref la, .ref ma, .int e2, .int e3, .int e4, .int e5, .int e6, .int (e7 + 1), .int e8])) else f) 0 0 := by
  refine m_start (lv := [(0, .ref o)]) rfl (Nat.le_of_ble_eq_true rfl) rfl (fun Γ hX hRm hnL hY hDD hLa hR hI hE => ?_)
  have hU : ∀ w ∈ wU, w ∈ wM yX5_takeStep cX5_takeStep 1 (some .boolean) := fun w h => wM_in h
  subst hLa
  subst hDD
  by_cases hs : e7 < 1000
  · refine g_aload_n (n := 1) hX dX5_takeStep_0 rfl rfl rfl ?_
    refine g_pget (n := 4) ux_X5 rfl hX hU dX5_takeStep_1 rfl hoL hof 7 rfl uf_X5_40 rfl ?_
    refine g_sipush (n := 7) (v := 1000) hX dX5_takeStep_4 rfl rfl ?_
    refine g_icmp_lt (n := 10) (tgt := 12) hX dX5_takeStep_7 rfl (by decide) (fun c7 => ?_) (fun c7 => absurd hs c7)
    refine g_aload_n (n := 13) hX dX5_takeStep_12 rfl rfl rfl ?_
    refine g_dup (n := 14) hX dX5_takeStep_13 rfl rfl ?_
    refine g_pget (n := 17) ux_X5 rfl hX hU dX5_takeStep_14 rfl hoL hof 7 rfl uf_X5_40 rfl ?_
    refine g_iconst (n := 18) (v := 1) hX dX5_takeStep_17 rfl rfl ?_
    refine g_iadd (n := 19) (v := e7 + 1) hX dX5_takeStep_18 rfl rfl ?_
    refine g_pput (n := 22) (fs' := [.ref la, .ref ma, .int e2, .int e3, .int e4, .int e5, .int e6, .int (e7 + 1), .int e8]) tyX5 tyX5_ok nmX5 ux_X5 rfl hX hU dX5_takeStep_19 rfl hoL hof 7 rfl uf_X5_40 rfl rfl rfl rfl rfl (fun f13 ef13 => ?_)
    have ho_14 : f13 o = .inr (7, [.ref la, .ref ma, .int e2, .int e3, .int e4, .int e5, .int e6, .int (e7 + 1), .int e8]) := by rw [ef13]; exact va_up_self _ _ _
    refine g_iconst (n := 23) (v := 1) hX dX5_takeStep_22 rfl rfl ?_
    exact g_zret hX hR dX5_takeStep_23 rfl ⟨by rw [bI_t hs], _, rfl, by rw [if_pos hs]; simp only [ef13]⟩
  · refine g_aload_n (n := 1) hX dX5_takeStep_0 rfl rfl rfl ?_
    refine g_pget (n := 4) ux_X5 rfl hX hU dX5_takeStep_1 rfl hoL hof 7 rfl uf_X5_40 rfl ?_
    refine g_sipush (n := 7) (v := 1000) hX dX5_takeStep_4 rfl rfl ?_
    refine g_icmp_lt (n := 10) (tgt := 12) hX dX5_takeStep_7 rfl (by decide) (fun c7 => absurd c7 hs) (fun c7 => ?_)
    refine g_iconst (n := 11) (v := 0) hX dX5_takeStep_10 rfl rfl ?_
    exact g_zret hX hR dX5_takeStep_11 rfl ⟨by rw [bI_f hs], _, rfl, by rw [if_neg hs]⟩

set_option maxHeartbeats 4000000 in
set_option maxRecDepth 100000 in
theorem x_abend (l : Launch) (D : va_G) (K : Nat → ClassId) (L : List Nat) (f : Nat → va_E) (x : Int32) (o pr ra : Nat) (la ma : Nat) (e2 e3 e4 e5 e6 e7 e8 : Int32) (n0 v1 v2 v4 : Int32) (hoL : o ∈ L) (hof : f o = .inr (7, [.ref la, .ref ma, .int e2, .int e3, .int e4, .int e5, .int e6, .int e7, .int e8])) (hpL : pr ∈ L) (hpf : f pr = .inr (5, [.int n0, .int v1, .int v2, .ref ra, .int v4])) : Mc l yX5_abend (wM yX5_abend cX5_abend 3 none) (rmL 0 0 0) D (yY K) [.ref o, .int x, .ref pr] (va_pl L f) (fun v w => v = none ∧ ∃ f1 : Nat → va_E, w = va_pl L f1 ∧ f1 = va_up f o (if x = 5 then .inr (7, [.ref la, .ref ma, .int 1, .int e3, .int x, .int n0, .int e6, .int e7, .int e8]) else .inr (7, [.ref la, .ref ma, .int e2, .int e3, .int x, .int n0, .int e6, .int e7, .int e8]))) 0 0 := by
  refine m_start (lv := [(0, .ref o), (1, .int x), (2, .ref pr)]) rfl (Nat.le_of_ble_eq_true rfl) rfl (fun Γ hX hRm hnL hY hDD hLa hR hI hE => ?_)
  have hU : ∀ w ∈ wU, w ∈ wM yX5_abend cX5_abend 3 none := fun w h => wM_in h
  subst hLa
  subst hDD
  by_cases h5 : x = 5
  · refine g_aload_n (n := 1) hX dX5_abend_0 rfl rfl rfl ?_
    refine g_iload_n (n := 2) hX dX5_abend_1 rfl rfl rfl ?_
    refine g_pput (n := 5) (fs' := [.ref la, .ref ma, .int e2, .int e3, .int x, .int e5, .int e6, .int e7, .int e8]) tyX5 tyX5_ok nmX5 ux_X5 rfl hX hU dX5_abend_2 rfl hoL hof 4 rfl uf_X5_31 rfl rfl rfl rfl rfl (fun f15 ef15 => ?_)
    have ho_16 : f15 o = .inr (7, [.ref la, .ref ma, .int e2, .int e3, .int x, .int e5, .int e6, .int e7, .int e8]) := by rw [ef15]; exact va_up_self _ _ _
    have hpr_17 : f15 pr = .inr (5, [.int n0, .int v1, .int v2, .ref ra, .int v4]) := by rw [ef15, va_up_ne _ _ (ne_oo hpf hof rfl)]; exact hpf
    refine g_aload_n (n := 6) hX dX5_abend_5 rfl rfl rfl ?_
    refine g_aload_n (n := 7) hX dX5_abend_6 rfl rfl rfl ?_
    refine g_pget (n := 10) ux_X3 rfl hX hU dX5_abend_7 rfl hpL hpr_17 0 rfl uf_X5_21 rfl ?_
    refine g_pput (n := 13) (fs' := [.ref la, .ref ma, .int e2, .int e3, .int x, .int n0, .int e6, .int e7, .int e8]) tyX5 tyX5_ok nmX5 ux_X5 rfl hX hU dX5_abend_10 rfl hoL ho_16 5 rfl uf_X5_34 rfl rfl rfl rfl rfl (fun f18 ef18 => ?_)
    have ho_19 : f18 o = .inr (7, [.ref la, .ref ma, .int e2, .int e3, .int x, .int n0, .int e6, .int e7, .int e8]) := by rw [ef18]; exact va_up_self _ _ _
    have hpr_20 : f18 pr = .inr (5, [.int n0, .int v1, .int v2, .ref ra, .int v4]) := by rw [ef18, va_up_ne _ _ (ne_oo hpr_17 ho_16 rfl)]; exact hpr_17
    refine g_iload_n (n := 14) hX dX5_abend_13 rfl rfl rfl ?_
    refine g_iconst (n := 15) (v := 5) hX dX5_abend_14 rfl rfl ?_
    refine g_icmp_ne (n := 18) (tgt := 23) hX dX5_abend_15 rfl (by decide) (fun c15 => absurd h5 c15) (fun c15 => ?_)
    refine g_aload_n (n := 19) hX dX5_abend_18 rfl rfl rfl ?_
    refine g_iconst (n := 20) (v := 1) hX dX5_abend_19 rfl rfl ?_
    refine g_pput (n := 23) (fs' := [.ref la, .ref ma, .int 1, .int e3, .int x, .int n0, .int e6, .int e7, .int e8]) tyX5 tyX5_ok nmX5 ux_X5 rfl hX hU dX5_abend_20 rfl hoL ho_19 2 rfl uf_X5_46 rfl rfl rfl rfl rfl (fun f21 ef21 => ?_)
    have ho_22 : f21 o = .inr (7, [.ref la, .ref ma, .int 1, .int e3, .int x, .int n0, .int e6, .int e7, .int e8]) := by rw [ef21]; exact va_up_self _ _ _
    have hpr_23 : f21 pr = .inr (5, [.int n0, .int v1, .int v2, .ref ra, .int v4]) := by rw [ef21, va_up_ne _ _ (ne_oo hpr_20 ho_19 rfl)]; exact hpr_20
    exact g_vret hX hR dX5_abend_23 ⟨rfl, _, rfl, by rw [if_pos h5]; simp only [ef15, ef18, ef21, up_up]⟩
  · refine g_aload_n (n := 1) hX dX5_abend_0 rfl rfl rfl ?_
    refine g_iload_n (n := 2) hX dX5_abend_1 rfl rfl rfl ?_
    refine g_pput (n := 5) (fs' := [.ref la, .ref ma, .int e2, .int e3, .int x, .int e5, .int e6, .int e7, .int e8]) tyX5 tyX5_ok nmX5 ux_X5 rfl hX hU dX5_abend_2 rfl hoL hof 4 rfl uf_X5_31 rfl rfl rfl rfl rfl (fun f24 ef24 => ?_)
    have ho_25 : f24 o = .inr (7, [.ref la, .ref ma, .int e2, .int e3, .int x, .int e5, .int e6, .int e7, .int e8]) := by rw [ef24]; exact va_up_self _ _ _
    have hpr_26 : f24 pr = .inr (5, [.int n0, .int v1, .int v2, .ref ra, .int v4]) := by rw [ef24, va_up_ne _ _ (ne_oo hpf hof rfl)]; exact hpf
    refine g_aload_n (n := 6) hX dX5_abend_5 rfl rfl rfl ?_
    refine g_aload_n (n := 7) hX dX5_abend_6 rfl rfl rfl ?_
    refine g_pget (n := 10) ux_X3 rfl hX hU dX5_abend_7 rfl hpL hpr_26 0 rfl uf_X5_21 rfl ?_
    refine g_pput (n := 13) (fs' := [.ref la, .ref ma, .int e2, .int e3, .int x, .int n0, .int e6, .int e7, .int e8]) tyX5 tyX5_ok nmX5 ux_X5 rfl hX hU dX5_abend_10 rfl hoL ho_25 5 rfl uf_X5_34 rfl rfl rfl rfl rfl (fun f27 ef27 => ?_)
    have ho_28 : f27 o = .inr (7, [.ref la, .ref ma, .int e2, .int e3, .int x, .int n0, .int e6, .int e7, .int e8]) := by rw [ef27]; exact va_up_self _ _ _
    have hpr_29 : f27 pr = .inr (5, [.int n0, .int v1, .int v2, .ref ra, .int v4]) := by rw [ef27, va_up_ne _ _ (ne_oo hpr_26 ho_25 rfl)]; exact hpr_26
    refine g_iload_n (n := 14) hX dX5_abend_13 rfl rfl rfl ?_
    refine g_iconst (n := 15) (v := 5) hX dX5_abend_14 rfl rfl ?_
    refine g_icmp_ne (n := 18) (tgt := 23) hX dX5_abend_15 rfl (by decide) (fun c15 => ?_) (fun c15 => absurd c15 h5)
    exact g_vret hX hR dX5_abend_23 ⟨rfl, _, rfl, by rw [if_neg h5]; simp only [ef24, ef27, up_up]⟩

set_option maxHeartbeats 4000000 in
set_option maxRecDepth 100000 in
theorem x_stop (l : Launch) (D : va_G) (K : Nat → ClassId) (L : List Nat) (f : Nat → va_E) (x : Int32) (o pr ra : Nat) (la ma : Nat) (e2 e3 e4 e5 e6 e7 e8 : Int32) (n0 v1 v2 v4 : Int32) (hoL : o ∈ L) (hof : f o = .inr (7, [.ref la, .ref ma, .int e2, .int e3, .int e4, .int e5, .int e6, .int e7, .int e8])) (hpL : pr ∈ L) (hpf : f pr = .inr (5, [.int n0, .int v1, .int v2, .ref ra, .int v4])) : Mc l yX5_stop (wM yX5_stop cX5_stop 3 none) (rmL 0 0 0) D (yY K) [.ref o, .int x, .ref pr] (va_pl L f) (fun v w => v = none ∧ ∃ f1 : Nat → va_E, w = va_pl L f1 ∧ f1 = va_up f o (.inr (7, [.ref la, .ref ma, .int 1, .int e3, .int e4, .int n0, .int x, .int e7, .int e8]))) 0 0 := by
  refine m_start (lv := [(0, .ref o), (1, .int x), (2, .ref pr)]) rfl (Nat.le_of_ble_eq_true rfl) rfl (fun Γ hX hRm hnL hY hDD hLa hR hI hE => ?_)
  have hU : ∀ w ∈ wU, w ∈ wM yX5_stop cX5_stop 3 none := fun w h => wM_in h
  subst hLa
  subst hDD
  refine g_aload_n (n := 1) hX dX5_stop_0 rfl rfl rfl ?_
  refine g_iload_n (n := 2) hX dX5_stop_1 rfl rfl rfl ?_
  refine g_pput (n := 5) (fs' := [.ref la, .ref ma, .int e2, .int e3, .int e4, .int e5, .int x, .int e7, .int e8]) tyX5 tyX5_ok nmX5 ux_X5 rfl hX hU dX5_stop_2 rfl hoL hof 6 rfl uf_X5_37 rfl rfl rfl rfl rfl (fun f30 ef30 => ?_)
  have ho_31 : f30 o = .inr (7, [.ref la, .ref ma, .int e2, .int e3, .int e4, .int e5, .int x, .int e7, .int e8]) := by rw [ef30]; exact va_up_self _ _ _
  have hpr_32 : f30 pr = .inr (5, [.int n0, .int v1, .int v2, .ref ra, .int v4]) := by rw [ef30, va_up_ne _ _ (ne_oo hpf hof rfl)]; exact hpf
  refine g_aload_n (n := 6) hX dX5_stop_5 rfl rfl rfl ?_
  refine g_aload_n (n := 7) hX dX5_stop_6 rfl rfl rfl ?_
  refine g_pget (n := 10) ux_X3 rfl hX hU dX5_stop_7 rfl hpL hpr_32 0 rfl uf_X5_21 rfl ?_
  refine g_pput (n := 13) (fs' := [.ref la, .ref ma, .int e2, .int e3, .int e4, .int n0, .int x, .int e7, .int e8]) tyX5 tyX5_ok nmX5 ux_X5 rfl hX hU dX5_stop_10 rfl hoL ho_31 5 rfl uf_X5_34 rfl rfl rfl rfl rfl (fun f33 ef33 => ?_)
  have ho_34 : f33 o = .inr (7, [.ref la, .ref ma, .int e2, .int e3, .int e4, .int n0, .int x, .int e7, .int e8]) := by rw [ef33]; exact va_up_self _ _ _
  have hpr_35 : f33 pr = .inr (5, [.int n0, .int v1, .int v2, .ref ra, .int v4]) := by rw [ef33, va_up_ne _ _ (ne_oo hpr_32 ho_31 rfl)]; exact hpr_32
  refine g_aload_n (n := 14) hX dX5_stop_13 rfl rfl rfl ?_
  refine g_iconst (n := 15) (v := 1) hX dX5_stop_14 rfl rfl ?_
  refine g_pput (n := 18) (fs' := [.ref la, .ref ma, .int 1, .int e3, .int e4, .int n0, .int x, .int e7, .int e8]) tyX5 tyX5_ok nmX5 ux_X5 rfl hX hU dX5_stop_15 rfl hoL ho_34 2 rfl uf_X5_46 rfl rfl rfl rfl rfl (fun f36 ef36 => ?_)
  have ho_37 : f36 o = .inr (7, [.ref la, .ref ma, .int 1, .int e3, .int e4, .int n0, .int x, .int e7, .int e8]) := by rw [ef36]; exact va_up_self _ _ _
  have hpr_38 : f36 pr = .inr (5, [.int n0, .int v1, .int v2, .ref ra, .int v4]) := by rw [ef36, va_up_ne _ _ (ne_oo hpr_35 ho_34 rfl)]; exact hpr_35
  exact g_vret hX hR dX5_stop_18 ⟨rfl, _, rfl, by simp only [ef30, ef33, ef36, up_up]⟩

