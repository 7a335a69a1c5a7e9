theorem up_mid {α : Type} {f : Nat → α} {o q : Nat} {x y z : α} (h : o ≠ q) : va_up (va_up (va_up f o x) q y) o z = va_up (va_up f q y) o z := by
  funext b
  by_cases hb : b = o
  · rw [hb, va_up_self, va_up_self]
  · rw [va_up_ne _ _ hb, va_up_ne _ _ hb]
    by_cases hq : b = q
    · rw [hq, va_up_self, va_up_self]
    · rw [va_up_ne _ _ hq, va_up_ne _ _ hq, va_up_ne _ _ hb]
set_option maxHeartbeats 4000000 in
set_option maxRecDepth 100000 in
theorem x_UnitInit (l : Launch) (D : va_G) (K : Nat → ClassId) (L : List Nat) (f : Nat → va_E) (o : Nat) (hoL : o ∈ L) (hof : f o = .inr (7, [.null, .null, .int 0, .int 0, .int 0, .int 0, .int 0, .int 0, .int 0])) : Mc l yX5_init (wM yX5_init cX5_init 1 none) (rmL 1 2 112) D (yY K) [.ref o] (va_pl L f) (fun v w => v = none ∧ ∃ (q1 q2 : Nat), q1 ∉ L ∧ q2 ∉ L ++ [q1] ∧ ∃ f1 : Nat → va_E, w = va_pl (L ++ [q1] ++ [q2]) f1 ∧ f1 = va_up (va_up (va_up f q1 (.inl (K 3, 12, rE (fun _ => none)))) q2 (.inl (K 0, 100, .inl (fun _ => 0)))) o (.inr (7, [.ref q1, .ref q2, .int 0, .int 0, .int 0, .int 0, .int 0, .int 0, .int 0]))) 2 112 := by
  refine m_start (lv := [(0, .ref o)]) rfl (Nat.le_of_ble_eq_true rfl) rfl (fun Γ hX hRm hnL hY hDD hLa hR hI hE => ?_)
  have hU : ∀ w ∈ wU, w ∈ wM yX5_init cX5_init 1 none := fun w h => wM_in h
  subst hLa
  subst hDD
  refine g_aload_n (n := 1) hX dX5_init_0 rfl rfl rfl ?_
  refine g_objInit (n := 4) hX dX5_init_1 rfl (hU _ um_X5_3) (hU _ ui_obj) (hU _ uc_obj) (by rw [hRm]; decide) (by decide) (by rw [hRm]; decide) ?_
  refine g_aload_n (n := 5) hX dX5_init_4 rfl rfl rfl ?_
  refine g_bipush (n := 7) (v := 12) hX dX5_init_5 rfl rfl ?_
  refine g_pnewq (n := 10) (N := 12) 3 (fun h9 => h9.2.1) rfl hX hE hU hY dX5_init_7 rfl ul_X5_9 (by decide) rfl (by decide) (by rw [hRm]; exact Nat.le_of_ble_eq_true rfl) (by rw [hRm]; exact Nat.le_of_ble_eq_true rfl) (fun q1 f1 hq1 ef1 => ?_)
  have ho_2 : f1 o = .inr (7, [.null, .null, .int 0, .int 0, .int 0, .int 0, .int 0, .int 0, .int 0]) := by rw [ef1, va_up_ne _ _ (ne_new hoL hq1)]; exact hof
  have hq1_3 : f1 q1 = .inl (K 3, 12, rE (fun _ => none)) := by rw [ef1]; exact va_up_self _ _ _
  refine g_pputF (n := 13) (fs' := [.ref q1, .null, .int 0, .int 0, .int 0, .int 0, .int 0, .int 0, .int 0]) tyX5 tyX5_ok nmX5 ux_X5 rfl hX hU (hI rfl) dX5_init_10 rfl (in_app hoL) ho_2 0 rfl uf_X5_11 rfl rfl rfl rfl rfl rfl (fun f4 ef4 => ?_)
  have ho_5 : f4 o = .inr (7, [.ref q1, .null, .int 0, .int 0, .int 0, .int 0, .int 0, .int 0, .int 0]) := by rw [ef4]; exact va_up_self _ _ _
  have hq1_6 : f4 q1 = .inl (K 3, 12, rE (fun _ => none)) := by rw [ef4, va_up_ne _ _ (Ne.symm (ne_new hoL hq1))]; exact hq1_3
  refine g_aload_n (n := 14) hX dX5_init_13 rfl rfl rfl ?_
  refine g_bipush (n := 16) (v := 100) hX dX5_init_14 rfl rfl ?_
  refine g_pnewa (n := 18) (atype := .byte) (N := 100) (a0 := (100, .inl (fun _ => 0))) 0 ua_byte rfl rfl (Or.inl rfl) hX hU hY dX5_init_16 rfl (fun _ => rfl) (by decide) rfl (by decide) (by rw [hRm]; exact Nat.le_of_ble_eq_true rfl) (by rw [hRm]; exact Nat.le_of_ble_eq_true rfl) (fun q7 f7 hq7 ef7 => ?_)
  have ho_8 : f7 o = .inr (7, [.ref q1, .null, .int 0, .int 0, .int 0, .int 0, .int 0, .int 0, .int 0]) := by rw [ef7, va_up_ne _ _ (ne_new (in_app hoL) hq7)]; exact ho_5
  have hq1_9 : f7 q1 = .inl (K 3, 12, rE (fun _ => none)) := by rw [ef7, va_up_ne _ _ (ne_new in_new hq7)]; exact hq1_6
  have hq7_10 : f7 q7 = .inl (K 0, 100, .inl (fun _ => 0)) := by rw [ef7]; exact va_up_self _ _ _
  refine g_pputF (n := 21) (fs' := [.ref q1, .ref q7, .int 0, .int 0, .int 0, .int 0, .int 0, .int 0, .int 0]) tyX5 tyX5_ok nmX5 ux_X5 rfl hX hU (hI rfl) dX5_init_18 rfl (in_app (in_app hoL)) ho_8 1 rfl uf_X5_17 rfl rfl rfl rfl rfl rfl (fun f11 ef11 => ?_)
  have ho_12 : f11 o = .inr (7, [.ref q1, .ref q7, .int 0, .int 0, .int 0, .int 0, .int 0, .int 0, .int 0]) := by rw [ef11]; exact va_up_self _ _ _
  have hq1_13 : f11 q1 = .inl (K 3, 12, rE (fun _ => none)) := by rw [ef11, va_up_ne _ _ (Ne.symm (ne_new hoL hq1))]; exact hq1_9
  have hq7_14 : f11 q7 = .inl (K 0, 100, .inl (fun _ => 0)) := by rw [ef11, va_up_ne _ _ (Ne.symm (ne_new (in_app hoL) hq7))]; exact hq7_10
  exact g_vret hX hR dX5_init_21 ⟨rfl, q1, q7, hq1, hq7, _, rfl, by simp only [ef1, ef11, ef4, ef7, up_up]; rw [up_mid (ne_new (in_app hoL) hq7)]⟩

set_option maxHeartbeats 4000000 in
set_option maxRecDepth 100000 in
theorem x_ProgramInit (l : Launch) (D : va_G) (K : Nat → ClassId) (L : List Nat) (f : Nat → va_E) (x z sf : Int32) (o : Nat) (hoL : o ∈ L) (hof : f o = .inr (5, [.int 0, .int 0, .int 0, .null, .int 0])) (hsf : isB sf) : Mc l yX3_init (wM yX3_init cX3_init 4 none) (rmL 1 1 60) D (yY K) [.ref o, .int x, .int z, .int sf] (va_pl L f) (fun v w => v = none ∧ ∃ q1 : Nat, q1 ∉ L ∧ ∃ f1 : Nat → va_E, w = va_pl (L ++ [q1]) f1 ∧ f1 = va_up (va_up f q1 (.inl (K 5, 60, rE (fun _ => none)))) o (.inr (5, [.int x, .int z, .int sf, .ref q1, .int 0]))) 1 60 := by
  refine m_start (lv := [(0, .ref o), (1, .int x), (2, .int z), (3, .int sf)]) rfl (Nat.le_of_ble_eq_true rfl) rfl (fun Γ hX hRm hnL hY hDD hLa hR hI hE => ?_)
  have hU : ∀ w ∈ wU, w ∈ wM yX3_init cX3_init 4 none := fun w h => wM_in h
  subst hLa
  subst hDD
  refine g_aload_n (n := 1) hX dX3_init_0 rfl rfl rfl ?_
  refine g_objInit (n := 4) hX dX3_init_1 rfl (hU _ um_X3_3) (hU _ ui_obj) (hU _ uc_obj) (by rw [hRm]; decide) (by decide) (by rw [hRm]; decide) ?_
  refine g_aload_n (n := 5) hX dX3_init_4 rfl rfl rfl ?_
  refine g_iload_n (n := 6) hX dX3_init_5 rfl rfl rfl ?_
  refine g_pputF (n := 9) (fs' := [.int x, .int 0, .int 0, .null, .int 0]) tyX3 tyX3_ok nmX3 ux_X3 rfl hX hU (hI rfl) dX3_init_6 rfl hoL hof 0 rfl uf_X3_9 rfl rfl rfl rfl rfl rfl (fun f15 ef15 => ?_)
  have ho_16 : f15 o = .inr (5, [.int x, .int 0, .int 0, .null, .int 0]) := by rw [ef15]; exact va_up_self _ _ _
  refine g_aload_n (n := 10) hX dX3_init_9 rfl rfl rfl ?_
  refine g_iload_n (n := 11) hX dX3_init_10 rfl rfl rfl ?_
  refine g_pputF (n := 14) (fs' := [.int x, .int z, .int 0, .null, .int 0]) tyX3 tyX3_ok nmX3 ux_X3 rfl hX hU (hI rfl) dX3_init_11 rfl hoL ho_16 1 rfl uf_X3_15 rfl rfl rfl rfl rfl rfl (fun f17 ef17 => ?_)
  have ho_18 : f17 o = .inr (5, [.int x, .int z, .int 0, .null, .int 0]) := by rw [ef17]; exact va_up_self _ _ _
  refine g_aload_n (n := 15) hX dX3_init_14 rfl rfl rfl ?_
  refine g_iload_n (n := 16) hX dX3_init_15 rfl rfl rfl ?_
  refine g_pputF (n := 19) (fs' := [.int x, .int z, .int sf, .null, .int 0]) tyX3 tyX3_ok nmX3 ux_X3 rfl hX hU (hI rfl) dX3_init_16 rfl hoL ho_18 2 rfl uf_X3_18 rfl rfl (by rcases hsf with rfl | rfl <;> rfl) (by rcases hsf with rfl | rfl <;> rfl) rfl rfl (fun f19 ef19 => ?_)
  have ho_20 : f19 o = .inr (5, [.int x, .int z, .int sf, .null, .int 0]) := by rw [ef19]; exact va_up_self _ _ _
  refine g_aload_n (n := 20) hX dX3_init_19 rfl rfl rfl ?_
  refine g_bipush (n := 22) (v := 60) hX dX3_init_20 rfl rfl ?_
  refine g_pnewq (n := 25) (N := 60) 5 (fun h9 => h9.2.2.2) rfl hX hE hU hY dX3_init_22 rfl ul_X3_22 (by decide) rfl (by decide) (by rw [hRm]; exact Nat.le_of_ble_eq_true rfl) (by rw [hRm]; exact Nat.le_of_ble_eq_true rfl) (fun q21 f21 hq21 ef21 => ?_)
  have ho_22 : f21 o = .inr (5, [.int x, .int z, .int sf, .null, .int 0]) := by rw [ef21, va_up_ne _ _ (ne_new hoL hq21)]; exact ho_20
  have hq21_23 : f21 q21 = .inl (K 5, 60, rE (fun _ => none)) := by rw [ef21]; exact va_up_self _ _ _
  refine g_pputF (n := 28) (fs' := [.int x, .int z, .int sf, .ref q21, .int 0]) tyX3 tyX3_ok nmX3 ux_X3 rfl hX hU (hI rfl) dX3_init_25 rfl (in_app hoL) ho_22 3 rfl uf_X3_24 rfl rfl rfl rfl rfl rfl (fun f24 ef24 => ?_)
  have ho_25 : f24 o = .inr (5, [.int x, .int z, .int sf, .ref q21, .int 0]) := by rw [ef24]; exact va_up_self _ _ _
  have hq21_26 : f24 q21 = .inl (K 5, 60, rE (fun _ => none)) := by rw [ef24, va_up_ne _ _ (Ne.symm (ne_new hoL hq21))]; exact hq21_23
  exact g_vret hX hR dX3_init_28 ⟨rfl, q21, hq21, _, rfl, by simp only [ef15, ef17, ef19, ef21, ef24, up_up]; rw [up_mid (ne_new hoL hq21)]⟩

set_option maxHeartbeats 4000000 in
set_option maxRecDepth 100000 in
theorem x_hasByte (l : Launch) (D : va_G) (K : Nat → ClassId) (L : List Nat) (f : Nat → va_E) (i : Int32) (o z : Nat) (g : Nat → Int32) (mh mp mw : Nat) (mf : Option Nat) (m0 m3 m6 m7 m8 : Int32) (hoL : o ∈ L) (hof : f o = .inr (4, [.int m0, .ref mh, .ref mp, .int m3, .ref mw, va_rf (mf), .int m6, .int m7, .int m8])) (haL : mw ∈ L) (haf : f mw = .inl (K 0, z, .inl g)) : Mc l yX2_hasByte (wM yX2_hasByte cX2_hasByte 2 (some .boolean)) (rmL 0 0 0) D (yY K) [.ref o, .int i] (va_pl L f) (fun v w => v = some (.int (bI (0 ≤ i ∧ i < nI z))) ∧ w = va_pl L f) 0 0 := by
  refine m_start (lv := [(0, .ref o), (1, .int i)]) rfl (Nat.le_of_ble_eq_true rfl) rfl (fun Γ hX hRm hnL hY hDD hLa hR hI hE => ?_)
  have hU : ∀ w ∈ wU, w ∈ wM yX2_hasByte cX2_hasByte 2 (some .boolean) := fun w h => wM_in h
  subst hLa
  subst hDD
  refine g_iload_n (n := 1) hX dX2_hasByte_0 rfl rfl rfl ?_
  refine g_if_lt (n := 4) (tgt := 17) hX dX2_hasByte_1 rfl (by decide) (fun c1 => ?_) (fun c1 => ?_)
  · refine g_iconst (n := 18) (v := 0) hX dX2_hasByte_17 rfl rfl ?_
    exact g_zret hX hR dX2_hasByte_18 rfl ⟨by rw [bI_f (fun h9 => Int32.not_lt.mpr h9.1 c1)], rfl⟩
  · refine g_iload_n (n := 5) hX dX2_hasByte_4 rfl rfl rfl ?_
    refine g_aload_n (n := 6) hX dX2_hasByte_5 rfl rfl rfl ?_
    refine g_pget (n := 9) ux_X2 rfl hX hU dX2_hasByte_6 rfl hoL hof 4 rfl uf_X2_32 rfl ?_
    refine g_palen (n := 10) (t0 := 0) (v := nI (z)) hX hY dX2_hasByte_9 rfl haL haf rfl rfl ?_
    refine g_icmp_ge (n := 13) (tgt := 17) hX dX2_hasByte_10 rfl (by decide) (fun c10 => ?_) (fun c10 => ?_)
    · refine g_iconst (n := 18) (v := 0) hX dX2_hasByte_17 rfl rfl ?_
      exact g_zret hX hR dX2_hasByte_18 rfl ⟨by rw [bI_f (fun h9 => Int32.not_le.mpr h9.2 c10)], rfl⟩
    · refine g_iconst (n := 14) (v := 1) hX dX2_hasByte_13 rfl rfl ?_
      refine g_goto (n := 18) hX dX2_hasByte_14 (by decide) ?_
      exact g_zret hX hR dX2_hasByte_18 rfl ⟨by rw [bI_t ⟨Int32.not_lt.mp c1, Int32.not_le.mp c10⟩], rfl⟩

theorem in_lt {i : Int32} {z : Nat} (hz : z < 2 ^ 31) (h : 0 ≤ i ∧ i < nI z) : ∃ j : Nat, i = nI j ∧ j < z := by
  obtain ⟨j, hj, rfl⟩ := nI_of (Int32.not_lt.mpr h.1)
  exact ⟨j, rfl, (nI_ltI hj hz).mp h.2⟩
set_option maxHeartbeats 4000000 in
set_option maxRecDepth 100000 in
theorem x_valueOf (l : Launch) (D : va_G) (K : Nat → ClassId) (L : List Nat) (f : Nat → va_E) (i : Int32) (o z : Nat) (g : Nat → Int32) (mh mp mw : Nat) (mf : Option Nat) (m0 m3 m6 m7 m8 : Int32) (hoL : o ∈ L) (hof : f o = .inr (4, [.int m0, .ref mh, .ref mp, .int m3, .ref mw, va_rf (mf), .int m6, .int m7, .int m8])) (haL : mw ∈ L) (haf : f mw = .inl (K 0, z, .inl g)) (hz2 : z ≤ 100) : Mc l yX2_valueOf (wM yX2_valueOf cX2_valueOf 2 (some .int)) (rmL 1 0 0) D (yY K) [.ref o, .int i] (va_pl L f) (fun v w => v = some (.int (if 0 ≤ i ∧ i < nI z then g i.toNatClampNeg else 0)) ∧ w = va_pl L f) 0 0 := by
  refine m_start (lv := [(0, .ref o), (1, .int i)]) rfl (Nat.le_of_ble_eq_true rfl) rfl (fun Γ hX hRm hnL hY hDD hLa hR hI hE => ?_)
  have hU : ∀ w ∈ wU, w ∈ wM yX2_valueOf cX2_valueOf 2 (some .int) := fun w h => wM_in h
  subst hLa
  subst hDD
  by_cases hin : 0 ≤ i ∧ i < nI z
  · obtain ⟨j, rfl, hj⟩ := in_lt (by omega) hin
    have ej : (nI j).toNatClampNeg = j := nI_clamp (by omega)
    refine g_aload_n (n := 1) hX dX2_valueOf_0 rfl rfl rfl ?_
    refine g_iload_n (n := 2) hX dX2_valueOf_1 rfl rfl rfl ?_
    refine g_pcallV (n := 5) (As := [.int (nI j)]) (rest := []) hX hE hU hY dX2_valueOf_2 rfl yv_X2_hasByte um_X2_56 (x_hasByte _ _ K L f (nI j) o z g mh mp mw mf m0 m3 m6 m7 m8 hoL hof haL haf) ⟨rfl, rfl⟩ (rm_le hRm rfl rfl) rfl hoL hof rfl rfl rfl (Nat.le_of_ble_eq_true rfl) ⟨Nat.zero_le _, Nat.zero_le _⟩ (fun v0 w0 hq0 => ?_)
    obtain ⟨rfl, rfl⟩ := hq0
    show G Γ (va_pl L f) 0 0 5 [(0, .ref o), (1, .int (nI j))] [.int (bI (0 ≤ (nI j) ∧ (nI j) < nI z))]
    refine g_if_eq (n := 8) (tgt := 17) hX dX2_valueOf_5 rfl (by decide) (fun c5 => absurd c5 (fun h9 => bI_z.mp h9 hin)) (fun c5 => ?_)
    refine g_aload_n (n := 9) hX dX2_valueOf_8 rfl rfl rfl ?_
    refine g_pget (n := 12) ux_X2 rfl hX hU dX2_valueOf_9 rfl hoL hof 4 rfl uf_X2_32 rfl ?_
    refine g_iload_n (n := 13) hX dX2_valueOf_12 rfl rfl rfl ?_
    refine g_pbld (n := 14) (v := g j) hX hY dX2_valueOf_13 rfl haL haf (vp_in_nI (show j < z by omega) (by omega)) (congrArg g (nI_clamp (by omega))) ?_
    refine g_goto (n := 18) hX dX2_valueOf_14 (by decide) ?_
    exact g_iret hX hR dX2_valueOf_18 ⟨by rw [if_pos hin, ej], rfl⟩
  · refine g_aload_n (n := 1) hX dX2_valueOf_0 rfl rfl rfl ?_
    refine g_iload_n (n := 2) hX dX2_valueOf_1 rfl rfl rfl ?_
    refine g_pcallV (n := 5) (As := [.int i]) (rest := []) hX hE hU hY dX2_valueOf_2 rfl yv_X2_hasByte um_X2_56 (x_hasByte _ _ K L f i o z g mh mp mw mf m0 m3 m6 m7 m8 hoL hof haL haf) ⟨rfl, rfl⟩ (rm_le hRm rfl rfl) rfl hoL hof rfl rfl rfl (Nat.le_of_ble_eq_true rfl) ⟨Nat.zero_le _, Nat.zero_le _⟩ (fun v0 w0 hq0 => ?_)
    obtain ⟨rfl, rfl⟩ := hq0
    show G Γ (va_pl L f) 0 0 5 [(0, .ref o), (1, .int i)] [.int (bI (0 ≤ i ∧ i < nI z))]
    refine g_if_eq (n := 8) (tgt := 17) hX dX2_valueOf_5 rfl (by decide) (fun c5 => ?_) (fun c5 => absurd (bI_z.mpr hin) c5)
    refine g_iconst (n := 18) (v := 0) hX dX2_valueOf_17 rfl rfl ?_
    exact g_iret hX hR dX2_valueOf_18 ⟨by rw [if_neg hin], rfl⟩

set_option maxHeartbeats 4000000 in
set_option maxRecDepth 100000 in
theorem x_setByte (l : Launch) (D : va_G) (K : Nat → ClassId) (L : List Nat) (f : Nat → va_E) (i x : Int32) (o z : Nat) (g : Nat → Int32) (mh mp mw : Nat) (mf : Option Nat) (m0 m3 m6 m7 m8 : Int32) (hoL : o ∈ L) (hof : f o = .inr (4, [.int m0, .ref mh, .ref mp, .int m3, .ref mw, va_rf (mf), .int m6, .int m7, .int m8])) (haL : mw ∈ L) (haf : f mw = .inl (K 0, z, .inl g)) (hz2 : z ≤ 100) : Mc l yX2_setByte (wM yX2_setByte cX2_setByte 3 (some .int)) (rmL 1 0 0) D (yY K) [.ref o, .int i, .int x] (va_pl L f) (fun v w => v = some (.int (if 0 ≤ i ∧ i < nI z then 0 else 2)) ∧ ∃ f1 : Nat → va_E, w = va_pl L f1 ∧ f1 = if 0 ≤ i ∧ i < nI z then va_up f mw (.inl (K 0, z, .inl (upd g i.toNatClampNeg x.toInt8.toInt32))) else f) 0 0 := by
  refine m_start (lv := [(0, .ref o), (1, .int i), (2, .int x)]) rfl (Nat.le_of_ble_eq_true rfl) rfl (fun Γ hX hRm hnL hY hDD hLa hR hI hE => ?_)
  have hU : ∀ w ∈ wU, w ∈ wM yX2_setByte cX2_setByte 3 (some .int) := fun w h => wM_in h
  subst hLa
  subst hDD
  by_cases hin : 0 ≤ i ∧ i < nI z
  · obtain ⟨j, rfl, hj⟩ := in_lt (by omega) hin
    have ej : (nI j).toNatClampNeg = j := nI_clamp (by omega)
    refine g_aload_n (n := 1) hX dX2_setByte_0 rfl rfl rfl ?_
    refine g_iload_n (n := 2) hX dX2_setByte_1 rfl rfl rfl ?_
    refine g_pcallV (n := 5) (As := [.int (nI j)]) (rest := []) hX hE hU hY dX2_setByte_2 rfl yv_X2_hasByte um_X2_56 (x_hasByte _ _ K L f (nI j) o z g mh mp mw mf m0 m3 m6 m7 m8 hoL hof haL haf) ⟨rfl, rfl⟩ (rm_le hRm rfl rfl) rfl hoL hof rfl rfl rfl (Nat.le_of_ble_eq_true rfl) ⟨Nat.zero_le _, Nat.zero_le _⟩ (fun v0 w0 hq0 => ?_)
    obtain ⟨rfl, rfl⟩ := hq0
    show G Γ (va_pl L f) 0 0 5 [(0, .ref o), (1, .int (nI j)), (2, .int x)] [.int (bI (0 ≤ (nI j) ∧ (nI j) < nI z))]
    refine g_if_ne (n := 8) (tgt := 10) hX dX2_setByte_5 rfl (by decide) (fun c5 => ?_) (fun c5 => absurd c5 (fun h9 => bI_z.mp h9 hin))
    refine g_aload_n (n := 11) hX dX2_setByte_10 rfl rfl rfl ?_
    refine g_pget (n := 14) ux_X2 rfl hX hU dX2_setByte_11 rfl hoL hof 4 rfl uf_X2_32 rfl ?_
    refine g_iload_n (n := 15) hX dX2_setByte_14 rfl rfl rfl ?_
    refine g_iload_n (n := 16) hX dX2_setByte_15 rfl rfl rfl ?_
    refine g_i2b (n := 17) (v := x.toInt8.toInt32) hX dX2_setByte_16 rfl rfl ?_
    refine g_pbst (n := 18) (i0 := j) (y := x.toInt8.toInt32) hX hY dX2_setByte_17 rfl haL haf (vp_in_nI (show j < z by omega) (by omega)) (nI_clamp (by omega)) (pk_vb _) (fun f27 ef27 => ?_)
    have ho_28 : f27 o = .inr (4, [.int m0, .ref mh, .ref mp, .int m3, .ref mw, va_rf (mf), .int m6, .int m7, .int m8]) := by rw [ef27, va_up_ne _ _ (ne_oa hof haf)]; exact hof
    have hmw_29 : f27 mw = .inl (K 0, z, .inl (upd g j x.toInt8.toInt32)) := by rw [ef27]; exact va_up_self _ _ _
    refine g_iconst (n := 19) (v := 0) hX dX2_setByte_18 rfl rfl ?_
    exact g_iret hX hR dX2_setByte_19 ⟨by rw [if_pos hin], _, rfl, by rw [if_pos hin, ej]; simp only [ef27]⟩
  · refine g_aload_n (n := 1) hX dX2_setByte_0 rfl rfl rfl ?_
    refine g_iload_n (n := 2) hX dX2_setByte_1 rfl rfl rfl ?_
    refine g_pcallV (n := 5) (As := [.int i]) (rest := []) hX hE hU hY dX2_setByte_2 rfl yv_X2_hasByte um_X2_56 (x_hasByte _ _ K L f i o z g mh mp mw mf m0 m3 m6 m7 m8 hoL hof haL haf) ⟨rfl, rfl⟩ (rm_le hRm rfl rfl) rfl hoL hof rfl rfl rfl (Nat.le_of_ble_eq_true rfl) ⟨Nat.zero_le _, Nat.zero_le _⟩ (fun v0 w0 hq0 => ?_)
    obtain ⟨rfl, rfl⟩ := hq0
    show G Γ (va_pl L f) 0 0 5 [(0, .ref o), (1, .int i), (2, .int x)] [.int (bI (0 ≤ i ∧ i < nI z))]
    refine g_if_ne (n := 8) (tgt := 10) hX dX2_setByte_5 rfl (by decide) (fun c5 => absurd (bI_z.mpr hin) c5) (fun c5 => ?_)
    refine g_iconst (n := 9) (v := 2) hX dX2_setByte_8 rfl rfl ?_
    exact g_iret hX hR dX2_setByte_9 ⟨by rw [if_neg hin], _, rfl, by rw [if_neg hin]⟩

set_option maxHeartbeats 4000000 in
set_option maxRecDepth 100000 in
theorem x_findRow2 (l : Launch) (D : va_G) (K : Nat → ClassId) (L : List Nat) (f : Nat → va_E) (i : Int32) (o n cnt ra mh mp mw : Nat) (mf : Option Nat) (m0 m6 m7 m8 v0 v1 v2 : Int32) (g : Nat → Option Nat) (hoL : o ∈ L) (hof : f o = .inr (4, [.int m0, .ref mh, .ref mp, .int (nI n), .ref mw, va_rf (mf), .int m6, .int m7, .int m8])) (hpL : mp ∈ L) (hpf : f mp = .inr (5, [.int v0, .int v1, .int v2, .ref ra, .int (nI cnt)])) (haL : ra ∈ L) (haf : f ra = .inl (K 5, 60, rE g)) (hcnt : cnt ≤ 60) (hnc : n ≤ cnt) (hi1 : 1 ≤ i) : Mc l yX2_findRow (wM yX2_findRow cX2_findRow 2 (some (.object "ClassMaker4$Row"))) (rmL 1 0 0) D (yY K) [.ref o, .int i] (va_pl L f) (fun v w => v = some (va_rf (if i ≤ nI n then g (i.toNatClampNeg - 1) else none)) ∧ w = va_pl L f) 0 0 := by
  refine m_start (lv := [(0, .ref o), (1, .int i)]) rfl (Nat.le_of_ble_eq_true rfl) rfl (fun Γ hX hRm hnL hY hDD hLa hR hI hE => ?_)
  have hU : ∀ w ∈ wU, w ∈ wM yX2_findRow cX2_findRow 2 (some (.object "ClassMaker4$Row")) := fun w h => wM_in h
  subst hLa
  subst hDD
  by_cases hin : i ≤ nI n
  · have hcn : 1 ≤ i ∧ i ≤ nI cnt := ⟨hi1, Int32.le_trans hin (nI_le hnc (by omega))⟩
    refine g_iload_n (n := 1) hX dX2_findRow_0 rfl rfl rfl ?_
    refine g_aload_n (n := 2) hX dX2_findRow_1 rfl rfl rfl ?_
    refine g_pget (n := 5) ux_X2 rfl hX hU dX2_findRow_2 rfl hoL hof 3 rfl uf_X2_28 rfl ?_
    refine g_icmp_gt (n := 8) (tgt := 19) hX dX2_findRow_5 rfl (by decide) (fun c5 => absurd c5 (Int32.not_lt.mpr hin)) (fun c5 => ?_)
    refine g_aload_n (n := 9) hX dX2_findRow_8 rfl rfl rfl ?_
    refine g_pget (n := 12) ux_X2 rfl hX hU dX2_findRow_9 rfl hoL hof 2 rfl uf_X2_19 rfl ?_
    refine g_iload_n (n := 13) hX dX2_findRow_12 rfl rfl rfl ?_
    refine g_pcallV (n := 16) (As := [.int i]) (rest := []) hX hE hU hY dX2_findRow_13 rfl yv_X3_findRow um_X2_52 (x_findRow3 _ _ K L f i mp ra cnt g v0 v1 v2 hpL hpf haL haf hcnt) ⟨rfl, rfl⟩ (rm_le hRm rfl rfl) rfl hpL hpf rfl rfl rfl (Nat.le_of_ble_eq_true rfl) ⟨Nat.zero_le _, Nat.zero_le _⟩ (fun v0 w0 hq0 => ?_)
    rw [if_pos hcn] at hq0; obtain ⟨rfl, rfl⟩ := hq0
    show G Γ (va_pl L f) 0 0 16 [(0, .ref o), (1, .int i)] [va_rf (g (i.toNatClampNeg - 1))]
    refine g_goto (n := 20) hX dX2_findRow_16 (by decide) ?_
    exact g_aret hX hR dX2_findRow_20 (Or.inl ⟨_, rfl⟩) (va_rf_or _) ⟨by rw [if_pos hin], rfl⟩
  · refine g_iload_n (n := 1) hX dX2_findRow_0 rfl rfl rfl ?_
    refine g_aload_n (n := 2) hX dX2_findRow_1 rfl rfl rfl ?_
    refine g_pget (n := 5) ux_X2 rfl hX hU dX2_findRow_2 rfl hoL hof 3 rfl uf_X2_28 rfl ?_
    refine g_icmp_gt (n := 8) (tgt := 19) hX dX2_findRow_5 rfl (by decide) (fun c5 => ?_) (fun c5 => absurd (Int32.not_le.mp hin) c5)
    refine g_null (n := 20) hX dX2_findRow_19 rfl ?_
    exact g_aret hX hR dX2_findRow_20 (Or.inl ⟨_, rfl⟩) (Or.inl rfl) ⟨by rw [if_neg hin]; rfl, rfl⟩

