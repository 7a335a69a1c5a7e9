theorem g_pick {Γ : gT} {ws : va_W} {kc ks pc : Nat} {lv lv' : List (Nat × Value)} {st : List Value} (is : List Nat) (h : is.filterMap (fun i => lv[i]?) = lv') (k : G Γ ws kc ks pc lv' st) : G Γ ws kc ks pc lv st :=
  g_lv (fun q hq => by
    rw [← h] at hq
    obtain ⟨i, -, hi⟩ := List.mem_filterMap.mp hq
    exact List.mem_of_getElem? hi) k
theorem bI_z {c : Prop} [Decidable c] : bI c = 0 ↔ ¬ c := by unfold bI; split <;> simp_all
theorem lg0 {x y : Int64} : lg_cmp x y = 0 ↔ x = y := by
  unfold lg_cmp
  constructor
  · intro h
    split at h
    · exact absurd h (by decide)
    · split at h
      · assumption
      · exact absurd h (by decide)
  · intro h
    subst h
    have : ¬ x < x := Int64.lt_irrefl
    simp [this]
def sk : Nat → Int32
  | 0 => -8
  | j + 1 => nI (8 * j)
theorem sk_dec (j : Nat) : nI (8 * j) + (-8) = sk j := by
  cases j with
  | zero => rfl
  | succ j =>
    show nI (8 * (j + 1)) + (-8) = nI (8 * j)
    rw [show 8 * (j + 1) = 8 * j + 8 by omega, ← nI_add]
    rw [Int32.add_assoc]
    rw [show nI 8 + (-8) = 0 from rfl, Int32.add_zero]
theorem nI_sub1 {a : Nat} (h : 1 ≤ a) : nI a - 1 = nI (a - 1) := pk_sub (b := 1) h
set_option maxHeartbeats 4000000 in
set_option maxRecDepth 100000 in
theorem m_going (l : Launch) (D : va_G) (K : Nat → ClassId) (am : Nat) (A : Nat → Nat) (σ : MS) (b f l2 : Int32) : Mc l yX8_going (wM yX8_going cX8_going 4 (some .int)) (rmL 1 0 0) D (yY K) [.ref am, .int b, .int f, .int l2] (mW K am A σ) (fun v w => v = some (.int (nI (goN b f l2))) ∧ w = mW K am A σ) 0 0 := by
  refine m_start (lv := [(0, .ref am), (1, .int b), (2, .int f), (3, .int l2)]) rfl (Nat.le_of_ble_eq_true rfl) rfl (fun Γ hX hRm hnL hY hDD hLa hR hI hE => ?_)
  have hU : ∀ w ∈ wU, w ∈ wM yX8_going cX8_going 4 (some .int) := fun w h => wM_in h
  subst hLa
  subst hDD
  refine g_iload_n (n := 1) hX dX8_going_0 rfl rfl rfl ?_
  refine g_iload_n (n := 2) hX dX8_going_1 rfl rfl rfl ?_
  refine g_iload_n (n := 3) hX dX8_going_2 rfl rfl rfl ?_
  refine g_callS0 (n := 6) (As := [.int b, .int f, .int l2]) (rest := []) hX hE hU hY dX8_going_3 rfl ys_X8_isWithin um_X8_197 (m_isWithin _ _ K (mW K am A σ) b f l2) ⟨rfl, rfl⟩ (rm_le hRm rfl rfl) rfl rfl (Nat.le_of_ble_eq_true rfl) ⟨Nat.zero_le _, Nat.zero_le _⟩ (fun v0 w0 hq0 => ?_)
  obtain ⟨rfl, rfl⟩ := hq0
  show G Γ (mW K am A σ) 0 0 6 [(0, .ref am), (1, .int b), (2, .int f), (3, .int l2)] [.int (bI (f ≤ b ∧ b ≤ l2))]
  refine g_if_eq (n := 9) (tgt := 13) hX dX8_going_6 rfl (by decide) (fun c6 => ?_) (fun c6 => ?_)
  · have c6 := bI_z.mp c6
    refine g_iconst (n := 14) (v := 4) hX dX8_going_13 rfl rfl ?_
    exact g_iret hX hR dX8_going_14 ⟨by rw [goN, if_neg c6]; rfl, rfl⟩
  · have c6 := fun h9 => c6 (bI_z.mpr h9)
    refine g_iconst (n := 10) (v := 3) hX dX8_going_9 rfl rfl ?_
    refine g_goto (n := 14) hX dX8_going_10 (by decide) ?_
    exact g_iret hX hR dX8_going_14 ⟨by rw [goN, if_pos (Decidable.of_not_not c6)]; rfl, rfl⟩

set_option maxHeartbeats 4000000 in
set_option maxRecDepth 100000 in
theorem m_bytesOf (l : Launch) (D : va_G) (K : Nat → ClassId) (am : Nat) (A : Nat → Nat) (σ : MS) (at0 : Nat) (f l2 : Int32) (hat : at0 < 793) (ho : opOk (σ.1 2 at0)) : Mc l yX8_bytesOf (wM yX8_bytesOf cX8_bytesOf 4 (some .int)) (rmL 2 0 0) D (yY K) [.ref am, .int (nI at0), .int f, .int l2] (mW K am A σ) (fun v w => v = some (.int (nI (lnO (σ.1 2 at0) (σ.1 4 at0) f l2))) ∧ w = mW K am A σ) 0 0 := by
  refine m_start (lv := [(0, .ref am), (1, .int (nI at0)), (2, .int f), (3, .int l2)]) rfl (Nat.le_of_ble_eq_true rfl) rfl (fun Γ hX hRm hnL hY hDD hLa hR hI hE => ?_)
  have hU : ∀ w ∈ wU, w ∈ wM yX8_bytesOf cX8_bytesOf 4 (some .int) := fun w h => wM_in h
  subst hLa
  subst hDD
  refine g_aload_n (n := 1) hX dX8_bytesOf_0 rfl rfl rfl ?_
  refine g_mget (n := 4) 6 (v := .ref (A 2)) hX hU dX8_bytesOf_1 rfl uf_X8_16 rfl rfl rfl ?_
  refine g_iload_n (n := 5) hX dX8_bytesOf_4 rfl rfl rfl ?_
  refine g_mild (n := 6) 2 (v := σ.1 2 (at0)) hX hY dX8_bytesOf_5 rfl rfl rfl (vp_in_nI (show at0 < mN 2 by show at0 < 793; omega) (by decide)) (congrArg (σ.1 2) (nI_clamp (by omega))) ?_
  rcases sw_split (σ.1 2 (at0)) (0) (13) with hsw | hsw
  · refine g_tableOut (n := 116) hX dX8_bytesOf_6 hsw (by decide) ?_
    refine g_bipush (n := 118) (v := 20) hX dX8_bytesOf_116 rfl rfl ?_
    exact g_iret hX hR dX8_bytesOf_118 (absurd hsw (by have := ho.1; have := ho.2; omega))
  · obtain ⟨kz, hk1, hk2⟩ := hsw
    rcases (show kz = (0 : Int) ∨ kz = (1 : Int) ∨ kz = (2 : Int) ∨ kz = (3 : Int) ∨ kz = (4 : Int) ∨ kz = (5 : Int) ∨ kz = (6 : Int) ∨ kz = (7 : Int) ∨ kz = (8 : Int) ∨ kz = (9 : Int) ∨ kz = (10 : Int) ∨ kz = (11 : Int) ∨ kz = (12 : Int) ∨ kz = (13 : Int) by omega) with hkz | hkz | hkz | hkz | hkz | hkz | hkz | hkz | hkz | hkz | hkz | hkz | hkz | hkz
    · have hxe : σ.1 2 (at0) = (0 : Int32) := sw_val (hkz ▸ hk1) (by decide)
      refine g_tableIn (n := 76) (off := 70) hX dX8_bytesOf_6 (by rw [hxe]; decide) (by rw [hxe]; decide) (by rw [hxe]; rfl) (by decide) ?_
      refine g_bipush (n := 78) (v := 8) hX dX8_bytesOf_76 rfl rfl ?_
      exact g_iret hX hR dX8_bytesOf_78 ⟨by rw [lnO, hxe]; rfl, rfl⟩
    · have hxe : σ.1 2 (at0) = (1 : Int32) := sw_val (hkz ▸ hk1) (by decide)
      refine g_tableIn (n := 79) (off := 73) hX dX8_bytesOf_6 (by rw [hxe]; decide) (by rw [hxe]; decide) (by rw [hxe]; rfl) (by decide) ?_
      refine g_bipush (n := 81) (v := 12) hX dX8_bytesOf_79 rfl rfl ?_
      exact g_iret hX hR dX8_bytesOf_81 ⟨by rw [lnO, hxe]; rfl, rfl⟩
    · have hxe : σ.1 2 (at0) = (2 : Int32) := sw_val (hkz ▸ hk1) (by decide)
      refine g_tableIn (n := 116) (off := 110) hX dX8_bytesOf_6 (by rw [hxe]; decide) (by rw [hxe]; decide) (by rw [hxe]; rfl) (by decide) ?_
      refine g_bipush (n := 118) (v := 20) hX dX8_bytesOf_116 rfl rfl ?_
      exact g_iret hX hR dX8_bytesOf_118 ⟨by rw [lnO, hxe]; rfl, rfl⟩
    · have hxe : σ.1 2 (at0) = (3 : Int32) := sw_val (hkz ▸ hk1) (by decide)
      refine g_tableIn (n := 116) (off := 110) hX dX8_bytesOf_6 (by rw [hxe]; decide) (by rw [hxe]; decide) (by rw [hxe]; rfl) (by decide) ?_
      refine g_bipush (n := 118) (v := 20) hX dX8_bytesOf_116 rfl rfl ?_
      exact g_iret hX hR dX8_bytesOf_118 ⟨by rw [lnO, hxe]; rfl, rfl⟩
    · have hxe : σ.1 2 (at0) = (4 : Int32) := sw_val (hkz ▸ hk1) (by decide)
      refine g_tableIn (n := 116) (off := 110) hX dX8_bytesOf_6 (by rw [hxe]; decide) (by rw [hxe]; decide) (by rw [hxe]; rfl) (by decide) ?_
      refine g_bipush (n := 118) (v := 20) hX dX8_bytesOf_116 rfl rfl ?_
      exact g_iret hX hR dX8_bytesOf_118 ⟨by rw [lnO, hxe]; rfl, rfl⟩
    · have hxe : σ.1 2 (at0) = (5 : Int32) := sw_val (hkz ▸ hk1) (by decide)
      refine g_tableIn (n := 116) (off := 110) hX dX8_bytesOf_6 (by rw [hxe]; decide) (by rw [hxe]; decide) (by rw [hxe]; rfl) (by decide) ?_
      refine g_bipush (n := 118) (v := 20) hX dX8_bytesOf_116 rfl rfl ?_
      exact g_iret hX hR dX8_bytesOf_118 ⟨by rw [lnO, hxe]; rfl, rfl⟩
    · have hxe : σ.1 2 (at0) = (6 : Int32) := sw_val (hkz ▸ hk1) (by decide)
      refine g_tableIn (n := 116) (off := 110) hX dX8_bytesOf_6 (by rw [hxe]; decide) (by rw [hxe]; decide) (by rw [hxe]; rfl) (by decide) ?_
      refine g_bipush (n := 118) (v := 20) hX dX8_bytesOf_116 rfl rfl ?_
      exact g_iret hX hR dX8_bytesOf_118 ⟨by rw [lnO, hxe]; rfl, rfl⟩
    · have hxe : σ.1 2 (at0) = (7 : Int32) := sw_val (hkz ▸ hk1) (by decide)
      refine g_tableIn (n := 82) (off := 76) hX dX8_bytesOf_6 (by rw [hxe]; decide) (by rw [hxe]; decide) (by rw [hxe]; rfl) (by decide) ?_
      refine g_bipush (n := 84) (v := 16) hX dX8_bytesOf_82 rfl rfl ?_
      exact g_iret hX hR dX8_bytesOf_84 ⟨by rw [lnO, hxe]; rfl, rfl⟩
    · have hxe : σ.1 2 (at0) = (8 : Int32) := sw_val (hkz ▸ hk1) (by decide)
      refine g_tableIn (n := 85) (off := 79) hX dX8_bytesOf_6 (by rw [hxe]; decide) (by rw [hxe]; decide) (by rw [hxe]; rfl) (by decide) ?_
      refine g_bipush (n := 87) (v := 9) hX dX8_bytesOf_85 rfl rfl ?_
      refine g_aload_n (n := 88) hX dX8_bytesOf_87 rfl rfl rfl ?_
      refine g_aload_n (n := 89) hX dX8_bytesOf_88 rfl rfl rfl ?_
      refine g_mget (n := 92) 8 (v := .ref (A 4)) hX hU dX8_bytesOf_89 rfl uf_X8_22 rfl rfl rfl ?_
      refine g_iload_n (n := 93) hX dX8_bytesOf_92 rfl rfl rfl ?_
      refine g_mild (n := 94) 4 (v := σ.1 4 (at0)) hX hY dX8_bytesOf_93 rfl rfl rfl (vp_in_nI (show at0 < mN 4 by show at0 < 793; omega) (by decide)) (congrArg (σ.1 4) (nI_clamp (by omega))) ?_
      refine g_iload_n (n := 95) hX dX8_bytesOf_94 rfl rfl rfl ?_
      refine g_iload_n (n := 96) hX dX8_bytesOf_95 rfl rfl rfl ?_
      refine g_callV0 (n := 99) (As := [.int (σ.1 4 (at0)), .int f, .int l2]) (rest := [.int 9]) hX hE hU hY dX8_bytesOf_96 rfl yv_X8_going um_X8_200 (m_going _ _ K am A σ (σ.1 4 (at0)) f l2) ⟨rfl, rfl⟩ (rm_le hRm rfl rfl) rfl (ci := 10) (q0 := 0) rfl rfl rfl rfl (Nat.le_of_ble_eq_true rfl) ⟨Nat.zero_le _, Nat.zero_le _⟩ (fun v0 w0 hq0 => ?_)
      obtain ⟨rfl, rfl⟩ := hq0
      show G Γ (mW K am A σ) 0 0 99 [(0, .ref am), (1, .int (nI at0)), (2, .int f), (3, .int l2)] [.int (nI (goN (σ.1 4 (at0)) f l2)), .int 9]
      refine g_iadd (n := 100) (v := nI (9 + goN (σ.1 4 at0) f l2)) hX dX8_bytesOf_99 rfl (nI_add 9 _) ?_
      exact g_iret hX hR dX8_bytesOf_100 ⟨by rw [lnO, hxe]; rfl, rfl⟩
    · have hxe : σ.1 2 (at0) = (9 : Int32) := sw_val (hkz ▸ hk1) (by decide)
      refine g_tableIn (n := 101) (off := 95) hX dX8_bytesOf_6 (by rw [hxe]; decide) (by rw [hxe]; decide) (by rw [hxe]; rfl) (by decide) ?_
      refine g_aload_n (n := 102) hX dX8_bytesOf_101 rfl rfl rfl ?_
      refine g_aload_n (n := 103) hX dX8_bytesOf_102 rfl rfl rfl ?_
      refine g_mget (n := 106) 8 (v := .ref (A 4)) hX hU dX8_bytesOf_103 rfl uf_X8_22 rfl rfl rfl ?_
      refine g_iload_n (n := 107) hX dX8_bytesOf_106 rfl rfl rfl ?_
      refine g_mild (n := 108) 4 (v := σ.1 4 (at0)) hX hY dX8_bytesOf_107 rfl rfl rfl (vp_in_nI (show at0 < mN 4 by show at0 < 793; omega) (by decide)) (congrArg (σ.1 4) (nI_clamp (by omega))) ?_
      refine g_iload_n (n := 109) hX dX8_bytesOf_108 rfl rfl rfl ?_
      refine g_iload_n (n := 110) hX dX8_bytesOf_109 rfl rfl rfl ?_
      refine g_callV0 (n := 113) (As := [.int (σ.1 4 (at0)), .int f, .int l2]) (rest := []) hX hE hU hY dX8_bytesOf_110 rfl yv_X8_going um_X8_200 (m_going _ _ K am A σ (σ.1 4 (at0)) f l2) ⟨rfl, rfl⟩ (rm_le hRm rfl rfl) rfl (ci := 10) (q0 := 0) rfl rfl rfl rfl (Nat.le_of_ble_eq_true rfl) ⟨Nat.zero_le _, Nat.zero_le _⟩ (fun v0 w0 hq0 => ?_)
      obtain ⟨rfl, rfl⟩ := hq0
      show G Γ (mW K am A σ) 0 0 113 [(0, .ref am), (1, .int (nI at0)), (2, .int f), (3, .int l2)] [.int (nI (goN (σ.1 4 (at0)) f l2))]
      exact g_iret hX hR dX8_bytesOf_113 ⟨by rw [lnO, hxe]; rfl, rfl⟩
    · have hxe : σ.1 2 (at0) = (10 : Int32) := sw_val (hkz ▸ hk1) (by decide)
      refine g_tableIn (n := 114) (off := 108) hX dX8_bytesOf_6 (by rw [hxe]; decide) (by rw [hxe]; decide) (by rw [hxe]; rfl) (by decide) ?_
      refine g_iconst (n := 115) (v := 5) hX dX8_bytesOf_114 rfl rfl ?_
      exact g_iret hX hR dX8_bytesOf_115 ⟨by rw [lnO, hxe]; rfl, rfl⟩
    · have hxe : σ.1 2 (at0) = (11 : Int32) := sw_val (hkz ▸ hk1) (by decide)
      refine g_tableIn (n := 114) (off := 108) hX dX8_bytesOf_6 (by rw [hxe]; decide) (by rw [hxe]; decide) (by rw [hxe]; rfl) (by decide) ?_
      refine g_iconst (n := 115) (v := 5) hX dX8_bytesOf_114 rfl rfl ?_
      exact g_iret hX hR dX8_bytesOf_115 ⟨by rw [lnO, hxe]; rfl, rfl⟩
    · have hxe : σ.1 2 (at0) = (12 : Int32) := sw_val (hkz ▸ hk1) (by decide)
      refine g_tableIn (n := 114) (off := 108) hX dX8_bytesOf_6 (by rw [hxe]; decide) (by rw [hxe]; decide) (by rw [hxe]; rfl) (by decide) ?_
      refine g_iconst (n := 115) (v := 5) hX dX8_bytesOf_114 rfl rfl ?_
      exact g_iret hX hR dX8_bytesOf_115 ⟨by rw [lnO, hxe]; rfl, rfl⟩
    · have hxe : σ.1 2 (at0) = (13 : Int32) := sw_val (hkz ▸ hk1) (by decide)
      refine g_tableIn (n := 82) (off := 76) hX dX8_bytesOf_6 (by rw [hxe]; decide) (by rw [hxe]; decide) (by rw [hxe]; rfl) (by decide) ?_
      refine g_bipush (n := 84) (v := 16) hX dX8_bytesOf_82 rfl rfl ?_
      exact g_iret hX hR dX8_bytesOf_84 ⟨by rw [lnO, hxe]; rfl, rfl⟩

set_option maxHeartbeats 4000000 in
set_option maxRecDepth 100000 in
theorem lp_begins {Γ : gT} {K : Nat → ClassId} {am : Nat} {A : Nat → Nat} (hX : gOk Γ cX8_begins (wM yX8_begins cX8_begins 7 (some .int)) RX8) (hE : gEv Γ) (hRm : gRm Γ = rmL 3 0 0) (hnL : gnL Γ = 7) (hY : gY Γ = yY K) (σ : MS) (p row f l2 : Nat) (hp : p ≤ 12) (h1 : 1 ≤ f) (h2 : f ≤ row) (h3 : row ≤ l2 + 1) (h4 : l2 ≤ 60) (h5 : f ≤ l2) (ho : ∀ r, f ≤ r → r < row → opOk (σ.1 2 (60 * p + r))) (hR : gRet Γ (some .int) (fun v w => v = some (.int (nI (bg (prO σ p) f l2 row))) ∧ w = mW K am A σ) 0 0) : ∀ (k r n : Nat), row - r ≤ k → f ≤ r → r ≤ row → n = 16 + 4 * (l2 - f + 1) + sumR (lnR (prO σ p) f l2) f (r - f) → G Γ (mW K am A σ) 0 0 16 [(6, .int (nI r)), (5, .int (nI n)), (0, .ref am), (1, .int (nI p)), (2, .int (nI row)), (3, .int (nI f)), (4, .int (nI l2))] [] := by
  have hU : ∀ w ∈ wU, w ∈ wM yX8_begins cX8_begins 7 (some .int) := fun w h => wM_in h
  intro k
  induction k with
  | zero =>
    intro r n hk hr1 hr2 en
    refine g_iload (n := 18) hX dX8_begins_16 rfl rfl ?_
    refine g_iload_n (n := 19) hX dX8_begins_18 rfl rfl rfl ?_
    refine g_icmp_ge (n := 22) (tgt := 47) hX dX8_begins_19 rfl (by decide) (fun c19 => ?_) (fun c19 => absurd (nI_le (a := row) (b := r) (by omega) (by omega)) c19)
    refine g_iload (n := 49) hX dX8_begins_47 rfl rfl ?_
    exact g_iret hX hR dX8_begins_49 ⟨by rw [en, show r = row by omega]; rfl, rfl⟩
  | succ k ih =>
    intro r n hk hr1 hr2 en
    by_cases hrr : r = row
    · subst hrr
      refine g_iload (n := 18) hX dX8_begins_16 rfl rfl ?_
      refine g_iload_n (n := 19) hX dX8_begins_18 rfl rfl rfl ?_
      refine g_icmp_ge (n := 22) (tgt := 47) hX dX8_begins_19 rfl (by decide) (fun c19 => ?_) (fun c19 => absurd (nI_le (a := r) (b := r) (by omega) (by omega)) c19)
      refine g_iload (n := 49) hX dX8_begins_47 rfl rfl ?_
      exact g_iret hX hR dX8_begins_49 ⟨by rw [en]; rfl, rfl⟩
    · have hlt : r < row := by omega
      refine g_iload (n := 18) hX dX8_begins_16 rfl rfl ?_
      refine g_iload_n (n := 19) hX dX8_begins_18 rfl rfl rfl ?_
      refine g_icmp_ge (n := 22) (tgt := 47) hX dX8_begins_19 rfl (by decide) (fun c19 => absurd c19 (nI_ge (a := r) (b := row) (by omega) (by omega))) (fun c19 => ?_)
      refine g_iload (n := 24) hX dX8_begins_22 rfl rfl ?_
      refine g_aload_n (n := 25) hX dX8_begins_24 rfl rfl rfl ?_
      refine g_bipush (n := 27) (v := 60) hX dX8_begins_25 rfl rfl ?_
      refine g_iload_n (n := 28) hX dX8_begins_27 rfl rfl rfl ?_
      refine g_imul (n := 29) (v := nI (60 * p)) hX dX8_begins_28 rfl (pk_mul 60 p) ?_
      refine g_iload (n := 31) hX dX8_begins_29 rfl rfl ?_
      refine g_iadd (n := 32) (v := nI (60 * p + r)) hX dX8_begins_31 rfl (nI_add _ _) ?_
      refine g_iload_n (n := 33) hX dX8_begins_32 rfl rfl rfl ?_
      refine g_iload (n := 35) hX dX8_begins_33 rfl rfl ?_
      refine g_callV0 (n := 38) (As := [.int (nI (60 * p + r)), .int (nI f), .int (nI l2)]) (rest := [.int (nI n)]) hX hE hU hY dX8_begins_35 rfl yv_X8_bytesOf um_X8_204 (m_bytesOf _ _ K am A σ (60 * p + r) (nI f) (nI l2) (by omega) (ho r (by omega) (by omega))) ⟨rfl, rfl⟩ (rm_le hRm rfl rfl) rfl (ci := 10) (q0 := 0) rfl rfl rfl rfl (Nat.le_of_ble_eq_true rfl) ⟨Nat.zero_le _, Nat.zero_le _⟩ (fun v0 w0 hq0 => ?_)
      obtain ⟨rfl, rfl⟩ := hq0
      show G Γ (mW K am A σ) 0 0 38 [(6, .int (nI r)), (5, .int (nI n)), (0, .ref am), (1, .int (nI p)), (2, .int (nI row)), (3, .int (nI f)), (4, .int (nI l2))] [.int (nI (lnR (prO σ p) f l2 r)), .int (nI n)]
      refine g_iadd (n := 39) (v := nI (n + lnR (prO σ p) f l2 r)) hX dX8_begins_38 rfl (nI_add _ _) ?_
      refine g_istore (lv' := [(5, .int (nI (n + lnR (prO σ p) f l2 r))), (6, .int (nI r)), (0, .ref am), (1, .int (nI p)), (2, .int (nI row)), (3, .int (nI f)), (4, .int (nI l2))]) (n := 41) hX dX8_begins_39 rfl (by rw [hnL]; rfl) rfl ?_
      refine g_iinc (n := 44) (v := nI (r + 1)) (lv' := [(6, .int (nI (r + 1))), (5, .int (nI (n + lnR (prO σ p) f l2 r))), (0, .ref am), (1, .int (nI p)), (2, .int (nI row)), (3, .int (nI f)), (4, .int (nI l2))]) hX dX8_begins_41 rfl rfl (nI_add r 1) (by rw [hnL]; rfl) rfl ?_
      refine g_goto (n := 16) hX dX8_begins_44 (by decide) ?_
      refine g_pick (lv' := [(6, .int (nI (r + 1))), (5, .int (nI (n + lnR (prO σ p) f l2 r))), (0, .ref am), (1, .int (nI p)), (2, .int (nI row)), (3, .int (nI f)), (4, .int (nI l2))]) [0, 1, 2, 3, 4, 5, 6] rfl ?_
      exact ih (r + 1) (n + lnR (prO σ p) f l2 r) (by omega) (by omega) (by omega) (by rw [en, show r + 1 - f = (r - f) + 1 by omega, sumR, show f + (r - f) = r by omega]; omega)
set_option maxHeartbeats 4000000 in
set_option maxRecDepth 100000 in
theorem m_begins (l : Launch) (D : va_G) (K : Nat → ClassId) (am : Nat) (A : Nat → Nat) (σ : MS) (p row f l2 : Nat) (hp : p ≤ 12) (h1 : 1 ≤ f) (h2 : f ≤ row) (h3 : row ≤ l2 + 1) (h4 : l2 ≤ 60) (h5 : f ≤ l2) (ho : ∀ r, f ≤ r → r < row → opOk (σ.1 2 (60 * p + r))) : Mc l yX8_begins (wM yX8_begins cX8_begins 7 (some .int)) (rmL 3 0 0) D (yY K) [.ref am, .int (nI p), .int (nI row), .int (nI f), .int (nI l2)] (mW K am A σ) (fun v w => v = some (.int (nI (bg (prO σ p) f l2 row))) ∧ w = mW K am A σ) 0 0 := by
  refine m_start (lv := [(0, .ref am), (1, .int (nI p)), (2, .int (nI row)), (3, .int (nI f)), (4, .int (nI l2))]) rfl (Nat.le_of_ble_eq_true rfl) rfl (fun Γ hX hRm hnL hY hDD hLa hR hI hE => ?_)
  have hU : ∀ w ∈ wU, w ∈ wM yX8_begins cX8_begins 7 (some .int) := fun w h => wM_in h
  subst hLa
  subst hDD
  refine g_bipush (n := 2) (v := 16) hX dX8_begins_0 rfl rfl ?_
  refine g_iconst (n := 3) (v := 4) hX dX8_begins_2 rfl rfl ?_
  refine g_iload (n := 5) hX dX8_begins_3 rfl rfl ?_
  refine g_iload_n (n := 6) hX dX8_begins_5 rfl rfl rfl ?_
  refine g_isub (n := 7) (v := nI (l2 - f)) hX dX8_begins_6 rfl (pk_sub h5) ?_
  refine g_iconst (n := 8) (v := 1) hX dX8_begins_7 rfl rfl ?_
  refine g_iadd (n := 9) (v := nI (l2 - f + 1)) hX dX8_begins_8 rfl (nI_add _ 1) ?_
  refine g_imul (n := 10) (v := nI (4 * (l2 - f + 1))) hX dX8_begins_9 rfl (pk_mul 4 _) ?_
  refine g_iadd (n := 11) (v := nI (16 + 4 * (l2 - f + 1))) hX dX8_begins_10 rfl (nI_add 16 _) ?_
  refine g_istore (lv' := [(5, .int (nI (16 + 4 * (l2 - f + 1)))), (0, .ref am), (1, .int (nI p)), (2, .int (nI row)), (3, .int (nI f)), (4, .int (nI l2))]) (n := 13) hX dX8_begins_11 rfl (by rw [hnL]; rfl) rfl ?_
  refine g_iload_n (n := 14) hX dX8_begins_13 rfl rfl rfl ?_
  refine g_istore (lv' := [(6, .int (nI f)), (5, .int (nI (16 + 4 * (l2 - f + 1)))), (0, .ref am), (1, .int (nI p)), (2, .int (nI row)), (3, .int (nI f)), (4, .int (nI l2))]) (n := 16) hX dX8_begins_14 rfl (by rw [hnL]; rfl) rfl ?_
  refine g_pick (lv' := [(6, .int (nI f)), (5, .int (nI (16 + 4 * (l2 - f + 1)))), (0, .ref am), (1, .int (nI p)), (2, .int (nI row)), (3, .int (nI f)), (4, .int (nI l2))]) [0, 1, 2, 3, 4, 5, 6] rfl ?_
  exact lp_begins hX hE hRm hnL hY σ p row f l2 hp h1 h2 h3 h4 h5 ho hR (row - f) f _ (Nat.le_refl _) (Nat.le_refl _) h2 (by rw [Nat.sub_self]; rfl)

set_option maxHeartbeats 4000000 in
set_option maxRecDepth 100000 in
theorem m_named (l : Launch) (D : va_G) (K : Nat → ClassId) (ws : va_W) (c x : Int32) : Mc l yX8_named (wM yX8_named cX8_named 2 (some .long)) (rmL 0 0 0) D (yY K) [.int c, .int x] (ws) (fun v w => v = some (.long (nmL c x)) ∧ w = ws) 0 0 := by
  refine m_start (lv := [(0, .int c), (1, .int x)]) rfl (Nat.le_of_ble_eq_true rfl) rfl (fun Γ hX hRm hnL hY hDD hLa hR hI hE => ?_)
  have hU : ∀ w ∈ wU, w ∈ wM yX8_named cX8_named 2 (some .long) := fun w h => wM_in h
  subst hLa
  subst hDD
  refine g_iload_n (n := 1) hX dX8_named_0 rfl rfl rfl ?_
  refine g_bipush (n := 3) (v := 10) hX dX8_named_1 rfl rfl ?_
  refine g_icmp_ge (n := 6) (tgt := 20) hX dX8_named_3 rfl (by decide) (fun c3 => ?_) (fun c3 => ?_)
  · refine g_iload_n (n := 21) hX dX8_named_20 rfl rfl rfl ?_
    refine g_i2l (n := 22) (v := c.toInt64) hX dX8_named_21 rfl rfl ?_
    refine g_bipush (n := 24) (v := 16) hX dX8_named_22 rfl rfl ?_
    refine g_lshl (n := 25) (v := c.toInt64 <<< ((16 : Int32).toInt64 &&& 63)) hX dX8_named_24 rfl rfl ?_
    refine g_bipush (n := 27) (v := 48) hX dX8_named_25 rfl rfl ?_
    refine g_iload_n (n := 28) hX dX8_named_27 rfl rfl rfl ?_
    refine g_bipush (n := 30) (v := 10) hX dX8_named_28 rfl rfl ?_
    refine g_idiv (n := 31) (v := x / 10) hX dX8_named_30 rfl (by decide) rfl ?_
    refine g_iadd (n := 32) (v := 48 + (x / 10)) hX dX8_named_31 rfl rfl ?_
    refine g_bipush (n := 34) (v := 8) hX dX8_named_32 rfl rfl ?_
    refine g_ishl (n := 35) (v := (48 + (x / 10)) <<< (8 &&& 31)) hX dX8_named_34 rfl rfl ?_
    refine g_i2l (n := 36) (v := ((48 + (x / 10)) <<< (8 &&& 31)).toInt64) hX dX8_named_35 rfl rfl ?_
    refine g_lor (n := 37) (v := (c.toInt64 <<< ((16 : Int32).toInt64 &&& 63)) ||| (((48 + (x / 10)) <<< (8 &&& 31)).toInt64)) hX dX8_named_36 rfl rfl ?_
    refine g_bipush (n := 39) (v := 48) hX dX8_named_37 rfl rfl ?_
    refine g_iload_n (n := 40) hX dX8_named_39 rfl rfl rfl ?_
    refine g_bipush (n := 42) (v := 10) hX dX8_named_40 rfl rfl ?_
    refine g_irem (n := 43) (v := x - x / 10 * 10) hX dX8_named_42 rfl (by decide) rfl ?_
    refine g_iadd (n := 44) (v := 48 + (x - x / 10 * 10)) hX dX8_named_43 rfl rfl ?_
    refine g_i2l (n := 45) (v := (48 + (x - x / 10 * 10)).toInt64) hX dX8_named_44 rfl rfl ?_
    refine g_lor (n := 46) (v := ((c.toInt64 <<< ((16 : Int32).toInt64 &&& 63)) ||| (((48 + (x / 10)) <<< (8 &&& 31)).toInt64)) ||| ((48 + (x - x / 10 * 10)).toInt64)) hX dX8_named_45 rfl rfl ?_
    exact g_lret hX hR dX8_named_46 ⟨by rw [nmL, if_pos c3], rfl⟩
  · refine g_iload_n (n := 7) hX dX8_named_6 rfl rfl rfl ?_
    refine g_i2l (n := 8) (v := c.toInt64) hX dX8_named_7 rfl rfl ?_
    refine g_bipush (n := 10) (v := 8) hX dX8_named_8 rfl rfl ?_
    refine g_lshl (n := 11) (v := c.toInt64 <<< ((8 : Int32).toInt64 &&& 63)) hX dX8_named_10 rfl rfl ?_
    refine g_bipush (n := 13) (v := 48) hX dX8_named_11 rfl rfl ?_
    refine g_iload_n (n := 14) hX dX8_named_13 rfl rfl rfl ?_
    refine g_iadd (n := 15) (v := 48 + x) hX dX8_named_14 rfl rfl ?_
    refine g_i2l (n := 16) (v := (48 + x).toInt64) hX dX8_named_15 rfl rfl ?_
    refine g_lor (n := 17) (v := (c.toInt64 <<< ((8 : Int32).toInt64 &&& 63)) ||| ((48 + x).toInt64)) hX dX8_named_16 rfl rfl ?_
    refine g_goto (n := 46) hX dX8_named_17 (by decide) ?_
    exact g_lret hX hR dX8_named_46 ⟨by rw [nmL, if_neg c3], rfl⟩

set_option maxHeartbeats 4000000 in
set_option maxRecDepth 100000 in
theorem lp_signs {Γ : gT} {K : Nat → ClassId} {am : Nat} {A : Nat → Nat} (hX : gOk Γ cX8_signs (wM yX8_signs cX8_signs 4 none) RX8) (hE : gEv Γ) (hRm : gRm Γ = rmL 1 0 0) (hnL : gnL Γ = 4) (hY : gY Γ = yY K) (s : Int64) : ∀ (j : Nat) (σ : MS), j ≤ 8 → Lo σ j → G Γ (mW K am A (ap σ (sgL s j))) 0 0 33 [(3, .int (-8)), (0, .ref am), (1, .long s)] [] → G Γ (mW K am A σ) 0 0 3 [(3, .int (sk j)), (0, .ref am), (1, .long s)] [] := by
  have hU : ∀ w ∈ wU, w ∈ wM yX8_signs cX8_signs 4 none := fun w h => wM_in h
  intro j
  induction j with
  | zero =>
    intro σ hj hr hk
    show G Γ (mW K am A σ) 0 0 3 [(3, .int (-8)), (0, .ref am), (1, .long s)] []
    refine g_iload_n (n := 4) hX dX8_signs_3 rfl rfl rfl ?_
    refine g_if_lt (n := 7) (tgt := 33) hX dX8_signs_4 rfl (by decide) (fun c4 => ?_) (fun c4 => absurd (by decide) c4)
    exact hk
  | succ j ih =>
    intro σ hj hr hk
    show G Γ (mW K am A σ) 0 0 3 [(3, .int (nI (8 * j))), (0, .ref am), (1, .long s)] []
    refine g_iload_n (n := 4) hX dX8_signs_3 rfl rfl rfl ?_
    refine g_if_lt (n := 7) (tgt := 33) hX dX8_signs_4 rfl (by decide) (fun c4 => absurd c4 (nI_pos (by omega))) (fun c4 => ?_)
    refine g_lload_n (n := 8) hX dX8_signs_7 rfl rfl rfl ?_
    refine g_iload_n (n := 9) hX dX8_signs_8 rfl rfl rfl ?_
    refine g_lshr (n := 10) (v := s >>> ((nI (8 * j) : Int32).toInt64 &&& 63)) hX dX8_signs_9 rfl rfl ?_
    refine g_ldc2 (n := 13) (v := 255) hX dX8_signs_10 rfl (hU _ uk_X8_149) ?_
    refine g_land (n := 14) (v := (s >>> ((nI (8 * j) : Int32).toInt64 &&& 63)) &&& 255) hX dX8_signs_13 rfl rfl ?_
    refine g_lconst (n := 15) (v := 0) hX dX8_signs_14 rfl rfl ?_
    refine g_lcmp (n := 16) hX dX8_signs_15 rfl ?_
    refine g_if_eq (n := 19) (tgt := 27) hX dX8_signs_16 rfl (by decide) (fun c16 => ?_) (fun c16 => ?_)
    · refine g_iinc (n := 30) (v := sk j) (lv' := [(3, .int (sk j)), (0, .ref am), (1, .long s)]) hX dX8_signs_27 rfl rfl (sk_dec j) (by rw [hnL]; rfl) rfl ?_
      refine g_goto (n := 3) hX dX8_signs_30 (by decide) ?_
      refine g_pick (lv' := [(3, .int (sk j)), (0, .ref am), (1, .long s)]) [0, 1, 2] rfl ?_
      exact ih σ (by omega) (hr.le (by omega)) (by rw [sgL, if_pos (lg0.mp c16)] at hk; exact hk)
    · refine g_aload_n (n := 20) hX dX8_signs_19 rfl rfl rfl ?_
      refine g_lload_n (n := 21) hX dX8_signs_20 rfl rfl rfl ?_
      refine g_iload_n (n := 22) hX dX8_signs_21 rfl rfl rfl ?_
      refine g_lshr (n := 23) (v := s >>> ((nI (8 * j) : Int32).toInt64 &&& 63)) hX dX8_signs_22 rfl rfl ?_
      refine g_l2i (n := 24) (v := (s >>> ((nI (8 * j) : Int32).toInt64 &&& 63)).toInt32) hX dX8_signs_23 rfl rfl ?_
      refine g_callV0 (n := 27) (As := [.int ((s >>> ((nI (8 * j) : Int32).toInt64 &&& 63)).toInt32)]) (rest := []) hX hE hU hY dX8_signs_24 rfl yv_X8_u1 um_X8_138 (m_u1 _ _ K am A σ ((s >>> ((nI (8 * j) : Int32).toInt64 &&& 63)).toInt32) (hr.le (by omega))) ⟨rfl, rfl⟩ (rm_le hRm rfl rfl) rfl (ci := 10) (q0 := 0) rfl rfl rfl rfl (Nat.le_of_ble_eq_true rfl) ⟨Nat.zero_le _, Nat.zero_le _⟩ (fun v0 w0 hq0 => ?_)
      obtain ⟨rfl, rfl⟩ := hq0
      show G Γ (mW K am A (ap σ [(s >>> ((nI (8 * j) : Int32).toInt64 &&& 63)).toInt32])) 0 0 27 [(3, .int (nI (8 * j))), (0, .ref am), (1, .long s)] []
      have hr : Lo (ap σ [(s >>> ((nI (8 * j) : Int32).toInt64 &&& 63)).toInt32]) j := hr.app (by show 1 + j ≤ j + 1; omega)
      refine g_iinc (n := 30) (v := sk j) (lv' := [(3, .int (sk j)), (0, .ref am), (1, .long s)]) hX dX8_signs_27 rfl rfl (sk_dec j) (by rw [hnL]; rfl) rfl ?_
      refine g_goto (n := 3) hX dX8_signs_30 (by decide) ?_
      refine g_pick (lv' := [(3, .int (sk j)), (0, .ref am), (1, .long s)]) [0, 1, 2] rfl ?_
      exact ih _ (by omega) hr (by rw [sgL, if_neg (fun h9 => c16 (lg0.mpr h9)), ← ap_ap] at hk; exact hk)
set_option maxHeartbeats 4000000 in
set_option maxRecDepth 100000 in
theorem m_signs (l : Launch) (D : va_G) (K : Nat → ClassId) (am : Nat) (A : Nat → Nat) (σ : MS) (s : Int64) (hr : Lo σ 8) : Mc l yX8_signs (wM yX8_signs cX8_signs 4 none) (rmL 1 0 0) D (yY K) [.ref am, .long s] (mW K am A σ) (fun v w => v = none ∧ w = mW K am A (ap σ (sgL s 8))) 0 0 := by
  refine m_start (lv := [(0, .ref am), (1, .long s)]) rfl (Nat.le_of_ble_eq_true rfl) rfl (fun Γ hX hRm hnL hY hDD hLa hR hI hE => ?_)
  have hU : ∀ w ∈ wU, w ∈ wM yX8_signs cX8_signs 4 none := fun w h => wM_in h
  subst hLa
  subst hDD
  refine g_bipush (n := 2) (v := 56) hX dX8_signs_0 rfl rfl ?_
  refine g_istore_n (lv' := [(3, .int 56), (0, .ref am), (1, .long s)]) (n := 3) hX dX8_signs_2 rfl rfl (by rw [hnL]; rfl) rfl ?_
  refine g_pick (lv' := [(3, .int 56), (0, .ref am), (1, .long s)]) [0, 1, 2] rfl ?_
  refine lp_signs hX hE hRm hnL hY s 8 σ (Nat.le_refl _) hr ?_
  exact g_vret hX hR dX8_signs_33 ⟨rfl, rfl⟩

theorem ap_beyond {σ : MS} {n : Nat} (h : σ.2 29 = nI n) (bs : List Int32) (hb : n + bs.length < 2 ^ 31) {i : Nat} (hi : n + bs.length ≤ i) : (ap σ bs).1 24 i = σ.1 24 i := by
  induction bs generalizing σ n with
  | nil => rfl
  | cons b bs ih =>
    have hb2 : n + (bs.length + 1) < 2 ^ 31 := hb
    have hi2 : n + (bs.length + 1) ≤ i := hi
    have := ih (σ := wr σ b) (n := n + 1) (by show va_up σ.2 29 (σ.2 29 + 1) 29 = _; rw [va_up_self, h, nI_1]) (by omega) (by omega)
    refine this.trans ?_
    show va_up σ.1 24 (upd (σ.1 24) (σ.2 29).toNatClampNeg (b &&& 255)) 24 i = _
    rw [va_up_self, h, nI_clamp (by omega)]
    exact pk_un (by omega)
theorem ap_fld29 {σ : MS} {n : Nat} (h : σ.2 29 = nI n) {as bs : List Int32} (hl : as.length = bs.length) : (ap σ as).2 = (ap σ bs).2 := by
  funext k
  by_cases hk : k = 29
  · rw [hk, ap_len h, ap_len h, hl]
  · rw [ap_fld _ _ hk, ap_fld _ _ hk]
/-- two rows of bytes of one length that agree in the lowest eight bits but at one place, which is set afterwards -/
theorem ap_patch {σ : MS} {n j : Nat} (h : σ.2 29 = nI n) {as bs : List Int32} (hl : as.length = bs.length) (hb : n + as.length < 2 ^ 31) (hj : j < as.length) {x : Int32} (hx : bs.getD j 0 &&& 255 = x) (he : ∀ i, i < as.length → i ≠ j → as.getD i 0 &&& 255 = bs.getD i 0 &&& 255) : sA (ap σ as) 24 (n + j) x = ap σ bs := by
  refine Prod.ext ?_ (ap_fld29 h hl)
  funext q i
  show va_up (ap σ as).1 24 (upd ((ap σ as).1 24) (n + j) x) q i = _
  by_cases hq : q = 24
  · subst hq
    rw [va_up_self]
    by_cases hi : i = n + j
    · subst hi
      rw [pk_us, ap_new h bs (by omega) (by omega), hx]
    · rw [pk_un hi]
      by_cases h1 : i < n
      · rw [ap_old h as hb h1, ap_old h bs (by omega) h1]
      · by_cases h2 : i < n + as.length
        · obtain ⟨d, rfl⟩ : ∃ d, i = n + d := ⟨i - n, by omega⟩
          rw [ap_new h as hb (by omega), ap_new h bs (by omega) (by omega)]
          exact he d (by omega) (by omega)
        · rw [ap_beyond h as hb (by omega), ap_beyond h bs (by omega) (by omega)]
  · rw [va_up_ne _ _ hq, ap_arr _ _ hq, ap_arr _ _ hq]
theorem nI_b255 : ∀ n : Nat, n < 256 → nI n &&& 255 = nI n ∧ nI n >>> ((8 : Int32) &&& 31) &&& 255 = 0 := by decide +kernel
theorem utf_patch {σ : MS} {n : Nat} (h : σ.2 29 = nI n) (hb : n + 19 < 2 ^ 31) (f s : Int64) : sA (ap (ap (ap (ap σ [1]) (b2 0)) (sgL f 8)) (sgL s 8)) 24 (n + 2) (nI ((sgL f 8).length + (sgL s 8).length)) = ap σ (bUtf f s) := by
  have h1 := sgL_len f 8
  have h2 := sgL_len s 8
  have h3 := nI_b255 ((sgL f 8).length + (sgL s 8).length) (by omega)
  rw [ap_ap, ap_ap, ap_ap]
  refine ap_patch h ?_ ?_ ?_ ?_ ?_
  · simp [bUtf, b2]
  · simp [b2]; omega
  · simp [b2]
  · simpa [bUtf, b2] using h3.1
  · intro i hi hne
    match i, hne with
    | 0, _ => simp [bUtf, b2]
    | 1, _ => simpa [bUtf, b2] using h3.2.symm
    | 2, hne => exact absurd rfl hne
    | i + 3, _ => simp [bUtf, b2]
set_option maxHeartbeats 4000000 in
set_option maxRecDepth 100000 in
theorem m_utf (l : Launch) (D : va_G) (K : Nat → ClassId) (am : Nat) (A : Nat → Nat) (σ : MS) (f s : Int64) (hr : Lo σ 19) : Mc l yX8_utf (wM yX8_utf cX8_utf 6 none) (rmL 2 0 0) D (yY K) [.ref am, .long f, .long s] (mW K am A σ) (fun v w => v = none ∧ w = mW K am A (ap σ (bUtf f s))) 0 0 := by
  refine m_start (lv := [(0, .ref am), (1, .long f), (3, .long s)]) rfl (Nat.le_of_ble_eq_true rfl) rfl (fun Γ hX hRm hnL hY hDD hLa hR hI hE => ?_)
  have hU : ∀ w ∈ wU, w ∈ wM yX8_utf cX8_utf 6 none := fun w h => wM_in h
  subst hLa
  subst hDD
  obtain ⟨n, hn, hn2⟩ := id hr
  refine g_aload_n (n := 1) hX dX8_utf_0 rfl rfl rfl ?_
  refine g_iconst (n := 2) (v := 1) hX dX8_utf_1 rfl rfl ?_
  refine g_callV0 (n := 5) (As := [.int 1]) (rest := []) hX hE hU hY dX8_utf_2 rfl yv_X8_u1 um_X8_138 (m_u1 _ _ K am A σ 1 (hr.le (by decide))) ⟨rfl, rfl⟩ (rm_le hRm rfl rfl) rfl (ci := 10) (q0 := 0) rfl rfl rfl rfl (Nat.le_of_ble_eq_true rfl) ⟨Nat.zero_le _, Nat.zero_le _⟩ (fun v0 w0 hq0 => ?_)
  obtain ⟨rfl, rfl⟩ := hq0
  show G Γ (mW K am A (ap σ ([1]))) 0 0 5 [(0, .ref am), (1, .long f), (3, .long s)] []
  have hr : Lo (ap σ ([1])) 18 := hr.app (Nat.le_of_ble_eq_true rfl)
  refine g_aload_n (n := 6) hX dX8_utf_5 rfl rfl rfl ?_
  refine g_mget (n := 9) 29 (v := .int (nI (n + 1))) hX hU dX8_utf_6 rfl uf_X8_135 rfl rfl (congrArg (fun z => some (Value.int z)) (ap_len hn [1])) ?_
  refine g_istore (lv' := [(5, .int (nI (n + 1))), (0, .ref am), (1, .long f), (3, .long s)]) (n := 11) hX dX8_utf_9 rfl (by rw [hnL]; rfl) rfl ?_
  refine g_aload_n (n := 12) hX dX8_utf_11 rfl rfl rfl ?_
  refine g_iconst (n := 13) (v := 0) hX dX8_utf_12 rfl rfl ?_
  refine g_callV0 (n := 16) (As := [.int 0]) (rest := []) hX hE hU hY dX8_utf_13 rfl yv_X8_u2 um_X8_142 (m_u2 _ _ K am A (ap σ ([1])) 0 (hr.le (by decide))) ⟨rfl, rfl⟩ (rm_le hRm rfl rfl) rfl (ci := 10) (q0 := 0) rfl rfl rfl rfl (Nat.le_of_ble_eq_true rfl) ⟨Nat.zero_le _, Nat.zero_le _⟩ (fun v0 w0 hq0 => ?_)
  obtain ⟨rfl, rfl⟩ := hq0
  show G Γ (mW K am A (ap (ap σ ([1])) (b2 0))) 0 0 16 [(5, .int (nI (n + 1))), (0, .ref am), (1, .long f), (3, .long s)] []
  have hr : Lo (ap (ap σ ([1])) (b2 0)) 16 := hr.app (Nat.le_of_ble_eq_true rfl)
  refine g_aload_n (n := 17) hX dX8_utf_16 rfl rfl rfl ?_
  refine g_lload_n (n := 18) hX dX8_utf_17 rfl rfl rfl ?_
  refine g_callV0 (n := 21) (As := [.long f]) (rest := []) hX hE hU hY dX8_utf_18 rfl yv_X8_signs um_X8_145 (m_signs _ _ K am A (ap (ap σ ([1])) (b2 0)) f (hr.le (by decide))) ⟨rfl, rfl⟩ (rm_le hRm rfl rfl) rfl (ci := 10) (q0 := 0) rfl rfl rfl rfl (Nat.le_of_ble_eq_true rfl) ⟨Nat.zero_le _, Nat.zero_le _⟩ (fun v0 w0 hq0 => ?_)
  obtain ⟨rfl, rfl⟩ := hq0
  show G Γ (mW K am A (ap (ap (ap σ ([1])) (b2 0)) (sgL f 8))) 0 0 21 [(5, .int (nI (n + 1))), (0, .ref am), (1, .long f), (3, .long s)] []
  have hr : Lo (ap (ap (ap σ ([1])) (b2 0)) (sgL f 8)) 8 := hr.app (by have := sgL_len f 8; omega)
  refine g_aload_n (n := 22) hX dX8_utf_21 rfl rfl rfl ?_
  refine g_lload_n (n := 23) hX dX8_utf_22 rfl rfl rfl ?_
  refine g_callV0 (n := 26) (As := [.long s]) (rest := []) hX hE hU hY dX8_utf_23 rfl yv_X8_signs um_X8_145 (m_signs _ _ K am A (ap (ap (ap σ ([1])) (b2 0)) (sgL f 8)) s (hr.le (by decide))) ⟨rfl, rfl⟩ (rm_le hRm rfl rfl) rfl (ci := 10) (q0 := 0) rfl rfl rfl rfl (Nat.le_of_ble_eq_true rfl) ⟨Nat.zero_le _, Nat.zero_le _⟩ (fun v0 w0 hq0 => ?_)
  obtain ⟨rfl, rfl⟩ := hq0
  show G Γ (mW K am A (ap (ap (ap (ap σ ([1])) (b2 0)) (sgL f 8)) (sgL s 8))) 0 0 26 [(5, .int (nI (n + 1))), (0, .ref am), (1, .long f), (3, .long s)] []
  have hr : Lo (ap (ap (ap (ap σ ([1])) (b2 0)) (sgL f 8)) (sgL s 8)) 0 := hr.app (by have := sgL_len s 8; omega)
  refine g_aload_n (n := 27) hX dX8_utf_26 rfl rfl rfl ?_
  refine g_mget (n := 30) 30 (v := .ref (A 24)) hX hU dX8_utf_27 rfl uf_X8_84 rfl rfl rfl ?_
  refine g_iload (n := 32) hX dX8_utf_30 rfl rfl ?_
  refine g_iconst (n := 33) (v := 1) hX dX8_utf_32 rfl rfl ?_
  refine g_iadd (n := 34) (v := nI (n + 2)) hX dX8_utf_33 rfl (nI_add _ 1) ?_
  refine g_aload_n (n := 35) hX dX8_utf_34 rfl rfl rfl ?_
  refine g_mget (n := 38) 29 (v := .int (nI (n + 3 + (sgL f 8).length + (sgL s 8).length))) hX hU dX8_utf_35 rfl uf_X8_135 rfl rfl (congrArg (fun z => some (Value.int z)) (ap_len (ap_len (ap_len (ap_len hn [1]) (b2 0)) (sgL f 8)) (sgL s 8))) ?_
  refine g_iload (n := 40) hX dX8_utf_38 rfl rfl ?_
  refine g_isub (n := 41) (v := nI (2 + (sgL f 8).length + (sgL s 8).length)) hX dX8_utf_40 rfl (by rw [pk_sub (by omega)]; congr 1; omega) ?_
  refine g_iconst (n := 42) (v := 2) hX dX8_utf_41 rfl rfl ?_
  refine g_isub (n := 43) (v := nI ((sgL f 8).length + (sgL s 8).length)) hX dX8_utf_42 rfl (by rw [show (2 : Int32) = nI 2 from rfl, pk_sub (by omega)]; congr 1; omega) ?_
  refine g_mist (n := 44) 24 (i0 := n + 2) hX hY dX8_utf_43 rfl rfl rfl (vp_in_nI (show n + 2 < mN 24 by show n + 2 < 3000; omega) (by decide)) (nI_clamp (by omega)) ?_
  exact g_vret hX hR dX8_utf_44 ⟨rfl, by rw [utf_patch hn (by omega)]⟩

