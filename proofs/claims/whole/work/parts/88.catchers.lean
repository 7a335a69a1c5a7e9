theorem l_dm1 (a : Int64) : a / (-1) = 0 - a := by
  apply Int64.toInt_inj.mp
  rw [Int64.toInt_div, Int64.toInt_sub]
  simp
theorem l_rm1 (a : Int64) : a - a / (-1) * (-1) = 0 := by
  rw [l_dm1]
  have h : (0 - a) * (-1) = a := by simp [Int64.neg_mul, Int64.mul_neg]
  rw [h]
  simp
section GMML
variable {Γ : gT} {ws : va_W} {kc ks pc n : Nat} {lv : List (Nat × Value)} {rest : List Value} {cc : ByteArray} {Ts : List Cond} {own : String}
theorem g_mminL {index : Nat} {x y : Int64} (h : gOk Γ cc Ts own) (hU : ∀ w ∈ wU, w ∈ Ts) (hdg : decode cc pc = .ok (.invokestatic index, 3)) (hn : pc + 3 = n) (hlk : Cond.methodLink own index yJ9_min_f86c9 ∈ wU) (hf : 1 ≤ (gRm Γ).frames) (hlo : (rest.map fun v => v.category).sum + 15 ≤ (gRm Γ).locals) (hc : kc ≤ (gRm Γ).cells) (hs : ks ≤ (gRm Γ).slots) (k : G Γ ws kc ks n lv (.long (if y < x then y else x) :: rest)) : G Γ ws kc ks pc lv (.long y :: .long x :: rest) := by
  obtain ⟨p, l, e, R, s, m, args, below, meth, c, D, Y, A, Q, nL⟩ := Γ
  obtain ⟨⟨hx, hb, hml, hown, hts⟩, hK, hA⟩ := h
  subst hn
  intro H locs ls hP hD hS hl
  exact va_mmin_long hx hb (by rw [hml]; exact hl.1.symm) hown (hts _ (hU _ hlk)) (hts _ (hU _ ust_J9_min_f86c9)) (hts _ (hU _ un_J9)) (hts _ (hU _ uc_J9_min_f86c9)) hf hlo hc hs hdg (k H locs ls hP hD hS hl)
end GMML
set_option maxHeartbeats 4000000 in
set_option maxRecDepth 100000 in
theorem F_plain (l : Launch) (D : va_G) (K : Nat → ClassId) (hst : l.stackTraces = false) (L : List Nat) (f : Nat → va_E) (ad : AD) (κ : TG) (g : GX) (σ : MS) (o : Int32) (a b : Int64) (hQ : RX K L f ad κ g σ 0) : McX l yX7_plain (wM yX7_plain cX7_plain 6 (some .long)) (rmL 7 1 6) D (yY K) [.ref (ad 0 0 0), .int o, .long a, .long b] (va_pl L f) (fun v w => (S_plain σ o a b).2.2 0 = 0 ∧ v = some (.long (S_plain σ o a b).1) ∧ RW K (ad 0 0 0) (S_plain σ o a b).2 w) (fun E w => ((E = aC ∧ (S_plain σ o a b).2.2 0 = 1) ∨ (E = nC ∧ (S_plain σ o a b).2.2 0 = 2)) ∧ RW K (ad 0 0 0) (S_plain σ o a b).2 w) 1 6 := by
  refine mx_start (lv := [(0, .ref (ad 0 0 0)), (1, .int o), (2, .long a), (4, .long b)]) rfl (Nat.le_of_ble_eq_true rfl) rfl (fun Γ hX hRm hnL hY hDD hLa hR hB hE hT => ?_)
  have hU : ∀ w ∈ wU, w ∈ wM yX7_plain cX7_plain 6 (some .long) := fun w h => wM_in h
  subst hLa
  subst hDD
  have hP := hQ.1
  have hL := hQ.2.1
  have hI := hQ.2.2
  rcases sw_split o 0 5 with hsw | hsw
  · have hPT : plT o a b = 0 := by unfold plT; rw [if_neg (fun h9 => h9.1.elim (fun h9 : o = 3 => by rw [h9] at hsw; revert hsw; decide) (fun h9 : o = 4 => by rw [h9] at hsw; revert hsw; decide)), if_neg (fun h9 => (fun h9 : o = 5 => by rw [h9] at hsw; revert hsw; decide) h9.1)]
    have hS : S_plain σ o a b = (0, sF σ 0 0) := by unfold S_plain plV; rw [if_pos hPT, if_neg (fun h9 : o = 0 => by rw [h9] at hsw; revert hsw; decide), if_neg (fun h9 : o = 1 => by rw [h9] at hsw; revert hsw; decide), if_neg (fun h9 : o = 2 => by rw [h9] at hsw; revert hsw; decide), if_neg (fun h9 : o = 3 => by rw [h9] at hsw; revert hsw; decide), if_neg (fun h9 : o = 4 => by rw [h9] at hsw; revert hsw; decide), if_neg (fun h9 : o = 5 => by rw [h9] at hsw; revert hsw; decide)]
    refine g_iload_n (n := 1) hX dX7_plain_0 rfl rfl rfl ?_
    refine g_iconst (n := 2) (v := 3) hX dX7_plain_1 rfl rfl ?_
    refine g_icmp_eq (n := 5) (tgt := 10) hX dX7_plain_2 rfl (by decide) (fun c2 => absurd c2 (fun h9 : o = 3 => by rw [h9] at hsw; revert hsw; decide)) (fun c2 => ?_)
    refine g_iload_n (n := 6) hX dX7_plain_5 rfl rfl rfl ?_
    refine g_iconst (n := 7) (v := 4) hX dX7_plain_6 rfl rfl ?_
    refine g_icmp_ne (n := 10) (tgt := 27) hX dX7_plain_7 rfl (by decide) (fun c7 => ?_) (fun c7 => absurd c7 (fun h9 : o = 4 => by rw [h9] at hsw; revert hsw; decide))
    refine g_iload_n (n := 28) hX dX7_plain_27 rfl rfl rfl ?_
    refine g_iconst (n := 29) (v := 5) hX dX7_plain_28 rfl rfl ?_
    refine g_icmp_ne (n := 32) (tgt := 48) hX dX7_plain_29 rfl (by decide) (fun c29 => ?_) (fun c29 => absurd c29 (fun h9 : o = 5 => by rw [h9] at hsw; revert hsw; decide))
    refine g_iload_n (n := 49) hX dX7_plain_48 rfl rfl rfl ?_
    refine g_tableOut (n := 121) hX dX7_plain_49 hsw (by decide) ?_
    refine g_lconst (n := 122) (v := 0) hX dX7_plain_121 rfl rfl ?_
    refine g_widen (kc' := 1) (ks' := 6) (Nat.le_of_ble_eq_true rfl) (Nat.le_of_ble_eq_true rfl) ?_
    exact gx_lret hX hR dX7_plain_122 ⟨by rw [hS]; rfl, by rw [hS], by rw [hS]; exact RW_rd hQ (cor_F0 σ 0)⟩
  · obtain ⟨kz, hk1, hk2⟩ := hsw
    rcases (show kz = 0 ∨ kz = 1 ∨ kz = 2 ∨ kz = 3 ∨ kz = 4 ∨ kz = 5 by omega) with hkz | hkz | hkz | hkz | hkz | hkz
    · obtain rfl : o = (0 : Int32) := sw_val (hkz ▸ hk1) (by decide)
      have hPT : plT 0 a b = 0 := (by unfold plT; rw [if_neg (fun h9 => by rcases h9.1 with h8 | h8 <;> exact absurd h8 (by decide)), if_neg (fun h9 => absurd h9.1 (by decide))])
      have hS : S_plain σ 0 a b = (plV 0 a b, sF σ 0 0) := by unfold S_plain; rw [if_pos hPT]
      refine g_iload_n (n := 1) hX dX7_plain_0 rfl rfl rfl ?_
      refine g_iconst (n := 2) (v := 3) hX dX7_plain_1 rfl rfl ?_
      refine g_icmp_eq (n := 5) (tgt := 10) hX dX7_plain_2 rfl (by decide) (fun c2 => absurd c2 (by decide)) (fun c2 => ?_)
      refine g_iload_n (n := 6) hX dX7_plain_5 rfl rfl rfl ?_
      refine g_iconst (n := 7) (v := 4) hX dX7_plain_6 rfl rfl ?_
      refine g_icmp_ne (n := 10) (tgt := 27) hX dX7_plain_7 rfl (by decide) (fun c7 => ?_) (fun c7 => absurd c7 (by decide))
      refine g_iload_n (n := 28) hX dX7_plain_27 rfl rfl rfl ?_
      refine g_iconst (n := 29) (v := 5) hX dX7_plain_28 rfl rfl ?_
      refine g_icmp_ne (n := 32) (tgt := 48) hX dX7_plain_29 rfl (by decide) (fun c29 => ?_) (fun c29 => absurd c29 (by decide))
      refine g_iload_n (n := 49) hX dX7_plain_48 rfl rfl rfl ?_
      refine g_tableIn (n := 88) (off := 39) hX dX7_plain_49 (by rw [(rfl : (0 : Int32) = 0)]; decide) (by rw [(rfl : (0 : Int32) = 0)]; decide) (by rw [(rfl : (0 : Int32) = 0)]; rfl) (by decide) ?_
      refine g_lload_n (n := 89) hX dX7_plain_88 rfl rfl rfl ?_
      refine g_lload (n := 91) hX dX7_plain_89 rfl rfl ?_
      refine g_ladd (n := 92) (v := a + b) hX dX7_plain_91 rfl rfl ?_
      refine g_widen (kc' := 1) (ks' := 6) (Nat.le_of_ble_eq_true rfl) (Nat.le_of_ble_eq_true rfl) ?_
      exact gx_lret hX hR dX7_plain_92 ⟨by rw [hS]; rfl, by rw [hS]; rfl, by rw [hS]; exact RW_rd hQ (cor_F0 σ 0)⟩
    · obtain rfl : o = (1 : Int32) := sw_val (hkz ▸ hk1) (by decide)
      have hPT : plT 1 a b = 0 := (by unfold plT; rw [if_neg (fun h9 => by rcases h9.1 with h8 | h8 <;> exact absurd h8 (by decide)), if_neg (fun h9 => absurd h9.1 (by decide))])
      have hS : S_plain σ 1 a b = (plV 1 a b, sF σ 0 0) := by unfold S_plain; rw [if_pos hPT]
      refine g_iload_n (n := 1) hX dX7_plain_0 rfl rfl rfl ?_
      refine g_iconst (n := 2) (v := 3) hX dX7_plain_1 rfl rfl ?_
      refine g_icmp_eq (n := 5) (tgt := 10) hX dX7_plain_2 rfl (by decide) (fun c2 => absurd c2 (by decide)) (fun c2 => ?_)
      refine g_iload_n (n := 6) hX dX7_plain_5 rfl rfl rfl ?_
      refine g_iconst (n := 7) (v := 4) hX dX7_plain_6 rfl rfl ?_
      refine g_icmp_ne (n := 10) (tgt := 27) hX dX7_plain_7 rfl (by decide) (fun c7 => ?_) (fun c7 => absurd c7 (by decide))
      refine g_iload_n (n := 28) hX dX7_plain_27 rfl rfl rfl ?_
      refine g_iconst (n := 29) (v := 5) hX dX7_plain_28 rfl rfl ?_
      refine g_icmp_ne (n := 32) (tgt := 48) hX dX7_plain_29 rfl (by decide) (fun c29 => ?_) (fun c29 => absurd c29 (by decide))
      refine g_iload_n (n := 49) hX dX7_plain_48 rfl rfl rfl ?_
      refine g_tableIn (n := 93) (off := 44) hX dX7_plain_49 (by rw [(rfl : (1 : Int32) = 1)]; decide) (by rw [(rfl : (1 : Int32) = 1)]; decide) (by rw [(rfl : (1 : Int32) = 1)]; rfl) (by decide) ?_
      refine g_lload_n (n := 94) hX dX7_plain_93 rfl rfl rfl ?_
      refine g_lload (n := 96) hX dX7_plain_94 rfl rfl ?_
      refine g_lsub (n := 97) (v := a - b) hX dX7_plain_96 rfl rfl ?_
      refine g_widen (kc' := 1) (ks' := 6) (Nat.le_of_ble_eq_true rfl) (Nat.le_of_ble_eq_true rfl) ?_
      exact gx_lret hX hR dX7_plain_97 ⟨by rw [hS]; rfl, by rw [hS]; rfl, by rw [hS]; exact RW_rd hQ (cor_F0 σ 0)⟩
    · obtain rfl : o = (2 : Int32) := sw_val (hkz ▸ hk1) (by decide)
      have hPT : plT 2 a b = 0 := (by unfold plT; rw [if_neg (fun h9 => by rcases h9.1 with h8 | h8 <;> exact absurd h8 (by decide)), if_neg (fun h9 => absurd h9.1 (by decide))])
      have hS : S_plain σ 2 a b = (plV 2 a b, sF σ 0 0) := by unfold S_plain; rw [if_pos hPT]
      refine g_iload_n (n := 1) hX dX7_plain_0 rfl rfl rfl ?_
      refine g_iconst (n := 2) (v := 3) hX dX7_plain_1 rfl rfl ?_
      refine g_icmp_eq (n := 5) (tgt := 10) hX dX7_plain_2 rfl (by decide) (fun c2 => absurd c2 (by decide)) (fun c2 => ?_)
      refine g_iload_n (n := 6) hX dX7_plain_5 rfl rfl rfl ?_
      refine g_iconst (n := 7) (v := 4) hX dX7_plain_6 rfl rfl ?_
      refine g_icmp_ne (n := 10) (tgt := 27) hX dX7_plain_7 rfl (by decide) (fun c7 => ?_) (fun c7 => absurd c7 (by decide))
      refine g_iload_n (n := 28) hX dX7_plain_27 rfl rfl rfl ?_
      refine g_iconst (n := 29) (v := 5) hX dX7_plain_28 rfl rfl ?_
      refine g_icmp_ne (n := 32) (tgt := 48) hX dX7_plain_29 rfl (by decide) (fun c29 => ?_) (fun c29 => absurd c29 (by decide))
      refine g_iload_n (n := 49) hX dX7_plain_48 rfl rfl rfl ?_
      refine g_tableIn (n := 98) (off := 49) hX dX7_plain_49 (by rw [(rfl : (2 : Int32) = 2)]; decide) (by rw [(rfl : (2 : Int32) = 2)]; decide) (by rw [(rfl : (2 : Int32) = 2)]; rfl) (by decide) ?_
      refine g_lload_n (n := 99) hX dX7_plain_98 rfl rfl rfl ?_
      refine g_lload (n := 101) hX dX7_plain_99 rfl rfl ?_
      refine g_lmul (n := 102) (v := a * b) hX dX7_plain_101 rfl rfl ?_
      refine g_widen (kc' := 1) (ks' := 6) (Nat.le_of_ble_eq_true rfl) (Nat.le_of_ble_eq_true rfl) ?_
      exact gx_lret hX hR dX7_plain_102 ⟨by rw [hS]; rfl, by rw [hS]; rfl, by rw [hS]; exact RW_rd hQ (cor_F0 σ 0)⟩
    · obtain rfl : o = (3 : Int32) := sw_val (hkz ▸ hk1) (by decide)
      by_cases hb : b = 0
      · have hPT : plT 3 a b = 1 := (by unfold plT; rw [if_pos ⟨Or.inl rfl, hb⟩])
        have hS : S_plain σ 3 a b = (0, sF σ 0 1) := by unfold S_plain; rw [if_neg (by rw [hPT]; decide), hPT]
        refine g_iload_n (n := 1) hX dX7_plain_0 rfl rfl rfl ?_
        refine g_iconst (n := 2) (v := 3) hX dX7_plain_1 rfl rfl ?_
        refine g_icmp_eq (n := 5) (tgt := 10) hX dX7_plain_2 rfl (by decide) (fun c2 => ?_) (fun c2 => absurd rfl c2)
        refine g_lload (n := 12) hX dX7_plain_10 rfl rfl ?_
        refine g_lconst (n := 13) (v := 0) hX dX7_plain_12 rfl rfl ?_
        refine g_lcmp (n := 14) hX dX7_plain_13 rfl ?_
        refine g_if_ne (n := 17) (tgt := 27) hX dX7_plain_14 rfl (by decide) (fun c14 => absurd (lg0.mpr hb) c14) (fun c14 => ?_)
        exact gx_throw (cls := aC) (names := ["java/lang/RuntimeException", "java/lang/Exception"]) 16 hX hU hst hE hT hR hB rfl fitZ namZ ul_aC un_aC atwZ atbZ gooZ dX7_plain_17 dX7_plain_20 dX7_plain_21 dX7_plain_23 dX7_plain_26 (by rw [hRm]; decide) (by rw [hRm]; decide) (by rw [hRm]; decide) (by rw [hRm]; decide) (by decide) (by decide) ⟨Or.inl ⟨rfl, by rw [hS]; rfl⟩, by rw [hS]; exact RW_rd hQ (cor_F0 σ 1)⟩
      · have hPT : plT 3 a b = 0 := (by unfold plT; rw [if_neg (fun h9 => hb h9.2), if_neg (fun h9 => absurd h9.1 (by decide))])
        have hS : S_plain σ 3 a b = (plV 3 a b, sF σ 0 0) := by unfold S_plain; rw [if_pos hPT]
        have hpv : plV 3 a b = a / b := by
          show (if b = -1 then 0 - a else a / b) = _
          by_cases h1 : b = -1
          · rw [if_pos h1, h1]; exact (l_dm1 a).symm
          · rw [if_neg h1]
        refine g_iload_n (n := 1) hX dX7_plain_0 rfl rfl rfl ?_
        refine g_iconst (n := 2) (v := 3) hX dX7_plain_1 rfl rfl ?_
        refine g_icmp_eq (n := 5) (tgt := 10) hX dX7_plain_2 rfl (by decide) (fun c2 => ?_) (fun c2 => absurd rfl c2)
        refine g_lload (n := 12) hX dX7_plain_10 rfl rfl ?_
        refine g_lconst (n := 13) (v := 0) hX dX7_plain_12 rfl rfl ?_
        refine g_lcmp (n := 14) hX dX7_plain_13 rfl ?_
        refine g_if_ne (n := 17) (tgt := 27) hX dX7_plain_14 rfl (by decide) (fun c14 => ?_) (fun c14 => absurd c14 (fun h9 => hb (lg0.mp h9)))
        refine g_iload_n (n := 28) hX dX7_plain_27 rfl rfl rfl ?_
        refine g_iconst (n := 29) (v := 5) hX dX7_plain_28 rfl rfl ?_
        refine g_icmp_ne (n := 32) (tgt := 48) hX dX7_plain_29 rfl (by decide) (fun c29 => ?_) (fun c29 => absurd c29 (by decide))
        refine g_iload_n (n := 49) hX dX7_plain_48 rfl rfl rfl ?_
        refine g_tableIn (n := 103) (off := 54) hX dX7_plain_49 (by rw [(rfl : (3 : Int32) = 3)]; decide) (by rw [(rfl : (3 : Int32) = 3)]; decide) (by rw [(rfl : (3 : Int32) = 3)]; rfl) (by decide) ?_
        refine g_lload_n (n := 104) hX dX7_plain_103 rfl rfl rfl ?_
        refine g_lload (n := 106) hX dX7_plain_104 rfl rfl ?_
        refine g_ldiv (n := 107) (v := a / b) hX dX7_plain_106 rfl hb rfl ?_
        refine g_widen (kc' := 1) (ks' := 6) (Nat.le_of_ble_eq_true rfl) (Nat.le_of_ble_eq_true rfl) ?_
        exact gx_lret hX hR dX7_plain_107 ⟨by rw [hS]; rfl, by rw [hS]; rw [hpv], by rw [hS]; exact RW_rd hQ (cor_F0 σ 0)⟩
    · obtain rfl : o = (4 : Int32) := sw_val (hkz ▸ hk1) (by decide)
      by_cases hb : b = 0
      · have hPT : plT 4 a b = 1 := (by unfold plT; rw [if_pos ⟨Or.inr rfl, hb⟩])
        have hS : S_plain σ 4 a b = (0, sF σ 0 1) := by unfold S_plain; rw [if_neg (by rw [hPT]; decide), hPT]
        refine g_iload_n (n := 1) hX dX7_plain_0 rfl rfl rfl ?_
        refine g_iconst (n := 2) (v := 3) hX dX7_plain_1 rfl rfl ?_
        refine g_icmp_eq (n := 5) (tgt := 10) hX dX7_plain_2 rfl (by decide) (fun c2 => absurd c2 (by decide)) (fun c2 => ?_)
        refine g_iload_n (n := 6) hX dX7_plain_5 rfl rfl rfl ?_
        refine g_iconst (n := 7) (v := 4) hX dX7_plain_6 rfl rfl ?_
        refine g_icmp_ne (n := 10) (tgt := 27) hX dX7_plain_7 rfl (by decide) (fun c7 => absurd rfl c7) (fun c7 => ?_)
        refine g_lload (n := 12) hX dX7_plain_10 rfl rfl ?_
        refine g_lconst (n := 13) (v := 0) hX dX7_plain_12 rfl rfl ?_
        refine g_lcmp (n := 14) hX dX7_plain_13 rfl ?_
        refine g_if_ne (n := 17) (tgt := 27) hX dX7_plain_14 rfl (by decide) (fun c14 => absurd (lg0.mpr hb) c14) (fun c14 => ?_)
        exact gx_throw (cls := aC) (names := ["java/lang/RuntimeException", "java/lang/Exception"]) 16 hX hU hst hE hT hR hB rfl fitZ namZ ul_aC un_aC atwZ atbZ gooZ dX7_plain_17 dX7_plain_20 dX7_plain_21 dX7_plain_23 dX7_plain_26 (by rw [hRm]; decide) (by rw [hRm]; decide) (by rw [hRm]; decide) (by rw [hRm]; decide) (by decide) (by decide) ⟨Or.inl ⟨rfl, by rw [hS]; rfl⟩, by rw [hS]; exact RW_rd hQ (cor_F0 σ 1)⟩
      · have hPT : plT 4 a b = 0 := (by unfold plT; rw [if_neg (fun h9 => hb h9.2), if_neg (fun h9 => absurd h9.1 (by decide))])
        have hS : S_plain σ 4 a b = (plV 4 a b, sF σ 0 0) := by unfold S_plain; rw [if_pos hPT]
        have hpv : plV 4 a b = a - a / b * b := by
          show (if b = -1 then 0 else a - a / b * b) = _
          by_cases h1 : b = -1
          · rw [if_pos h1, h1]; exact (l_rm1 a).symm
          · rw [if_neg h1]
        refine g_iload_n (n := 1) hX dX7_plain_0 rfl rfl rfl ?_
        refine g_iconst (n := 2) (v := 3) hX dX7_plain_1 rfl rfl ?_
        refine g_icmp_eq (n := 5) (tgt := 10) hX dX7_plain_2 rfl (by decide) (fun c2 => absurd c2 (by decide)) (fun c2 => ?_)
        refine g_iload_n (n := 6) hX dX7_plain_5 rfl rfl rfl ?_
        refine g_iconst (n := 7) (v := 4) hX dX7_plain_6 rfl rfl ?_
        refine g_icmp_ne (n := 10) (tgt := 27) hX dX7_plain_7 rfl (by decide) (fun c7 => absurd rfl c7) (fun c7 => ?_)
        refine g_lload (n := 12) hX dX7_plain_10 rfl rfl ?_
        refine g_lconst (n := 13) (v := 0) hX dX7_plain_12 rfl rfl ?_
        refine g_lcmp (n := 14) hX dX7_plain_13 rfl ?_
        refine g_if_ne (n := 17) (tgt := 27) hX dX7_plain_14 rfl (by decide) (fun c14 => ?_) (fun c14 => absurd c14 (fun h9 => hb (lg0.mp h9)))
        refine g_iload_n (n := 28) hX dX7_plain_27 rfl rfl rfl ?_
        refine g_iconst (n := 29) (v := 5) hX dX7_plain_28 rfl rfl ?_
        refine g_icmp_ne (n := 32) (tgt := 48) hX dX7_plain_29 rfl (by decide) (fun c29 => ?_) (fun c29 => absurd c29 (by decide))
        refine g_iload_n (n := 49) hX dX7_plain_48 rfl rfl rfl ?_
        refine g_tableIn (n := 108) (off := 59) hX dX7_plain_49 (by rw [(rfl : (4 : Int32) = 4)]; decide) (by rw [(rfl : (4 : Int32) = 4)]; decide) (by rw [(rfl : (4 : Int32) = 4)]; rfl) (by decide) ?_
        refine g_lload_n (n := 109) hX dX7_plain_108 rfl rfl rfl ?_
        refine g_lload (n := 111) hX dX7_plain_109 rfl rfl ?_
        refine g_lrem (n := 112) (v := a - a / b * b) hX dX7_plain_111 rfl hb rfl ?_
        refine g_widen (kc' := 1) (ks' := 6) (Nat.le_of_ble_eq_true rfl) (Nat.le_of_ble_eq_true rfl) ?_
        exact gx_lret hX hR dX7_plain_112 ⟨by rw [hS]; rfl, by rw [hS]; rw [hpv], by rw [hS]; exact RW_rd hQ (cor_F0 σ 0)⟩
    · obtain rfl : o = (5 : Int32) := sw_val (hkz ▸ hk1) (by decide)
      by_cases ha : a < 0
      · have hPT : plT 5 a b = 2 := (by unfold plT; rw [if_neg (fun h9 => by rcases h9.1 with h8 | h8 <;> exact absurd h8 (by decide)), if_pos ⟨rfl, ha⟩])
        have hS : S_plain σ 5 a b = (0, sF σ 0 2) := by unfold S_plain; rw [if_neg (by rw [hPT]; decide), hPT]
        refine g_iload_n (n := 1) hX dX7_plain_0 rfl rfl rfl ?_
        refine g_iconst (n := 2) (v := 3) hX dX7_plain_1 rfl rfl ?_
        refine g_icmp_eq (n := 5) (tgt := 10) hX dX7_plain_2 rfl (by decide) (fun c2 => absurd c2 (by decide)) (fun c2 => ?_)
        refine g_iload_n (n := 6) hX dX7_plain_5 rfl rfl rfl ?_
        refine g_iconst (n := 7) (v := 4) hX dX7_plain_6 rfl rfl ?_
        refine g_icmp_ne (n := 10) (tgt := 27) hX dX7_plain_7 rfl (by decide) (fun c7 => ?_) (fun c7 => absurd c7 (by decide))
        refine g_iload_n (n := 28) hX dX7_plain_27 rfl rfl rfl ?_
        refine g_iconst (n := 29) (v := 5) hX dX7_plain_28 rfl rfl ?_
        refine g_icmp_ne (n := 32) (tgt := 48) hX dX7_plain_29 rfl (by decide) (fun c29 => absurd rfl c29) (fun c29 => ?_)
        refine g_lload_n (n := 33) hX dX7_plain_32 rfl rfl rfl ?_
        refine g_lconst (n := 34) (v := 0) hX dX7_plain_33 rfl rfl ?_
        refine g_lcmp (n := 35) hX dX7_plain_34 rfl ?_
        refine g_if_ge (n := 38) (tgt := 48) hX dX7_plain_35 rfl (by decide) (fun c35 => absurd c35 (fun h9 => absurd ha (Int64.not_lt.mpr ((lg_cmp_ge a 0).mp h9)))) (fun c35 => ?_)
        exact gx_throw (cls := RJxde1cd) (names := ["java/lang/RuntimeException", "java/lang/Exception"]) 17 hX hU hst hE hT hR hB rfl fitN namN ul_X7_150 un_Jxde1cd atwN atbN gooN dX7_plain_38 dX7_plain_41 dX7_plain_42 dX7_plain_44 dX7_plain_47 (by rw [hRm]; decide) (by rw [hRm]; decide) (by rw [hRm]; decide) (by rw [hRm]; decide) (by decide) (by decide) ⟨Or.inr ⟨rfl, by rw [hS]; rfl⟩, by rw [hS]; exact RW_rd hQ (cor_F0 σ 2)⟩
      · have hPT : plT 5 a b = 0 := (by unfold plT; rw [if_neg (fun h9 => by rcases h9.1 with h8 | h8 <;> exact absurd h8 (by decide)), if_neg (fun h9 => ha h9.2)])
        have hS : S_plain σ 5 a b = (plV 5 a b, sF σ 0 0) := by unfold S_plain; rw [if_pos hPT]
        refine g_iload_n (n := 1) hX dX7_plain_0 rfl rfl rfl ?_
        refine g_iconst (n := 2) (v := 3) hX dX7_plain_1 rfl rfl ?_
        refine g_icmp_eq (n := 5) (tgt := 10) hX dX7_plain_2 rfl (by decide) (fun c2 => absurd c2 (by decide)) (fun c2 => ?_)
        refine g_iload_n (n := 6) hX dX7_plain_5 rfl rfl rfl ?_
        refine g_iconst (n := 7) (v := 4) hX dX7_plain_6 rfl rfl ?_
        refine g_icmp_ne (n := 10) (tgt := 27) hX dX7_plain_7 rfl (by decide) (fun c7 => ?_) (fun c7 => absurd c7 (by decide))
        refine g_iload_n (n := 28) hX dX7_plain_27 rfl rfl rfl ?_
        refine g_iconst (n := 29) (v := 5) hX dX7_plain_28 rfl rfl ?_
        refine g_icmp_ne (n := 32) (tgt := 48) hX dX7_plain_29 rfl (by decide) (fun c29 => absurd rfl c29) (fun c29 => ?_)
        refine g_lload_n (n := 33) hX dX7_plain_32 rfl rfl rfl ?_
        refine g_lconst (n := 34) (v := 0) hX dX7_plain_33 rfl rfl ?_
        refine g_lcmp (n := 35) hX dX7_plain_34 rfl ?_
        refine g_if_ge (n := 38) (tgt := 48) hX dX7_plain_35 rfl (by decide) (fun c35 => ?_) (fun c35 => absurd ((lg_cmp_ge a 0).mpr (Int64.not_lt.mp ha)) c35)
        refine g_iload_n (n := 49) hX dX7_plain_48 rfl rfl rfl ?_
        refine g_tableIn (n := 113) (off := 64) hX dX7_plain_49 (by rw [(rfl : (5 : Int32) = 5)]; decide) (by rw [(rfl : (5 : Int32) = 5)]; decide) (by rw [(rfl : (5 : Int32) = 5)]; rfl) (by decide) ?_
        refine g_lload_n (n := 114) hX dX7_plain_113 rfl rfl rfl ?_
        refine g_ldc2 (n := 117) (v := 1000) hX dX7_plain_114 rfl (hU _ uk_X7_155) ?_
        refine g_mminL (n := 120) hX hU dX7_plain_117 rfl um_X7_157 (by rw [hRm]; decide) (by rw [hRm]; exact Nat.le_of_ble_eq_true rfl) (by rw [hRm]; exact Nat.zero_le _) (by rw [hRm]; exact Nat.zero_le _) ?_
        refine g_widen (kc' := 1) (ks' := 6) (Nat.le_of_ble_eq_true rfl) (Nat.le_of_ble_eq_true rfl) ?_
        exact gx_lret hX hR dX7_plain_120 ⟨by rw [hS]; rfl, by rw [hS]; rfl, by rw [hS]; exact RW_rd hQ (cor_F0 σ 0)⟩

theorem cas_A : Cond.castable RJx00060 RJx00060 ∈ tB := by decide +kernel
theorem cas_Z : Cond.castable aC aC ∈ tB := by decide +kernel
theorem cas_N : Cond.castable nC nC ∈ tB := by decide +kernel
theorem ysw_at : ySW yL_at cL_at 6 (some .int) [(0, 12, 15, 13)] 5 := ⟨by decide +kernel, by decide +kernel, by decide +kernel, by decide +kernel⟩
theorem ysw_octet : ySW yL_octet cL_octet 5 (some .int) [(0, 10, 13, 13)] 4 := ⟨by decide +kernel, by decide +kernel, by decide +kernel, by decide +kernel⟩
theorem ysw_plain : ySW yL_plain cL_plain 8 (some .int) [(0, 12, 15, 23), (0, 12, 19, 25)] 5 := ⟨by decide +kernel, by decide +kernel, by decide +kernel, by decide +kernel⟩
set_option maxHeartbeats 4000000 in
set_option maxRecDepth 100000 in
theorem L_at (l : Launch) (D : va_G) (K : Nat → ClassId) (hst : l.stackTraces = false) (L : List Nat) (f : Nat → va_E) (ad : AD) (κ : TG) (g : GX) (σ : MS) (wm : va_W) (cel : Nat) (gl : Nat → Int64) (u p i : Int32) (hQ : RX K L f ad κ g σ 0) : McX l yL_at (wMW yL_at cL_at 6 (some .int) [(0, 12, 15, 13)]) (rmL 8 1 6) D (yY K) [.ref (ad 0 0 0), .int u, .int p, .int i, .ref cel] (va_pl L f ++ wm ++ [(cel, .inl (K 7, 1, .inr (.inl gl)))]) (fun v w => v = some (.int ((S_at σ u p i).2.2 0)) ∧ ∃ (w1 : va_W) (gl1 : Nat → Int64), w = w1 ++ wm ++ [(cel, .inl (K 7, 1, .inr (.inl gl1)))] ∧ RW K (ad 0 0 0) (S_at σ u p i).2 w1 ∧ ((S_at σ u p i).2.2 0 = 0 → gl1 0 = (S_at σ u p i).1.toInt64)) (fun _ _ => False) 1 6 := by
  refine mw_start (lv := [(0, .ref (ad 0 0 0)), (1, .int u), (2, .int p), (3, .int i), (4, .ref cel)]) rfl (Nat.le_of_ble_eq_true rfl) rfl (fun Γ hX hRm hnL hY hDD hLa hR hB hE hT => ?_)
  have hU : ∀ w ∈ wU, w ∈ wMW yL_at cL_at 6 (some .int) [(0, 12, 15, 13)] := fun w h => List.mem_cons_of_mem _ h
  subst hLa
  subst hDD
  obtain ⟨q0, hq0⟩ := p_at (f := f) (px0 hQ.1).1
  have hq1 : (va_pl L f)[q0]? = some (ad 0 0 0, .inr (9, [.ref (ad 1 0 0), .ref (ad 2 0 0), .ref (ad 3 0 0), .ref (ad 8 0 0), .int (nI (nF σ 2))])) := hq0.trans (congrArg (fun z => some (ad 0 0 0, z)) (px0 hQ.1).2.2)
  rw [List.append_assoc]
  refine g_aload (n := 2) hX dL_at_0 rfl rfl ?_
  refine g_iconst (n := 3) (v := 0) hX dL_at_2 rfl rfl ?_
  refine g_aload_n (n := 4) hX dL_at_3 rfl rfl rfl ?_
  refine g_iload_n (n := 5) hX dL_at_4 rfl rfl rfl ?_
  refine g_iload_n (n := 6) hX dL_at_5 rfl rfl rfl ?_
  refine g_iload_n (n := 7) hX dL_at_6 rfl rfl rfl ?_
  refine gx_callV (kc := 0) (ks := 0) (wm ++ [(cel, .inl (K 7, 1, .inr (.inl gl)))]) (n := 10) (As := [.int u, .int p, .int i]) (rest := [.int 0, .ref cel]) hX hE hT hB hU hY dL_at_7 rfl yv_X7_at um_L_7 (F_at _ _ K hst L f ad κ g σ u p i hQ) ⟨rfl, rfl⟩ (rm_le hRm rfl rfl) rfl hq1 rfl rfl rfl (Nat.le_of_ble_eq_true rfl) ⟨by rw [hRm]; exact Nat.le_of_ble_eq_true rfl, by rw [hRm]; exact Nat.le_of_ble_eq_true rfl⟩ (fun v0 w0 hq0 => ?_) (fun E0 w0 hx0 => ?_)
  · obtain ⟨hz, rfl, hW⟩ := hq0
    show G Γ (w0 ++ (wm ++ [(cel, .inl (K 7, 1, .inr (.inl gl)))])) (0 + 1) (0 + 6) 10 [(0, .ref (ad 0 0 0)), (1, .int u), (2, .int p), (3, .int i), (4, .ref cel)] [.int (S_at σ u p i).1, .int 0, .ref cel]
    rw [← List.append_assoc]
    refine g_i2l (n := 11) (v := (S_at σ u p i).1.toInt64) hX dL_at_10 rfl rfl ?_
    refine g_lst (n := 12) hX hY dL_at_11 rfl ?_
    refine g_goto (n := 19) hX dL_at_12 (by decide) ?_
    refine g_iconst (n := 20) (v := 0) hX dL_at_19 rfl rfl ?_
    exact gx_iret hX hR dL_at_20 ⟨by rw [hz], w0, _, rfl, hW, fun _ => pk_uLs⟩
  · obtain ⟨rfl, hz, hW⟩ := hx0
    refine ⟨[], ⟨0, 12, 15, 13⟩, [], RJx00060, rfl, (fun z hz => by cases hz), by decide, by decide, ul_L_13, cas_A, fun q9 => ?_⟩
    rw [← List.append_assoc]
    refine g_astore (n := 17) (lv' := [(5, .ref q9), (0, .ref (ad 0 0 0)), (1, .int u), (2, .int p), (3, .int i), (4, .ref cel)]) hX dL_at_15 rfl (by rw [hnL]; rfl) rfl ?_
    refine g_iconst (n := 18) (v := 1) hX dL_at_17 rfl rfl ?_
    exact gx_iret hX hR dL_at_18 ⟨by rw [hz], w0, gl, rfl, hW, fun h9 => absurd (hz.symm.trans h9) (by decide)⟩

set_option maxHeartbeats 4000000 in
set_option maxRecDepth 100000 in
theorem L_octet (l : Launch) (D : va_G) (K : Nat → ClassId) (hst : l.stackTraces = false) (L : List Nat) (f : Nat → va_E) (ad : AD) (κ : TG) (g : GX) (σ : MS) (wm : va_W) (cel : Nat) (gl : Nat → Int64) (c i : Int32) (hQ : RX K L f ad κ g σ 0) : McX l yL_octet (wMW yL_octet cL_octet 5 (some .int) [(0, 10, 13, 13)]) (rmL 8 2 2054) D (yY K) [.ref (ad 0 0 0), .int c, .int i, .ref cel] (va_pl L f ++ wm ++ [(cel, .inl (K 7, 1, .inr (.inl gl)))]) (fun v w => v = some (.int ((S_octet σ c i).2.2 0)) ∧ ∃ (w1 : va_W) (gl1 : Nat → Int64), w = w1 ++ wm ++ [(cel, .inl (K 7, 1, .inr (.inl gl1)))] ∧ RW K (ad 0 0 0) (S_octet σ c i).2 w1 ∧ ((S_octet σ c i).2.2 0 = 0 → gl1 0 = (S_octet σ c i).1.toInt64)) (fun _ _ => False) 2 2054 := by
  refine mw_start (lv := [(0, .ref (ad 0 0 0)), (1, .int c), (2, .int i), (3, .ref cel)]) rfl (Nat.le_of_ble_eq_true rfl) rfl (fun Γ hX hRm hnL hY hDD hLa hR hB hE hT => ?_)
  have hU : ∀ w ∈ wU, w ∈ wMW yL_octet cL_octet 5 (some .int) [(0, 10, 13, 13)] := fun w h => List.mem_cons_of_mem _ h
  subst hLa
  subst hDD
  obtain ⟨q0, hq0⟩ := p_at (f := f) (px0 hQ.1).1
  have hq1 : (va_pl L f)[q0]? = some (ad 0 0 0, .inr (9, [.ref (ad 1 0 0), .ref (ad 2 0 0), .ref (ad 3 0 0), .ref (ad 8 0 0), .int (nI (nF σ 2))])) := hq0.trans (congrArg (fun z => some (ad 0 0 0, z)) (px0 hQ.1).2.2)
  rw [List.append_assoc]
  refine g_aload_n (n := 1) hX dL_octet_0 rfl rfl rfl ?_
  refine g_iconst (n := 2) (v := 0) hX dL_octet_1 rfl rfl ?_
  refine g_aload_n (n := 3) hX dL_octet_2 rfl rfl rfl ?_
  refine g_iload_n (n := 4) hX dL_octet_3 rfl rfl rfl ?_
  refine g_iload_n (n := 5) hX dL_octet_4 rfl rfl rfl ?_
  refine gx_callV (kc := 0) (ks := 0) (wm ++ [(cel, .inl (K 7, 1, .inr (.inl gl)))]) (n := 8) (As := [.int c, .int i]) (rest := [.int 0, .ref cel]) hX hE hT hB hU hY dL_octet_5 rfl yv_X7_octet um_L_15 (F_octet _ _ K hst L f ad κ g σ c i hQ) ⟨rfl, rfl⟩ (rm_le hRm rfl rfl) rfl hq1 rfl rfl rfl (Nat.le_of_ble_eq_true rfl) ⟨by rw [hRm]; exact Nat.le_of_ble_eq_true rfl, by rw [hRm]; exact Nat.le_of_ble_eq_true rfl⟩ (fun v0 w0 hq0 => ?_) (fun E0 w0 hx0 => ?_)
  · obtain ⟨hz, rfl, hW⟩ := hq0
    show G Γ (w0 ++ (wm ++ [(cel, .inl (K 7, 1, .inr (.inl gl)))])) (0 + 2) (0 + 2054) 8 [(0, .ref (ad 0 0 0)), (1, .int c), (2, .int i), (3, .ref cel)] [.int (S_octet σ c i).1, .int 0, .ref cel]
    rw [← List.append_assoc]
    refine g_i2l (n := 9) (v := (S_octet σ c i).1.toInt64) hX dL_octet_8 rfl rfl ?_
    refine g_lst (n := 10) hX hY dL_octet_9 rfl ?_
    refine g_goto (n := 17) hX dL_octet_10 (by decide) ?_
    refine g_iconst (n := 18) (v := 0) hX dL_octet_17 rfl rfl ?_
    exact gx_iret hX hR dL_octet_18 ⟨by rw [hz], w0, _, rfl, hW, fun _ => pk_uLs⟩
  · obtain ⟨rfl, hz, hW⟩ := hx0
    refine ⟨[], ⟨0, 10, 13, 13⟩, [], RJx00060, rfl, (fun z hz => by cases hz), by decide, by decide, ul_L_13, cas_A, fun q9 => ?_⟩
    rw [← List.append_assoc]
    refine g_astore (n := 15) (lv' := [(4, .ref q9), (0, .ref (ad 0 0 0)), (1, .int c), (2, .int i), (3, .ref cel)]) hX dL_octet_13 rfl (by rw [hnL]; rfl) rfl ?_
    refine g_iconst (n := 16) (v := 1) hX dL_octet_15 rfl rfl ?_
    exact gx_iret hX hR dL_octet_16 ⟨by rw [hz], w0, gl, rfl, hW, fun h9 => absurd (hz.symm.trans h9) (by decide)⟩

set_option maxHeartbeats 4000000 in
set_option maxRecDepth 100000 in
theorem L_plain (l : Launch) (D : va_G) (K : Nat → ClassId) (hst : l.stackTraces = false) (L : List Nat) (f : Nat → va_E) (ad : AD) (κ : TG) (g : GX) (σ : MS) (wm : va_W) (cel : Nat) (gl : Nat → Int64) (o : Int32) (a b : Int64) (hQ : RX K L f ad κ g σ 0) : McX l yL_plain (wMW yL_plain cL_plain 8 (some .int) [(0, 12, 15, 23), (0, 12, 19, 25)]) (rmL 8 1 6) D (yY K) [.ref (ad 0 0 0), .int o, .long a, .long b, .ref cel] (va_pl L f ++ wm ++ [(cel, .inl (K 7, 1, .inr (.inl gl)))]) (fun v w => v = some (.int ((S_plain σ o a b).2.2 0)) ∧ ∃ (w1 : va_W) (gl1 : Nat → Int64), w = w1 ++ wm ++ [(cel, .inl (K 7, 1, .inr (.inl gl1)))] ∧ RW K (ad 0 0 0) (S_plain σ o a b).2 w1 ∧ ((S_plain σ o a b).2.2 0 = 0 → gl1 0 = (S_plain σ o a b).1)) (fun _ _ => False) 1 6 := by
  refine mw_start (lv := [(0, .ref (ad 0 0 0)), (1, .int o), (2, .long a), (4, .long b), (6, .ref cel)]) rfl (Nat.le_of_ble_eq_true rfl) rfl (fun Γ hX hRm hnL hY hDD hLa hR hB hE hT => ?_)
  have hU : ∀ w ∈ wU, w ∈ wMW yL_plain cL_plain 8 (some .int) [(0, 12, 15, 23), (0, 12, 19, 25)] := fun w h => List.mem_cons_of_mem _ h
  subst hLa
  subst hDD
  obtain ⟨q0, hq0⟩ := p_at (f := f) (px0 hQ.1).1
  have hq1 : (va_pl L f)[q0]? = some (ad 0 0 0, .inr (9, [.ref (ad 1 0 0), .ref (ad 2 0 0), .ref (ad 3 0 0), .ref (ad 8 0 0), .int (nI (nF σ 2))])) := hq0.trans (congrArg (fun z => some (ad 0 0 0, z)) (px0 hQ.1).2.2)
  rw [List.append_assoc]
  refine g_aload (n := 2) hX dL_plain_0 rfl rfl ?_
  refine g_iconst (n := 3) (v := 0) hX dL_plain_2 rfl rfl ?_
  refine g_aload_n (n := 4) hX dL_plain_3 rfl rfl rfl ?_
  refine g_iload_n (n := 5) hX dL_plain_4 rfl rfl rfl ?_
  refine g_lload_n (n := 6) hX dL_plain_5 rfl rfl rfl ?_
  refine g_lload (n := 8) hX dL_plain_6 rfl rfl ?_
  refine gx_callV (kc := 0) (ks := 0) (wm ++ [(cel, .inl (K 7, 1, .inr (.inl gl)))]) (n := 11) (As := [.int o, .long a, .long b]) (rest := [.int 0, .ref cel]) hX hE hT hB hU hY dL_plain_8 rfl yv_X7_plain um_L_19 (F_plain _ _ K hst L f ad κ g σ o a b hQ) ⟨rfl, rfl⟩ (rm_le hRm rfl rfl) rfl hq1 rfl rfl rfl (Nat.le_of_ble_eq_true rfl) ⟨by rw [hRm]; exact Nat.le_of_ble_eq_true rfl, by rw [hRm]; exact Nat.le_of_ble_eq_true rfl⟩ (fun v0 w0 hq0 => ?_) (fun E0 w0 hx0 => ?_)
  · obtain ⟨hz, rfl, hW⟩ := hq0
    show G Γ (w0 ++ (wm ++ [(cel, .inl (K 7, 1, .inr (.inl gl)))])) (0 + 1) (0 + 6) 11 [(0, .ref (ad 0 0 0)), (1, .int o), (2, .long a), (4, .long b), (6, .ref cel)] [.long (S_plain σ o a b).1, .int 0, .ref cel]
    rw [← List.append_assoc]
    refine g_lst (n := 12) hX hY dL_plain_11 rfl ?_
    refine g_goto (n := 23) hX dL_plain_12 (by decide) ?_
    refine g_iconst (n := 24) (v := 0) hX dL_plain_23 rfl rfl ?_
    exact gx_iret hX hR dL_plain_24 ⟨by rw [hz], w0, _, rfl, hW, fun _ => pk_uLs⟩
  · obtain ⟨hh0, hW⟩ := hx0
    rcases hh0 with ⟨rfl, hz⟩ | ⟨rfl, hz⟩
    · refine ⟨[], ⟨0, 12, 15, 23⟩, [⟨0, 12, 19, 25⟩], aC, rfl, (fun z hz => by cases hz), by decide, by decide, ul_L_23, cas_Z, fun q9 => ?_⟩
      rw [← List.append_assoc]
      refine g_astore (n := 17) (lv' := [(7, .ref q9), (0, .ref (ad 0 0 0)), (1, .int o), (2, .long a), (4, .long b), (6, .ref cel)]) hX dL_plain_15 rfl (by rw [hnL]; rfl) rfl ?_
      refine g_iconst (n := 18) (v := 1) hX dL_plain_17 rfl rfl ?_
      exact gx_iret hX hR dL_plain_18 ⟨by rw [hz], w0, gl, rfl, hW, fun h9 => absurd (hz.symm.trans h9) (by decide)⟩
    · refine ⟨[⟨0, 12, 15, 23⟩], ⟨0, 12, 19, 25⟩, [], nC, rfl, (fun z hz9 => by rw [List.mem_singleton.mp hz9]; exact ⟨by decide, aC, ul_L_23, rfl, rfl⟩), by decide, by decide, ul_L_25, cas_N, fun q9 => ?_⟩
      rw [← List.append_assoc]
      refine g_astore (n := 21) (lv' := [(7, .ref q9), (0, .ref (ad 0 0 0)), (1, .int o), (2, .long a), (4, .long b), (6, .ref cel)]) hX dL_plain_19 rfl (by rw [hnL]; rfl) rfl ?_
      refine g_iconst (n := 22) (v := 2) hX dL_plain_21 rfl rfl ?_
      exact gx_iret hX hR dL_plain_22 ⟨by rw [hz], w0, gl, rfl, hW, fun h9 => absurd (hz.symm.trans h9) (by decide)⟩

