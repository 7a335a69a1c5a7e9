theorem At.upa {L : List Nat} {f : Nat → va_E} {ad : AD} {κ : TG} {k i j a : Nat} {t : Nat × Nat × Nat} {e e2 : va_E} (h : At L f ad κ k i j e) (ht : κ a = t) (hn : ((k, i, j) : Nat × Nat × Nat) ≠ t) : At L (va_up f a e2) ad κ k i j e :=
  ⟨h.1, h.2.1, (va_up_ne _ _ (fun e9 => hn (by rw [← h.2.1, e9]; exact ht))).trans h.2.2⟩
theorem At.seta {L : List Nat} {f : Nat → va_E} {ad : AD} {κ : TG} {k i j a : Nat} {e e2 : va_E} (h : At L f ad κ k i j e) (ha : ad k i j = a) : At L (va_up f a e2) ad κ k i j e2 := by subst ha; exact h.set
theorem At.tag {L : List Nat} {f : Nat → va_E} {ad : AD} {κ : TG} {k i j q : Nat} {t : Nat × Nat × Nat} {e : va_E} (h : At L f ad κ k i j e) (hq : q ∉ L) : va_up κ q t (ad k i j) = (k, i, j) := (va_up_ne _ _ (ne_new h.1 hq)).trans h.2.1
def sP (σ : MS) (z sf : Int32) : MS := sA (sA (sF (sF σ 0 0) 1 (nI (nF σ 1 + 1))) 0 (nF σ 1 + 1) z) 5 (nF σ 1 + 1) sf
theorem fB_program {σ : MS} (hI : Inv σ) {c : Nat} (hc1 : 1 ≤ c) (hc2 : c ≤ nF σ 3) (z sf : Int32) : fB (sP σ z sf) c = fB σ c := by
  have hc := (hI.cls c hc1 hc2).2.1.2
  have hp : nA σ 7 c ≠ nF σ 1 + 1 := by omega
  exact fB_c hI hc1 hc2 rfl rfl (sA_n hp) (sA_n (σ := sF (sF σ 0 0) 1 (nI (nF σ 1 + 1))) (j := 0) (x := z) hp) (fun _ _ _ => rfl)
set_option maxHeartbeats 4000000 in
theorem PX_program {K : Nat → ClassId} {L : List Nat} {f : Nat → va_E} {ad : AD} {κ : TG} {g : GX} {σ : MS} (hP : PX K L f ad κ g σ) (hI : Inv σ) {q q1 : Nat} {e0 : va_E} (hq : q ∉ L) (hq1 : q1 ∉ L ++ [q]) (hn : nF σ 1 < 12) {z0 : Nat} {z sf : Int32} (hz : z = nI z0) (hz0 : z0 ≤ 100) : PX K (L ++ [q] ++ [q1]) (va_up (va_up (va_up (va_up (va_up f q e0) q1 (.inl (K 5, 60, rE (fun _ => none)))) q (.inr (5, [.int (nI (nF σ 1 + 1)), .int z, .int sf, .ref q1, .int 0]))) (ad 6 0 0) (.inl (K 4, 12, rE (va_up (gpr ad σ) (nF σ 1) (some q))))) (ad 1 0 0) (.inr (8, [.ref (ad 6 0 0), .ref (ad 7 0 0), .int (nI (nF σ 1 + 1)), .int (nI (nF σ 3))]))) (adS (adS ad 9 (nF σ 1 + 1) 0 q) 10 (nF σ 1 + 1) 0 q1) (va_up (va_up κ q (9, nF σ 1 + 1, 0)) q1 (10, nF σ 1 + 1, 0)) g (sP σ z sf) := by
  have hqq : q ≠ q1 := fun h => hq1 (h ▸ in_new)
  have t9 : (va_up (va_up κ q (9, nF σ 1 + 1, 0)) q1 (10, nF σ 1 + 1, 0)) q = (9, nF σ 1 + 1, 0) := (va_up_ne _ _ hqq).trans (va_up_self _ _ _)
  have t6 : (va_up (va_up κ q (9, nF σ 1 + 1, 0)) q1 (10, nF σ 1 + 1, 0)) (ad 6 0 0) = (6, 0, 0) := (va_up_ne _ _ (ne_new (in_app (px6 hP).1) hq1)).trans ((px6 hP).tag hq)
  have t1 : (va_up (va_up κ q (9, nF σ 1 + 1, 0)) q1 (10, nF σ 1 + 1, 0)) (ad 1 0 0) = (1, 0, 0) := (va_up_ne _ _ (ne_new (in_app (px1 hP).1) hq1)).trans ((px1 hP).tag hq)
  have np1 : nF (sP σ z sf) 1 = nF σ 1 + 1 := nF_of (show (sP σ z sf).2 1 = nI (nF σ 1 + 1) from rfl) (by omega)
  have old : ∀ (k i j : Nat) (e : va_E), At L f ad κ k i j e → ((k, i, j) : Nat × Nat × Nat) ≠ (9, nF σ 1 + 1, 0) → ((k, i, j) : Nat × Nat × Nat) ≠ (10, nF σ 1 + 1, 0) → ((k, i, j) : Nat × Nat × Nat) ≠ (6, 0, 0) → ((k, i, j) : Nat × Nat × Nat) ≠ (1, 0, 0) → At (L ++ [q] ++ [q1]) (va_up (va_up (va_up (va_up (va_up f q e0) q1 (.inl (K 5, 60, rE (fun _ => none)))) q (.inr (5, [.int (nI (nF σ 1 + 1)), .int z, .int sf, .ref q1, .int 0]))) (ad 6 0 0) (.inl (K 4, 12, rE (va_up (gpr ad σ) (nF σ 1) (some q))))) (ad 1 0 0) (.inr (8, [.ref (ad 6 0 0), .ref (ad 7 0 0), .int (nI (nF σ 1 + 1)), .int (nI (nF σ 3))]))) (adS (adS ad 9 (nF σ 1 + 1) 0 q) 10 (nF σ 1 + 1) 0 q1) (va_up (va_up κ q (9, nF σ 1 + 1, 0)) q1 (10, nF σ 1 + 1, 0)) k i j e := fun k i j e h n0 n1 n2 n3 => ((((h.old hq n0).old hq1 n1).upa t9 n0).upa t6 n2).upa t1 n3
  have a10 : At (L ++ [q] ++ [q1]) (va_up (va_up f q e0) q1 (.inl (K 5, 60, rE (fun _ => none)))) (adS (adS ad 9 (nF σ 1 + 1) 0 q) 10 (nF σ 1 + 1) 0 q1) (va_up (va_up κ q (9, nF σ 1 + 1, 0)) q1 (10, nF σ 1 + 1, 0)) 10 (nF σ 1 + 1) 0 (.inl (K 5, 60, rE (fun _ => none))) := At.new
  have a9 : At (L ++ [q] ++ [q1]) (va_up (va_up f q e0) q1 (.inl (K 5, 60, rE (fun _ => none)))) (adS (adS ad 9 (nF σ 1 + 1) 0 q) 10 (nF σ 1 + 1) 0 q1) (va_up (va_up κ q (9, nF σ 1 + 1, 0)) q1 (10, nF σ 1 + 1, 0)) 9 (nF σ 1 + 1) 0 e0 := At.old At.new hq1 (tne (by decide))
  refine ⟨?_, ?_, ?_, ?_, ?_, ?_, ?_, ?_, ?_, ?_, ?_, ?_, ?_, ?_, ?_, ?_, ?_, ?_⟩
  · exact ((old _ _ _ _ (px0 hP) (tne (by decide)) (tne (by decide)) (tne (by decide)) (tne (by decide))).eq rfl)
  · refine ((((((px1 hP).old hq (tne (by decide))).old hq1 (tne (by decide))).upa t9 (tne (by decide))).upa t6 (tne (by decide))).seta rfl).eq ?_
    unfold c1
    rw [np1]
    rfl
  · exact ((old _ _ _ _ (px2 hP) (tne (by decide)) (tne (by decide)) (tne (by decide)) (tne (by decide))).eq rfl)
  · exact ((old _ _ _ _ (px3 hP) (tne (by decide)) (tne (by decide)) (tne (by decide)) (tne (by decide))).eq rfl)
  · exact ((old _ _ _ _ (px4 hP) (tne (by decide)) (tne (by decide)) (tne (by decide)) (tne (by decide))).eq rfl)
  · exact ((old _ _ _ _ (px5 hP) (tne (by decide)) (tne (by decide)) (tne (by decide)) (tne (by decide))).eq rfl)
  · refine ((((((px6 hP).old hq (tne (by decide))).old hq1 (tne (by decide))).upa t9 (tne (by decide))).seta rfl).upa t1 (tne (by decide))).eq ?_
    unfold c6
    refine congrArg (fun w => (Sum.inl (K 4, 12, rE w) : va_E)) (funext fun i => ?_)
    unfold gpr
    rw [np1]
    by_cases hi : i = nF σ 1
    · rw [hi, va_up_self, if_pos (by omega)]
      exact congrArg some (adS_s ad 9 (nF σ 1 + 1) 0 q).symm
    · rw [va_up_ne _ _ hi]
      by_cases hi2 : i < nF σ 1
      · rw [if_pos hi2, if_pos (by omega)]
        exact congrArg some (adS_i (ad := ad) (k := 9) (k' := 9) (j := 0) (j' := 0) (q := q) (show i + 1 ≠ nF σ 1 + 1 by omega)).symm
      · rw [if_neg hi2, if_neg (by omega)]
  · exact ((old _ _ _ _ (px7 hP) (tne (by decide)) (tne (by decide)) (tne (by decide)) (tne (by decide))).eq rfl)
  · exact ((old _ _ _ _ (px8 hP) (tne (by decide)) (tne (by decide)) (tne (by decide)) (tne (by decide))).eq rfl)
  · intro p h1 h2
    rw [np1] at h2
    by_cases hp : p = nF σ 1 + 1
    · subst hp
      refine (((a9.seta (show (adS (adS ad 9 (nF σ 1 + 1) 0 q) 10 (nF σ 1 + 1) 0 q1) 9 (nF σ 1 + 1) 0 = q from adS_s ad 9 (nF σ 1 + 1) 0 q)).upa t6 (tne (by decide))).upa t1 (tne (by decide))).eq ?_
      unfold c9
      rw [show nA (sP σ z sf) 0 (nF σ 1 + 1) = z0 from nA_of ((sA_s (sF (sF σ 0 0) 1 (nI (nF σ 1 + 1))) 0 (nF σ 1 + 1) z).trans hz) (by omega), show (sP σ z sf).1 5 (nF σ 1 + 1) = sf from sA_s _ 5 _ sf, show nA (sP σ z sf) 1 (nF σ 1 + 1) = 0 from congrArg Int32.toNatClampNeg (hI.2.2.2.1 (nF σ 1 + 1) (by omega) (by omega)), hz, show (adS (adS ad 9 (nF σ 1 + 1) 0 q) 10 (nF σ 1 + 1) 0 q1) 10 (nF σ 1 + 1) 0 = q1 from adS_s _ 10 (nF σ 1 + 1) 0 q1]
      rfl
    · refine (old _ _ _ _ (px9 hP p h1 (by omega)) (tni hp) (tne (by decide)) (tne (by decide)) (tne (by decide))).eq ?_
      unfold c9
      rw [show nA (sP σ z sf) 0 p = nA σ 0 p from congrArg Int32.toNatClampNeg (sA_n (σ := sF (sF σ 0 0) 1 (nI (nF σ 1 + 1))) (j := 0) (x := z) hp), show (sP σ z sf).1 5 p = σ.1 5 p from sA_n hp, show (adS (adS ad 9 (nF σ 1 + 1) 0 q) 10 (nF σ 1 + 1) 0 q1) 10 p 0 = ad 10 p 0 from adS_i hp]
      rfl
  · intro p h1 h2
    rw [np1] at h2
    by_cases hp : p = nF σ 1 + 1
    · subst hp
      refine (((a10.upa t9 (tne (by decide))).upa t6 (tne (by decide))).upa t1 (tne (by decide))).eq ?_
      unfold c10
      refine congrArg (fun w => (Sum.inl (K 5, 60, rE w) : va_E)) (funext fun i => ?_)
      unfold grw
      rw [show nA (sP σ z sf) 1 (nF σ 1 + 1) = 0 from congrArg Int32.toNatClampNeg (hI.2.2.2.1 (nF σ 1 + 1) (by omega) (by omega)), if_neg (Nat.not_lt_zero _)]
    · exact (old _ _ _ _ (px10 hP p h1 (by omega)) (tne (by decide)) (tni hp) (tne (by decide)) (tne (by decide)))
  · intro p h1 h2 r h3 h4
    rw [np1] at h2
    by_cases hp : p = nF σ 1 + 1
    · subst hp
      rw [show nA (sP σ z sf) 1 (nF σ 1 + 1) = 0 from congrArg Int32.toNatClampNeg (hI.2.2.2.1 (nF σ 1 + 1) (by omega) (by omega))] at h4
      omega
    · exact (old _ _ _ _ (px11 hP p h1 (by omega) r h3 h4) (tne (by decide)) (tne (by decide)) (tne (by decide)) (tne (by decide)))
  · exact fun u1 h1 h2 => ((old _ _ _ _ (px12 hP u1 h1 h2) (tne (by decide)) (tne (by decide)) (tne (by decide)) (tne (by decide))).eq rfl)
  · exact fun u1 h1 h2 => ((old _ _ _ _ (px13 hP u1 h1 h2) (tne (by decide)) (tne (by decide)) (tne (by decide)) (tne (by decide))).eq rfl)
  · exact fun u1 h1 h2 => ((old _ _ _ _ (px14 hP u1 h1 h2) (tne (by decide)) (tne (by decide)) (tne (by decide)) (tne (by decide))).eq rfl)
  · intro c1 h1 h2
    refine (old _ _ _ _ (px15 hP c1 h1 h2) (tne (by decide)) (tne (by decide)) (tne (by decide)) (tne (by decide))).eq ?_
    have hc := (hI.cls c1 h1 h2).2.1.2
    unfold c15
    rw [show (adS (adS ad 9 (nF σ 1 + 1) 0 q) 10 (nF σ 1 + 1) 0 q1) 9 (nA (sP σ z sf) 7 c1) 0 = ad 9 (nA σ 7 c1) 0 from adS_i (ad := ad) (k := 9) (i := nF σ 1 + 1) (j := 0) (q := q) (k' := 9) (i' := nA σ 7 c1) (j' := 0) (by omega)]
    rfl
  · intro c1 h1 h2
    refine (old _ _ _ _ (px16 hP c1 h1 h2) (tne (by decide)) (tne (by decide)) (tne (by decide)) (tne (by decide))).eq ?_
    have hc := (hI.cls c1 h1 h2).2.1.2
    unfold c16
    rw [show nA (sP σ z sf) 0 (nA (sP σ z sf) 7 c1) = nA σ 0 (nA σ 7 c1) from congrArg Int32.toNatClampNeg (sA_n (σ := sF (sF σ 0 0) 1 (nI (nF σ 1 + 1))) (j := 0) (x := z) (show nA σ 7 c1 ≠ nF σ 1 + 1 by omega))]
  · intro c1 h1 h2 h3
    refine (old _ _ _ _ (px17 hP c1 h1 h2 h3) (tne (by decide)) (tne (by decide)) (tne (by decide)) (tne (by decide))).eq ?_
    unfold c17
    rw [fB_program hI h1 h2 z sf]
theorem Inv_program {σ : MS} (h : Inv σ) (hn : nF σ 1 < 12) {z0 : Nat} {z sf : Int32} (hz : z = nI z0) (hz1 : 1 ≤ z0) (hz0 : z0 ≤ 100) (hsf : isB sf) : Inv (sP σ z sf) := by
  have np1 : nF (sP σ z sf) 1 = nF σ 1 + 1 := nF_of (show (sP σ z sf).2 1 = nI (nF σ 1 + 1) from rfl) (by omega)
  have a0 : ∀ {p : Nat}, p ≠ nF σ 1 + 1 → (sP σ z sf).1 0 p = σ.1 0 p := fun hp => sA_n (σ := sF (sF σ 0 0) 1 (nI (nF σ 1 + 1))) (j := 0) (x := z) hp
  have a0s : (sP σ z sf).1 0 (nF σ 1 + 1) = z := sA_s (sF (sF σ 0 0) 1 (nI (nF σ 1 + 1))) 0 (nF σ 1 + 1) z
  refine ⟨⟨⟨nF σ 1 + 1, rfl, by omega⟩, h.1.2.1, h.1.2.2.1, fun p hp => ?_, h.1.2.2.2.2.1, h.1.2.2.2.2.2.1, h.1.2.2.2.2.2.2.1, h.1.2.2.2.2.2.2.2⟩, h.2.1, fun p h1 h2 => ?_, fun p h1 h2 => ?_, fun c h1 h2 => ?_, h.2.2.2.2.2.1, h.2.2.2.2.2.2.1, h.2.2.2.2.2.2.2.1, h.2.2.2.2.2.2.2.2⟩
  · by_cases e : p = nF σ 1 + 1
    · rw [e, a0s]; exact ⟨z0, hz, hz0⟩
    · rw [a0 e]; exact h.1.2.2.2.1 p hp
  · rw [np1] at h2
    by_cases e : p = nF σ 1 + 1
    · subst e
      refine ⟨?_, ?_, fun r h3 h4 => ?_⟩
      · rw [nA, a0s, hz, nI_clamp (by omega)]; exact hz1
      · rw [show (sP σ z sf).1 5 (nF σ 1 + 1) = sf from sA_s _ _ _ _]; exact hsf
      · rw [show nA (sP σ z sf) 1 (nF σ 1 + 1) = 0 from congrArg Int32.toNatClampNeg (h.2.2.2.1 (nF σ 1 + 1) (by omega) (by omega))] at h4
        omega
    · have := h.prog p h1 (by omega)
      rw [show nA (sP σ z sf) 0 p = nA σ 0 p from congrArg Int32.toNatClampNeg (a0 e), show (sP σ z sf).1 5 p = σ.1 5 p from sA_n e]
      exact this
  · rw [np1] at h1
    exact h.2.2.2.1 p (by omega) h2
  · have := h.cls c h1 h2
    rw [np1]
    exact ⟨this.1, ⟨this.2.1.1, Nat.le_succ_of_le this.2.1.2⟩, this.2.2⟩
theorem Lk_program {g : GX} {σ : MS} (hI : Inv σ) (h : Lk g σ 0) (z sf : Int32) : Lk g (sP σ z sf) 0 := by
  refine ⟨h.1, h.2.1, fun c h1 h2 hl => ⟨(h.2.2.1 c h1 h2 hl).1, fun hs i hi => ?_⟩, fun c h1 h2 hf i hi => ?_⟩
  · have hc := (hI.cls c h1 h2).2.1.2
    rw [show nA (sP σ z sf) 0 (nA (sP σ z sf) 7 c) = nA σ 0 (nA σ 7 c) from congrArg Int32.toNatClampNeg (sA_n (σ := sF (sF σ 0 0) 1 (nI (nF σ 1 + 1))) (j := 0) (x := z) (show nA σ 7 c ≠ nF σ 1 + 1 by omega))] at hi
    exact (h.2.2.1 c h1 h2 hl).2 hs i hi
  · rw [fB_program hI h1 h2] at hi ⊢
    exact h.2.2.2 c h1 h2 hf i hi
