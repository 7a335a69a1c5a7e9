def sR (σ : MS) (p : Nat) (o a b : Int32) : MS := sA (sA (sA (sA (sF σ 0 0) 1 p (nI (nA σ 1 p + 1))) 2 (60 * p + (nA σ 1 p + 1)) o) 3 (60 * p + (nA σ 1 p + 1)) a) 4 (60 * p + (nA σ 1 p + 1)) b
theorem prO_row {σ : MS} {p p2 r : Nat} (o a b : Int32) (h1 : 1 ≤ r) (h2 : r ≤ 60) (hn : nA σ 1 p < 60) (h : p2 ≠ p ∨ r ≠ nA σ 1 p + 1) : prO (sR σ p o a b) p2 r = prO σ p2 r := by
  have e : 60 * p2 + r ≠ 60 * p + (nA σ 1 p + 1) := by omega
  unfold prO
  rw [show (sR σ p o a b).1 2 (60 * p2 + r) = σ.1 2 (60 * p2 + r) from sA_n (σ := sA (sF σ 0 0) 1 p (nI (nA σ 1 p + 1))) (j := 2) (x := o) e, show (sR σ p o a b).1 3 (60 * p2 + r) = σ.1 3 (60 * p2 + r) from sA_n (σ := sA (sA (sF σ 0 0) 1 p (nI (nA σ 1 p + 1))) 2 (60 * p + (nA σ 1 p + 1)) o) (j := 3) (x := a) e, show (sR σ p o a b).1 4 (60 * p2 + r) = σ.1 4 (60 * p2 + r) from sA_n e]
theorem prO_rown (σ : MS) (p : Nat) (o a b : Int32) : prO (sR σ p o a b) p (nA σ 1 p + 1) = (o, a, b) := by
  unfold prO
  rw [show (sR σ p o a b).1 2 (60 * p + (nA σ 1 p + 1)) = o from sA_s (sA (sF σ 0 0) 1 p (nI (nA σ 1 p + 1))) 2 _ o, show (sR σ p o a b).1 3 (60 * p + (nA σ 1 p + 1)) = a from sA_s (sA (sA (sF σ 0 0) 1 p (nI (nA σ 1 p + 1))) 2 (60 * p + (nA σ 1 p + 1)) o) 3 _ a, show (sR σ p o a b).1 4 (60 * p + (nA σ 1 p + 1)) = b from sA_s _ 4 _ b]
theorem nA_row {σ : MS} {p p2 : Nat} (o a b : Int32) (h : p2 ≠ p) : nA (sR σ p o a b) 1 p2 = nA σ 1 p2 := congrArg Int32.toNatClampNeg (sA_n (σ := sF σ 0 0) (j := 1) (x := nI (nA σ 1 p + 1)) h)
theorem nA_rown {σ : MS} {p : Nat} (o a b : Int32) (hn : nA σ 1 p < 60) : nA (sR σ p o a b) 1 p = nA σ 1 p + 1 := nA_of (sA_s (sF σ 0 0) 1 p (nI (nA σ 1 p + 1))) (by omega)
theorem fB_row {σ : MS} (hI : Inv σ) {c : Nat} (hc1 : 1 ≤ c) (hc2 : c ≤ nF σ 3) {p : Nat} (hn : nA σ 1 p < 60) (o a b : Int32) : fB (sR σ p o a b) c = fB σ c := by
  have hc := (hI.cls c hc1 hc2).2.2.1
  have hnc := hI.nc.2
  have h60 := (hI.cr (c := c) (by omega)).2
  refine fB_c hI hc1 hc2 rfl rfl rfl rfl (fun r h1 h2 => prO_row o a b h1 (by omega) hn ?_)
  by_cases e : nA σ 7 c = p
  · right; rw [e] at hc; omega
  · left; exact e
set_option maxHeartbeats 4000000 in
theorem PX_row {K : Nat → ClassId} {L : List Nat} {f : Nat → va_E} {ad : AD} {κ : TG} {g : GX} {σ : MS} (hP : PX K L f ad κ g σ) (hI : Inv σ) {q : Nat} (hq : q ∉ L) {p : Nat} (hp1 : 1 ≤ p) (hp2 : p ≤ nF σ 1) (hn : nA σ 1 p < 60) (o a b : Int32) : PX K (L ++ [q]) (va_up (va_up (va_up f q (.inr (6, [.int o, .int a, .int b]))) (ad 10 p 0) (.inl (K 5, 60, rE (va_up (grw ad σ p) (nA σ 1 p) (some q))))) (ad 9 p 0) (.inr (5, [.int (nI p), .int (nI (nA σ 0 p)), .int (σ.1 5 p), .ref (ad 10 p 0), .int (nI (nA σ 1 p + 1))]))) (adS ad 11 p (nA σ 1 p + 1) q) (va_up κ q (11, p, nA σ 1 p + 1)) g (sR σ p o a b) := by
  have t10 : (va_up κ q (11, p, nA σ 1 p + 1)) (ad 10 p 0) = (10, p, 0) := (px10 hP p hp1 hp2).tag hq
  have t9 : (va_up κ q (11, p, nA σ 1 p + 1)) (ad 9 p 0) = (9, p, 0) := (px9 hP p hp1 hp2).tag hq
  have old : ∀ (k i j : Nat) (e : va_E), At L f ad κ k i j e → ((k, i, j) : Nat × Nat × Nat) ≠ (11, p, nA σ 1 p + 1) → ((k, i, j) : Nat × Nat × Nat) ≠ (10, p, 0) → ((k, i, j) : Nat × Nat × Nat) ≠ (9, p, 0) → At (L ++ [q]) (va_up (va_up (va_up f q (.inr (6, [.int o, .int a, .int b]))) (ad 10 p 0) (.inl (K 5, 60, rE (va_up (grw ad σ p) (nA σ 1 p) (some q))))) (ad 9 p 0) (.inr (5, [.int (nI p), .int (nI (nA σ 0 p)), .int (σ.1 5 p), .ref (ad 10 p 0), .int (nI (nA σ 1 p + 1))]))) (adS ad 11 p (nA σ 1 p + 1) q) (va_up κ q (11, p, nA σ 1 p + 1)) k i j e := fun k i j e h n0 n1 n2 => ((h.old hq n0).upa t10 n1).upa t9 n2
  refine ⟨?_, ?_, ?_, ?_, ?_, ?_, ?_, ?_, ?_, ?_, ?_, ?_, ?_, ?_, ?_, ?_, ?_, ?_⟩
  · exact ((old _ _ _ _ (px0 hP) (tne (by decide)) (tne (by decide)) (tne (by decide))).eq rfl)
  · exact ((old _ _ _ _ (px1 hP) (tne (by decide)) (tne (by decide)) (tne (by decide))).eq rfl)
  · exact ((old _ _ _ _ (px2 hP) (tne (by decide)) (tne (by decide)) (tne (by decide))).eq rfl)
  · exact ((old _ _ _ _ (px3 hP) (tne (by decide)) (tne (by decide)) (tne (by decide))).eq rfl)
  · exact ((old _ _ _ _ (px4 hP) (tne (by decide)) (tne (by decide)) (tne (by decide))).eq rfl)
  · exact ((old _ _ _ _ (px5 hP) (tne (by decide)) (tne (by decide)) (tne (by decide))).eq rfl)
  · exact ((old _ _ _ _ (px6 hP) (tne (by decide)) (tne (by decide)) (tne (by decide))).eq rfl)
  · exact ((old _ _ _ _ (px7 hP) (tne (by decide)) (tne (by decide)) (tne (by decide))).eq rfl)
  · exact ((old _ _ _ _ (px8 hP) (tne (by decide)) (tne (by decide)) (tne (by decide))).eq rfl)
  · intro p2 h1 h2
    by_cases hp : p2 = p
    · subst hp
      refine ((((px9 hP p2 h1 h2).old hq (tne (by decide))).upa t10 (tne (by decide))).seta rfl).eq ?_
      unfold c9
      rw [nA_rown o a b hn]
      rfl
    · refine (old _ _ _ _ (px9 hP p2 h1 h2) (tne (by decide)) (tne (by decide)) (tni hp)).eq ?_
      unfold c9
      rw [nA_row o a b hp]
      rfl
  · intro p2 h1 h2
    by_cases hp : p2 = p
    · subst hp
      refine ((((px10 hP p2 h1 h2).old hq (tne (by decide))).seta rfl).upa t9 (tne (by decide))).eq ?_
      unfold c10
      refine congrArg (fun w => (Sum.inl (K 5, 60, rE w) : va_E)) (funext fun i => ?_)
      unfold grw
      rw [nA_rown o a b hn]
      by_cases hi : i = nA σ 1 p2
      · rw [hi, va_up_self, if_pos (by omega), adS_s]
      · rw [va_up_ne _ _ hi]
        by_cases hi2 : i < nA σ 1 p2
        · rw [if_pos hi2, if_pos (by omega), adS_j (by omega)]
        · rw [if_neg hi2, if_neg (by omega)]
    · refine (old _ _ _ _ (px10 hP p2 h1 h2) (tne (by decide)) (tni hp) (tne (by decide))).eq ?_
      unfold c10
      refine congrArg (fun w => (Sum.inl (K 5, 60, rE w) : va_E)) (funext fun i => ?_)
      unfold grw
      rw [nA_row o a b hp, adS_i hp]
  · intro p2 h1 (h2 : p2 ≤ nF σ 1) r h3 h4
    have hnp := hI.np.2
    have hr60 := (hI.rc (p := p2) (by omega : p2 ≤ 12)).2
    by_cases hp : p2 = p ∧ r = nA σ 1 p + 1
    · obtain ⟨rfl, rfl⟩ := hp
      refine ((At.new.upa t10 (tne (by decide))).upa t9 (tne (by decide))).eq ?_
      have h9 := prO_rown σ p2 o a b
      unfold prO at h9
      unfold c11
      rw [show (sR σ p2 o a b).1 2 (60 * p2 + (nA σ 1 p2 + 1)) = o from congrArg (fun z => z.1) h9, show (sR σ p2 o a b).1 3 (60 * p2 + (nA σ 1 p2 + 1)) = a from congrArg (fun z => z.2.1) h9, show (sR σ p2 o a b).1 4 (60 * p2 + (nA σ 1 p2 + 1)) = b from congrArg (fun z => z.2.2) h9]
    · have hr : r ≤ nA σ 1 p2 := by
        by_cases e : p2 = p
        · rw [e, nA_rown o a b hn] at h4
          rw [e]
          omega
        · rw [nA_row o a b e] at h4; exact h4
      refine (old _ _ _ _ (px11 hP p2 h1 h2 r h3 hr) (fun h9 => hp ⟨congrArg (fun z => z.2.1) h9, congrArg (fun z => z.2.2) h9⟩) (tne (by decide)) (tne (by decide))).eq ?_
      have h9 := prO_row (σ := σ) (p := p) (p2 := p2) (r := r) o a b h3 (by omega) hn (by omega)
      unfold prO at h9
      unfold c11
      rw [show (sR σ p o a b).1 2 (60 * p2 + r) = _ from congrArg (fun z => z.1) h9, show (sR σ p o a b).1 3 (60 * p2 + r) = _ from congrArg (fun z => z.2.1) h9, show (sR σ p o a b).1 4 (60 * p2 + r) = _ from congrArg (fun z => z.2.2) h9]
  · exact fun u1 h1 h2 => ((old _ _ _ _ (px12 hP u1 h1 h2) (tne (by decide)) (tne (by decide)) (tne (by decide))).eq rfl)
  · exact fun u1 h1 h2 => ((old _ _ _ _ (px13 hP u1 h1 h2) (tne (by decide)) (tne (by decide)) (tne (by decide))).eq rfl)
  · exact fun u1 h1 h2 => ((old _ _ _ _ (px14 hP u1 h1 h2) (tne (by decide)) (tne (by decide)) (tne (by decide))).eq rfl)
  · exact fun c1 h1 h2 => ((old _ _ _ _ (px15 hP c1 h1 h2) (tne (by decide)) (tne (by decide)) (tne (by decide))).eq rfl)
  · exact fun c1 h1 h2 => ((old _ _ _ _ (px16 hP c1 h1 h2) (tne (by decide)) (tne (by decide)) (tne (by decide))).eq rfl)
  · intro c1 h1 h2 h3
    refine (old _ _ _ _ (px17 hP c1 h1 h2 h3) (tne (by decide)) (tne (by decide)) (tne (by decide))).eq ?_
    unfold c17
    rw [fB_row hI h1 h2 hn]
theorem Inv_row {σ : MS} (h : Inv σ) {p : Nat} (hp1 : 1 ≤ p) (hp2 : p ≤ nF σ 1) (hn : nA σ 1 p < 60) {o a b : Int32} (hok : ¬ okB (nI (nA σ 0 p)) o a b = 0) : Inv (sR σ p o a b) := by
  have hnp := h.np.2
  refine ⟨⟨h.1.1, h.1.2.1, h.1.2.2.1, h.1.2.2.2.1, fun p2 hp => isN_upd (σ := sF σ 0 0) (j := 1) ⟨nA σ 1 p + 1, rfl, by omega⟩ (h.1.2.2.2.2.1 p2 hp), h.1.2.2.2.2.2.1, h.1.2.2.2.2.2.2.1, h.1.2.2.2.2.2.2.2⟩, h.2.1, fun p2 h1 h2 => ?_, fun p2 h1 h2 => ?_, fun c h1 h2 => ?_, h.2.2.2.2.2.1, h.2.2.2.2.2.2.1, h.2.2.2.2.2.2.2.1, h.2.2.2.2.2.2.2.2⟩
  · have h2' : p2 ≤ nF σ 1 := h2
    have hpr := h.prog p2 h1 h2
    have hr60 := (h.rc (p := p2) (by omega)).2
    have hz := (h.sz (p := p2) (by omega)).2
    refine ⟨hpr.1, hpr.2.1, fun r h3 h4 => ?_⟩
    show rowV (nA σ 0 p2) _ _ _
    by_cases e : p2 = p ∧ r = nA σ 1 p + 1
    · obtain ⟨rfl, rfl⟩ := e
      rw [prO_rown]
      exact rowV_of hz hok
    · have hr : r ≤ nA σ 1 p2 := by
        by_cases e2 : p2 = p
        · rw [e2, nA_rown o a b hn] at h4
          rw [e2]; omega
        · rw [nA_row o a b e2] at h4; exact h4
      rw [prO_row o a b h3 (by omega) hn (by omega)]
      exact hpr.2.2 r h3 hr
  · have h1' : nF σ 1 < p2 := h1
    exact (sA_n (σ := sF σ 0 0) (j := 1) (x := nI (nA σ 1 p + 1)) (show p2 ≠ p by omega)).trans (h.2.2.2.1 p2 h1 h2)
  · have hc := h.cls c h1 h2
    refine ⟨hc.1, hc.2.1, ?_, hc.2.2.2⟩
    show nA σ 8 c ≤ nA (sR σ p o a b) 1 (nA σ 7 c)
    by_cases e : nA σ 7 c = p
    · rw [e, nA_rown o a b hn]
      have := hc.2.2.1
      rw [e] at this
      omega
    · rw [nA_row o a b e]; exact hc.2.2.1
theorem Lk_row {g : GX} {σ : MS} (hI : Inv σ) (h : Lk g σ 0) {p : Nat} (hn : nA σ 1 p < 60) (o a b : Int32) : Lk g (sR σ p o a b) 0 :=
  ⟨h.1, h.2.1, h.2.2.1, fun c h1 h2 hf i hi => by
    rw [fB_row hI h1 h2 hn] at hi ⊢
    exact h.2.2.2 c h1 h2 hf i hi⟩
def sN (σ : MS) : MS := sF (sF σ 0 0) 2 (nI (nF σ 2 + 1))
def gN (g : GX) (u : Nat) : GX := gU (gMk g u (fun _ => 0)) u 0 0
set_option maxHeartbeats 4000000 in
theorem PX_newunit {K : Nat → ClassId} {L : List Nat} {f : Nat → va_E} {ad : AD} {κ : TG} {g : GX} {σ : MS} (hP : PX K L f ad κ g σ) (hI : Inv σ) {q q1 q2 : Nat} {e0 : va_E} (hq : q ∉ L) (hq1 : q1 ∉ L ++ [q]) (hq2 : q2 ∉ L ++ [q] ++ [q1]) (hn : nF σ 2 < 8) : PX K (L ++ [q] ++ [q1] ++ [q2]) (va_up (va_up (va_up (va_up (va_up (va_up f q e0) q1 (.inl (K 3, 12, rE (fun _ => none)))) q2 (.inl (K 0, 100, .inl (fun _ => 0)))) q (.inr (7, [.ref q1, .ref q2, .int 0, .int 0, .int 0, .int 0, .int 0, .int 0, .int 0]))) (ad 8 0 0) (.inl (K 6, 8, rE (va_up (gun ad σ) (nF σ 2) (some q))))) (ad 0 0 0) (.inr (9, [.ref (ad 1 0 0), .ref (ad 2 0 0), .ref (ad 3 0 0), .ref (ad 8 0 0), .int (nI (nF σ 2 + 1))]))) (adS (adS (adS ad 12 (nF σ 2 + 1) 0 q) 13 (nF σ 2 + 1) 0 q1) 14 (nF σ 2 + 1) 0 q2) (va_up (va_up (va_up κ q (12, (nF σ 2 + 1), 0)) q1 (13, (nF σ 2 + 1), 0)) q2 (14, (nF σ 2 + 1), 0)) (gN g (nF σ 2 + 1)) (sN σ) := by
  have hqq1 : q ≠ q1 := fun h => hq1 (h ▸ in_new)
  have hqq2 : q ≠ q2 := fun h => hq2 (h ▸ in_app in_new)
  have t12 : (va_up (va_up (va_up κ q (12, (nF σ 2 + 1), 0)) q1 (13, (nF σ 2 + 1), 0)) q2 (14, (nF σ 2 + 1), 0)) q = (12, (nF σ 2 + 1), 0) := (va_up_ne _ _ hqq2).trans ((va_up_ne _ _ hqq1).trans (va_up_self _ _ _))
  have t8 : (va_up (va_up (va_up κ q (12, (nF σ 2 + 1), 0)) q1 (13, (nF σ 2 + 1), 0)) q2 (14, (nF σ 2 + 1), 0)) (ad 8 0 0) = (8, 0, 0) := (va_up_ne _ _ (ne_new (in_app (in_app (px8 hP).1)) hq2)).trans ((va_up_ne _ _ (ne_new (in_app (px8 hP).1) hq1)).trans ((px8 hP).tag hq))
  have t0 : (va_up (va_up (va_up κ q (12, (nF σ 2 + 1), 0)) q1 (13, (nF σ 2 + 1), 0)) q2 (14, (nF σ 2 + 1), 0)) (ad 0 0 0) = (0, 0, 0) := (va_up_ne _ _ (ne_new (in_app (in_app (px0 hP).1)) hq2)).trans ((va_up_ne _ _ (ne_new (in_app (px0 hP).1) hq1)).trans ((px0 hP).tag hq))
  have nu1 : nF (sN σ) 2 = (nF σ 2 + 1) := nF_of (show (sN σ).2 2 = nI (nF σ 2 + 1) from rfl) (by omega)
  have hz := hI.uz (nF σ 2 + 1) (by omega) (by omega)
  have old : ∀ (k i j : Nat) (e : va_E), At L f ad κ k i j e → ((k, i, j) : Nat × Nat × Nat) ≠ (12, (nF σ 2 + 1), 0) → ((k, i, j) : Nat × Nat × Nat) ≠ (13, (nF σ 2 + 1), 0) → ((k, i, j) : Nat × Nat × Nat) ≠ (14, (nF σ 2 + 1), 0) → ((k, i, j) : Nat × Nat × Nat) ≠ (8, 0, 0) → ((k, i, j) : Nat × Nat × Nat) ≠ (0, 0, 0) → At (L ++ [q] ++ [q1] ++ [q2]) (va_up (va_up (va_up (va_up (va_up (va_up f q e0) q1 (.inl (K 3, 12, rE (fun _ => none)))) q2 (.inl (K 0, 100, .inl (fun _ => 0)))) q (.inr (7, [.ref q1, .ref q2, .int 0, .int 0, .int 0, .int 0, .int 0, .int 0, .int 0]))) (ad 8 0 0) (.inl (K 6, 8, rE (va_up (gun ad σ) (nF σ 2) (some q))))) (ad 0 0 0) (.inr (9, [.ref (ad 1 0 0), .ref (ad 2 0 0), .ref (ad 3 0 0), .ref (ad 8 0 0), .int (nI (nF σ 2 + 1))]))) (adS (adS (adS ad 12 (nF σ 2 + 1) 0 q) 13 (nF σ 2 + 1) 0 q1) 14 (nF σ 2 + 1) 0 q2) (va_up (va_up (va_up κ q (12, (nF σ 2 + 1), 0)) q1 (13, (nF σ 2 + 1), 0)) q2 (14, (nF σ 2 + 1), 0)) k i j e := fun k i j e h n0 n1 n2 n3 n4 => ((((((h.old hq n0).old hq1 n1).old hq2 n2).upa t12 n0).upa t8 n3).upa t0 n4)
  have a12 : At (L ++ [q] ++ [q1] ++ [q2]) (va_up (va_up (va_up f q e0) q1 (.inl (K 3, 12, rE (fun _ => none)))) q2 (.inl (K 0, 100, .inl (fun _ => 0)))) (adS (adS (adS ad 12 (nF σ 2 + 1) 0 q) 13 (nF σ 2 + 1) 0 q1) 14 (nF σ 2 + 1) 0 q2) (va_up (va_up (va_up κ q (12, (nF σ 2 + 1), 0)) q1 (13, (nF σ 2 + 1), 0)) q2 (14, (nF σ 2 + 1), 0)) 12 (nF σ 2 + 1) 0 e0 := At.old (At.old At.new hq1 (tne (by decide))) hq2 (tne (by decide))
  have a13 : At (L ++ [q] ++ [q1] ++ [q2]) (va_up (va_up (va_up f q e0) q1 (.inl (K 3, 12, rE (fun _ => none)))) q2 (.inl (K 0, 100, .inl (fun _ => 0)))) (adS (adS (adS ad 12 (nF σ 2 + 1) 0 q) 13 (nF σ 2 + 1) 0 q1) 14 (nF σ 2 + 1) 0 q2) (va_up (va_up (va_up κ q (12, (nF σ 2 + 1), 0)) q1 (13, (nF σ 2 + 1), 0)) q2 (14, (nF σ 2 + 1), 0)) 13 (nF σ 2 + 1) 0 (.inl (K 3, 12, rE (fun _ => none))) := At.old At.new hq2 (tne (by decide))
  have a14 : At (L ++ [q] ++ [q1] ++ [q2]) (va_up (va_up (va_up f q e0) q1 (.inl (K 3, 12, rE (fun _ => none)))) q2 (.inl (K 0, 100, .inl (fun _ => 0)))) (adS (adS (adS ad 12 (nF σ 2 + 1) 0 q) 13 (nF σ 2 + 1) 0 q1) 14 (nF σ 2 + 1) 0 q2) (va_up (va_up (va_up κ q (12, (nF σ 2 + 1), 0)) q1 (13, (nF σ 2 + 1), 0)) q2 (14, (nF σ 2 + 1), 0)) 14 (nF σ 2 + 1) 0 (.inl (K 0, 100, .inl (fun _ => 0))) := At.new
  refine ⟨?_, ?_, ?_, ?_, ?_, ?_, ?_, ?_, ?_, ?_, ?_, ?_, ?_, ?_, ?_, ?_, ?_, ?_⟩
  · refine ((((((((px0 hP).old hq (tne (by decide))).old hq1 (tne (by decide))).old hq2 (tne (by decide))).upa t12 (tne (by decide))).upa t8 (tne (by decide)))).seta rfl).eq ?_
    unfold c0
    rw [nu1]
    rfl
  · exact ((old _ _ _ _ (px1 hP) (tne (by decide)) (tne (by decide)) (tne (by decide)) (tne (by decide)) (tne (by decide))).eq rfl)
  · exact ((old _ _ _ _ (px2 hP) (tne (by decide)) (tne (by decide)) (tne (by decide)) (tne (by decide)) (tne (by decide))).eq rfl)
  · exact ((old _ _ _ _ (px3 hP) (tne (by decide)) (tne (by decide)) (tne (by decide)) (tne (by decide)) (tne (by decide))).eq rfl)
  · exact ((old _ _ _ _ (px4 hP) (tne (by decide)) (tne (by decide)) (tne (by decide)) (tne (by decide)) (tne (by decide))).eq rfl)
  · exact ((old _ _ _ _ (px5 hP) (tne (by decide)) (tne (by decide)) (tne (by decide)) (tne (by decide)) (tne (by decide))).eq rfl)
  · exact ((old _ _ _ _ (px6 hP) (tne (by decide)) (tne (by decide)) (tne (by decide)) (tne (by decide)) (tne (by decide))).eq rfl)
  · exact ((old _ _ _ _ (px7 hP) (tne (by decide)) (tne (by decide)) (tne (by decide)) (tne (by decide)) (tne (by decide))).eq rfl)
  · refine ((((((((px8 hP).old hq (tne (by decide))).old hq1 (tne (by decide))).old hq2 (tne (by decide))).upa t12 (tne (by decide))).seta rfl)).upa t0 (tne (by decide))).eq ?_
    unfold c8
    refine congrArg (fun w => (Sum.inl (K 6, 8, rE w) : va_E)) (funext fun i => ?_)
    unfold gun
    rw [nu1]
    by_cases hi : i = nF σ 2
    · rw [hi, va_up_self, if_pos (by omega)]
      exact congrArg some (adS_s ad 12 (nF σ 2 + 1) 0 q).symm
    · rw [va_up_ne _ _ hi]
      by_cases hi2 : i < nF σ 2
      · rw [if_pos hi2, if_pos (by omega)]
        exact congrArg some (adS_i (ad := ad) (k := 12) (k' := 12) (j := 0) (j' := 0) (q := q) (show i + 1 ≠ (nF σ 2 + 1) by omega)).symm
      · rw [if_neg hi2, if_neg (by omega)]
  · exact fun p h1 h2 => ((old _ _ _ _ (px9 hP p h1 h2) (tne (by decide)) (tne (by decide)) (tne (by decide)) (tne (by decide)) (tne (by decide))).eq rfl)
  · exact fun p h1 h2 => ((old _ _ _ _ (px10 hP p h1 h2) (tne (by decide)) (tne (by decide)) (tne (by decide)) (tne (by decide)) (tne (by decide))).eq rfl)
  · exact fun p h1 h2 r h3 h4 => ((old _ _ _ _ (px11 hP p h1 h2 r h3 h4) (tne (by decide)) (tne (by decide)) (tne (by decide)) (tne (by decide)) (tne (by decide))).eq rfl)
  · intro u1 h1 h2
    rw [nu1] at h2
    by_cases hu : u1 = (nF σ 2 + 1)
    · subst hu
      refine (((a12.seta (show (adS (adS (adS ad 12 (nF σ 2 + 1) 0 q) 13 (nF σ 2 + 1) 0 q1) 14 (nF σ 2 + 1) 0 q2) 12 (nF σ 2 + 1) 0 = q from adS_s ad 12 (nF σ 2 + 1) 0 q)).upa t8 (tne (by decide))).upa t0 (tne (by decide))).eq ?_
      unfold c12
      rw [show (sN σ).1 12 (nF σ 2 + 1) = 0 from hz.1, show (sN σ).1 13 (nF σ 2 + 1) = 0 from hz.2.1, show (sN σ).1 17 (nF σ 2 + 1) = 0 from hz.2.2.2.2.1, show (sN σ).1 18 (nF σ 2 + 1) = 0 from hz.2.2.2.2.2.1, show nA (sN σ) 19 (nF σ 2 + 1) = 0 from congrArg Int32.toNatClampNeg hz.2.2.2.2.2.2, show gfl (gN g (nF σ 2 + 1)) (nF σ 2 + 1) = 0 from pk_us, show geb (gN g (nF σ 2 + 1)) (nF σ 2 + 1) = 0 from pk_us, show (adS (adS (adS ad 12 (nF σ 2 + 1) 0 q) 13 (nF σ 2 + 1) 0 q1) 14 (nF σ 2 + 1) 0 q2) 13 (nF σ 2 + 1) 0 = q1 from adS_s (adS ad 12 (nF σ 2 + 1) 0 q) 13 (nF σ 2 + 1) 0 q1, show (adS (adS (adS ad 12 (nF σ 2 + 1) 0 q) 13 (nF σ 2 + 1) 0 q1) 14 (nF σ 2 + 1) 0 q2) 14 (nF σ 2 + 1) 0 = q2 from adS_s _ 14 (nF σ 2 + 1) 0 q2]
      rfl
    · refine (old _ _ _ _ (px12 hP u1 h1 (by omega)) (tni hu) (tne (by decide)) (tne (by decide)) (tne (by decide)) (tne (by decide))).eq ?_
      unfold c12
      rw [show gfl (gN g (nF σ 2 + 1)) u1 = gfl g u1 from pk_un hu, show geb (gN g (nF σ 2 + 1)) u1 = geb g u1 from pk_un hu, show (adS (adS (adS ad 12 (nF σ 2 + 1) 0 q) 13 (nF σ 2 + 1) 0 q1) 14 (nF σ 2 + 1) 0 q2) 13 u1 0 = ad 13 u1 0 from adS_i (ad := adS ad 12 (nF σ 2 + 1) 0 q) (k := 13) (j := 0) (q := q1) (k' := 13) (j' := 0) hu, show (adS (adS (adS ad 12 (nF σ 2 + 1) 0 q) 13 (nF σ 2 + 1) 0 q1) 14 (nF σ 2 + 1) 0 q2) 14 u1 0 = ad 14 u1 0 from adS_i hu]
      rfl
  · intro u1 h1 h2
    rw [nu1] at h2
    by_cases hu : u1 = (nF σ 2 + 1)
    · subst hu
      refine (((a13.upa t12 (tne (by decide))).upa t8 (tne (by decide))).upa t0 (tne (by decide))).eq ?_
      unfold c13
      refine congrArg (fun w => (Sum.inl (K 3, 12, rE w) : va_E)) (funext fun i => ?_)
      unfold gla
      by_cases hi : i < 12
      · rw [if_pos hi]
        rcases hI.lat (nF σ 2 + 1) (i + 1) (by omega) (by omega) (by omega) (by omega) with h9 | h9
        · rw [show nA (sN σ) 14 (13 * (nF σ 2 + 1) + (i + 1)) = 0 from h9, if_pos rfl]
        · by_cases h8 : nA σ 14 (13 * (nF σ 2 + 1) + (i + 1)) = 0
          · rw [show nA (sN σ) 14 (13 * (nF σ 2 + 1) + (i + 1)) = 0 from h8, if_pos rfl]
          · have := (hI.cls _ (by omega) h9.1).1.2
            rw [h9.2.1] at this
            omega
      · rw [if_neg hi]
    · exact ((old _ _ _ _ (px13 hP u1 h1 (by omega)) (tne (by decide)) (tni hu) (tne (by decide)) (tne (by decide)) (tne (by decide))).eq rfl)
  · intro u1 h1 h2
    rw [nu1] at h2
    by_cases hu : u1 = (nF σ 2 + 1)
    · subst hu
      refine (((a14.upa t12 (tne (by decide))).upa t8 (tne (by decide))).upa t0 (tne (by decide))).eq ?_
      unfold c14
      rw [show gmk (gN g (nF σ 2 + 1)) (nF σ 2 + 1) = (fun _ => 0) from va_up_self _ _ _]
    · refine (old _ _ _ _ (px14 hP u1 h1 (by omega)) (tne (by decide)) (tne (by decide)) (tni hu) (tne (by decide)) (tne (by decide))).eq ?_
      unfold c14
      rw [show gmk (gN g (nF σ 2 + 1)) u1 = gmk g u1 from va_up_ne _ _ hu]
  · intro c1 h1 h2
    refine (old _ _ _ _ (px15 hP c1 h1 h2) (tne (by decide)) (tne (by decide)) (tne (by decide)) (tne (by decide)) (tne (by decide))).eq ?_
    have hc := (hI.cls c1 h1 h2).1.2
    unfold c15
    rw [show (adS (adS (adS ad 12 (nF σ 2 + 1) 0 q) 13 (nF σ 2 + 1) 0 q1) 14 (nF σ 2 + 1) 0 q2) 12 (nA (sN σ) 6 c1) 0 = ad 12 (nA σ 6 c1) 0 from adS_i (ad := ad) (k := 12) (i := (nF σ 2 + 1)) (j := 0) (q := q) (k' := 12) (i' := nA σ 6 c1) (j' := 0) (by omega)]
    rfl
  · exact fun c1 h1 h2 => ((old _ _ _ _ (px16 hP c1 h1 h2) (tne (by decide)) (tne (by decide)) (tne (by decide)) (tne (by decide)) (tne (by decide))).eq rfl)
  · exact fun c1 h1 h2 h3 => ((old _ _ _ _ (px17 hP c1 h1 h2 h3) (tne (by decide)) (tne (by decide)) (tne (by decide)) (tne (by decide)) (tne (by decide))).eq rfl)
theorem Inv_newunit {σ : MS} (h : Inv σ) (hn : nF σ 2 < 8) : Inv (sN σ) := by
  have nu1 : nF (sN σ) 2 = nF σ 2 + 1 := nF_of (show (sN σ).2 2 = nI (nF σ 2 + 1) from rfl) (by omega)
  refine ⟨⟨h.1.1, ⟨nF σ 2 + 1, rfl, by omega⟩, h.1.2.2⟩, h.2.1, h.2.2.1, h.2.2.2.1, fun c h1 h2 => ?_, h.2.2.2.2.2.1, h.2.2.2.2.2.2.1, fun u h1 h2 => ?_, h.2.2.2.2.2.2.2.2⟩
  · have := h.cls c h1 h2
    rw [nu1]
    exact ⟨⟨this.1.1, Nat.le_succ_of_le this.1.2⟩, this.2⟩
  · rw [nu1] at h2
    exact h.uz u h1 (by omega)
theorem Lk_newunit {g : GX} {σ : MS} (hI : Inv σ) (h : Lk g σ 0) (hn : nF σ 2 < 8) : Lk (gN g (nF σ 2 + 1)) (sN σ) 0 := by
  have nu1 : nF (sN σ) 2 = nF σ 2 + 1 := nF_of (show (sN σ).2 2 = nI (nF σ 2 + 1) from rfl) (by omega)
  have hz := hI.uz (nF σ 2 + 1) (by omega) (by omega)
  refine ⟨fun u h1 h2 h3 => ?_, fun u h1 h2 i hi => ?_, h.2.2.1, h.2.2.2⟩
  · rw [nu1] at h2
    by_cases hu : u = nF σ 2 + 1
    · subst hu
      exact ⟨pk_us.trans hz.2.2.1.symm, pk_us.trans hz.2.2.2.1.symm⟩
    · exact ⟨(pk_un hu).trans (h.1 u h1 (by omega) h3).1, (pk_un hu).trans (h.1 u h1 (by omega) h3).2⟩
  · rw [nu1] at h2
    by_cases hu : u = nF σ 2 + 1
    · subst hu
      rw [show nA (sN σ) 19 (nF σ 2 + 1) = 0 from congrArg Int32.toNatClampNeg hz.2.2.2.2.2.2] at hi
      omega
    · rw [show gmk (gN g (nF σ 2 + 1)) u = gmk g u from va_up_ne _ _ hu]
      exact h.2.1 u h1 (by omega) i hi
