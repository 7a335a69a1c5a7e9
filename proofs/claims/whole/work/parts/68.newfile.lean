theorem Inv_9 {σ : MS} (h : Inv σ) {c : Nat} (hc1 : 1 ≤ c) (hc2 : c ≤ nF σ 3) : Inv (sA σ 9 c 1) := ⟨h.1, h.2.1, h.2.2.1, h.2.2.2.1, (fun c1 h1 h2 => ⟨(h.cls c1 h1 h2).1, (h.cls c1 h1 h2).2.1, (h.cls c1 h1 h2).2.2.1, by
    by_cases e : c1 = c
    · right; rw [e, sA_s]
    · rw [sA_n e]; exact (h.cls c1 h1 h2).2.2.2⟩), (fun c1 h1 (h2 : c1 = 0 ∨ nF σ 3 < c1) => ⟨(h.cz c1 h1 h2).1, (sA_n (by omega)).trans (h.cz c1 h1 h2).2.1, (h.cz c1 h1 h2).2.2⟩), h.2.2.2.2.2.2.1, h.2.2.2.2.2.2.2.1, h.2.2.2.2.2.2.2.2⟩
def gF (g : GX) (c : Nat) (s : FS) (b : Nat → Int32) : GX := (g.1, g.2.1, g.2.2.1, g.2.2.2.1, g.2.2.2.2.1, va_up g.2.2.2.2.2.1 c true, va_up g.2.2.2.2.2.2.1 c b, s)
theorem px_fw {K : Nat → ClassId} {L : List Nat} {f : Nat → va_E} {ad : AD} {κ : TG} {g : GX} {σ : MS} (hP : PX K L f ad κ g σ) : fw K f (ad 3 0 0) (ad 4 0 0) (ad 5 0 0) (gs g) = f := by
  have e5 : va_up f (ad 5 0 0) (c5 K ad g σ) = f := up_same f (ad 5 0 0) (px5 hP).2.2
  have e4 : va_up f (ad 4 0 0) (c4 K ad g σ) = f := up_same f (ad 4 0 0) (px4 hP).2.2
  have e3 : va_up f (ad 3 0 0) (c3 K ad g σ) = f := up_same f (ad 3 0 0) (px3 hP).2.2
  show va_up (va_up (va_up f (ad 5 0 0) (c5 K ad g σ)) (ad 4 0 0) (c4 K ad g σ)) (ad 3 0 0) (c3 K ad g σ) = f
  rw [e5, e4, e3]
theorem px_fOk {K : Nat → ClassId} {L : List Nat} {f : Nat → va_E} {ad : AD} {κ : TG} {g : GX} {σ : MS} (hP : PX K L f ad κ g σ) : fOk L (ad 3 0 0) (ad 4 0 0) (ad 5 0 0) := ⟨(px3 hP).1, (px4 hP).1, (px5 hP).1, (px4 hP).ne (px3 hP) (tne (by decide)), (px5 hP).ne (px3 hP) (tne (by decide)), (px5 hP).ne (px4 hP) (tne (by decide))⟩
theorem px_nf {K : Nat → ClassId} {L : List Nat} {f : Nat → va_E} {ad : AD} {κ : TG} {g : GX} {σ : MS} (hP : PX K L f ad κ g σ) {k i j : Nat} {e : va_E} (h : At L f ad κ k i j e) (hk : k ≠ 3 ∧ k ≠ 4 ∧ k ≠ 5) : nf (ad 3 0 0) (ad 4 0 0) (ad 5 0 0) (ad k i j) := ⟨h.ne (px3 hP) (tne hk.1), h.ne (px4 hP) (tne hk.2.1), h.ne (px5 hP) (tne hk.2.2)⟩
set_option maxHeartbeats 4000000 in
theorem PX_file {K : Nat → ClassId} {L : List Nat} {f : Nat → va_E} {ad : AD} {κ : TG} {g : GX} {σ : MS} (hP : PX K L f ad κ g σ) {q c : Nat} (hq : q ∉ L) (hc1 : 1 ≤ c) (hc2 : c ≤ nF σ 3) (s : FS) (gq : Nat → Int32) : PX K (L ++ [q]) (va_up (va_up (fw K f (ad 3 0 0) (ad 4 0 0) (ad 5 0 0) s) q (.inl (K 0, (fB σ c).length, .inl gq))) (ad 15 c 0) (.inr (4, [.int (nI c), .ref (ad 12 (nA σ 6 c) 0), .ref (ad 9 (nA σ 7 c) 0), .int (nI (nA σ 8 c)), .ref (ad 16 c 0), .ref q, .int (gsd g c), .int (σ.1 11 c), .int (σ.1 9 c)]))) (adS ad 17 c 0 q) (va_up κ q (17, c, 0)) (gF g c s gq) σ := by
  have t5 := (px5 hP).2.1
  have t4 := (px4 hP).2.1
  have t3 := (px3 hP).2.1
  have t15 : (va_up κ q (17, c, 0)) (ad 15 c 0) = (15, c, 0) := (px15 hP c hc1 hc2).tag hq
  have old : ∀ (k i j : Nat) (e : va_E), At L f ad κ k i j e → ((k, i, j) : Nat × Nat × Nat) ≠ (5, 0, 0) → ((k, i, j) : Nat × Nat × Nat) ≠ (4, 0, 0) → ((k, i, j) : Nat × Nat × Nat) ≠ (3, 0, 0) → ((k, i, j) : Nat × Nat × Nat) ≠ (17, c, 0) → ((k, i, j) : Nat × Nat × Nat) ≠ (15, c, 0) → At (L ++ [q]) (va_up (va_up (fw K f (ad 3 0 0) (ad 4 0 0) (ad 5 0 0) s) q (.inl (K 0, (fB σ c).length, .inl gq))) (ad 15 c 0) (.inr (4, [.int (nI c), .ref (ad 12 (nA σ 6 c) 0), .ref (ad 9 (nA σ 7 c) 0), .int (nI (nA σ 8 c)), .ref (ad 16 c 0), .ref q, .int (gsd g c), .int (σ.1 11 c), .int (σ.1 9 c)]))) (adS ad 17 c 0 q) (va_up κ q (17, c, 0)) k i j e := fun k i j e h n0 n1 n2 n3 n4 => (((((h.upa t5 n0).upa t4 n1).upa t3 n2).old hq n3).upa t15 n4)
  refine ⟨?_, ?_, ?_, ?_, ?_, ?_, ?_, ?_, ?_, ?_, ?_, ?_, ?_, ?_, ?_, ?_, ?_, ?_⟩
  · exact ((old _ _ _ _ (px0 hP) (tne (by decide)) (tne (by decide)) (tne (by decide)) (tne (by decide)) (tne (by decide))).eq rfl)
  · exact ((old _ _ _ _ (px1 hP) (tne (by decide)) (tne (by decide)) (tne (by decide)) (tne (by decide)) (tne (by decide))).eq rfl)
  · exact ((old _ _ _ _ (px2 hP) (tne (by decide)) (tne (by decide)) (tne (by decide)) (tne (by decide)) (tne (by decide))).eq rfl)
  · exact ((((((px3 hP).upa t5 (tne (by decide))).upa t4 (tne (by decide))).seta rfl).old hq (tne (by decide))).upa t15 (tne (by decide))).eq rfl
  · exact ((((((px4 hP).upa t5 (tne (by decide))).seta rfl).upa t3 (tne (by decide))).old hq (tne (by decide))).upa t15 (tne (by decide))).eq rfl
  · exact ((((((px5 hP).seta rfl).upa t4 (tne (by decide))).upa t3 (tne (by decide))).old hq (tne (by decide))).upa t15 (tne (by decide))).eq rfl
  · exact ((old _ _ _ _ (px6 hP) (tne (by decide)) (tne (by decide)) (tne (by decide)) (tne (by decide)) (tne (by decide))).eq rfl)
  · exact ((old _ _ _ _ (px7 hP) (tne (by decide)) (tne (by decide)) (tne (by decide)) (tne (by decide)) (tne (by decide))).eq rfl)
  · exact ((old _ _ _ _ (px8 hP) (tne (by decide)) (tne (by decide)) (tne (by decide)) (tne (by decide)) (tne (by decide))).eq rfl)
  · exact fun p h1 h2 => ((old _ _ _ _ (px9 hP p h1 h2) (tne (by decide)) (tne (by decide)) (tne (by decide)) (tne (by decide)) (tne (by decide))).eq rfl)
  · exact fun p h1 h2 => ((old _ _ _ _ (px10 hP p h1 h2) (tne (by decide)) (tne (by decide)) (tne (by decide)) (tne (by decide)) (tne (by decide))).eq rfl)
  · exact fun p h1 h2 r h3 h4 => ((old _ _ _ _ (px11 hP p h1 h2 r h3 h4) (tne (by decide)) (tne (by decide)) (tne (by decide)) (tne (by decide)) (tne (by decide))).eq rfl)
  · exact fun u1 h1 h2 => ((old _ _ _ _ (px12 hP u1 h1 h2) (tne (by decide)) (tne (by decide)) (tne (by decide)) (tne (by decide)) (tne (by decide))).eq rfl)
  · exact fun u1 h1 h2 => ((old _ _ _ _ (px13 hP u1 h1 h2) (tne (by decide)) (tne (by decide)) (tne (by decide)) (tne (by decide)) (tne (by decide))).eq rfl)
  · exact fun u1 h1 h2 => ((old _ _ _ _ (px14 hP u1 h1 h2) (tne (by decide)) (tne (by decide)) (tne (by decide)) (tne (by decide)) (tne (by decide))).eq rfl)
  · intro c1 h1 h2
    by_cases hc : c1 = c
    · subst hc
      refine ((((((px15 hP c1 h1 h2).upa t5 (tne (by decide))).upa t4 (tne (by decide))).upa t3 (tne (by decide))).old hq (tne (by decide))).seta rfl).eq ?_
      unfold c15
      rw [show gfa (gF g c1 s gq) c1 = true from va_up_self _ _ _, adS_s]
      rfl
    · refine (old _ _ _ _ (px15 hP c1 h1 h2) (tne (by decide)) (tne (by decide)) (tne (by decide)) (tne (by decide)) (tni hc)).eq ?_
      unfold c15
      rw [show gfa (gF g c s gq) c1 = gfa g c1 from va_up_ne _ _ hc, show (adS ad 17 c 0 q) 17 c1 0 = ad 17 c1 0 from adS_i hc]
      rfl
  · exact fun c1 h1 h2 => ((old _ _ _ _ (px16 hP c1 h1 h2) (tne (by decide)) (tne (by decide)) (tne (by decide)) (tne (by decide)) (tne (by decide))).eq rfl)
  · intro c1 h1 h2 h3
    by_cases hc : c1 = c
    · subst hc
      refine (At.new.upa t15 (tne (by decide))).eq ?_
      unfold c17
      rw [show gfb (gF g c1 s gq) c1 = gq from va_up_self _ _ _]
    · rw [show gfa (gF g c s gq) c1 = gfa g c1 from va_up_ne _ _ hc] at h3
      refine (old _ _ _ _ (px17 hP c1 h1 h2 h3) (tne (by decide)) (tne (by decide)) (tne (by decide)) (tni hc) (tne (by decide))).eq ?_
      unfold c17
      rw [show gfb (gF g c s gq) c1 = gfb g c1 from va_up_ne _ _ hc]
theorem Lk_file {g : GX} {σ : MS} {run c : Nat} (h : Lk g σ run) (s : FS) {gq : Nat → Int32} (hg : ∀ i, i < (fB σ c).length → gq i = ((fB σ c).getD i 0).toInt8.toInt32) : Lk (gF g c s gq) σ run :=
  ⟨h.1, h.2.1, h.2.2.1, fun c1 h1 h2 hf i hi => by
    by_cases hc : c1 = c
    · subst hc
      rw [show gfb (gF g c1 s gq) c1 = gq from va_up_self _ _ _]
      exact hg i hi
    · rw [show gfa (gF g c s gq) c1 = gfa g c1 from va_up_ne _ _ hc] at hf
      rw [show gfb (gF g c s gq) c1 = gfb g c1 from va_up_ne _ _ hc]
      exact h.2.2.2 c1 h1 h2 hf i hi⟩
