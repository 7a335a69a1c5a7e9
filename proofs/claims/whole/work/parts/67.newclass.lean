def sM0 (σ : MS) (u p : Nat) : MS := sA (sA (sA (sF σ 3 (nI (nF σ 3 + 1))) 6 (nF σ 3 + 1) (nI u)) 7 (nF σ 3 + 1) (nI p)) 8 (nF σ 3 + 1) (σ.1 1 p)
def sM (σ : MS) (u p : Nat) : MS := sA (sM0 σ u p) 14 (13 * u + p) (nI (nF σ 3 + 1))
def sMd (σ : MS) (u p o : Nat) (x9 x10 : Int32) : MS := sA (sA (sA (sM0 σ u p) 9 o x9) 10 o x10) 14 (13 * u + p) (nI (nF σ 3 + 1))
def gM (g : GX) (c : Nat) : GX := (g.1, g.2.1, g.2.2.1, upd g.2.2.2.1 c 0, va_up g.2.2.2.2.1 c (fun _ => 0), va_up g.2.2.2.2.2.1 c false, g.2.2.2.2.2.2)
theorem sMd_N (σ : MS) (u p : Nat) : sMd σ u p 0 (σ.1 9 0) (σ.1 10 0) = sM σ u p := by
  unfold sMd sM
  rw [show sA (sM0 σ u p) 9 0 (σ.1 9 0) = sM0 σ u p from sA_id (sM0 σ u p) 9 0, show sA (sM0 σ u p) 10 0 (σ.1 10 0) = sM0 σ u p from sA_id (sM0 σ u p) 10 0]
section MD
variable {σ : MS} {u p o : Nat} {x9 x10 : Int32}
theorem sMd_nc (hn : nF σ 3 < 40) : nF (sMd σ u p o x9 x10) 3 = nF σ 3 + 1 := nF_of (show (sMd σ u p o x9 x10).2 3 = nI (nF σ 3 + 1) from rfl) (by omega)
theorem sMd_6 {c : Nat} (h : c ≠ nF σ 3 + 1) : nA (sMd σ u p o x9 x10) 6 c = nA σ 6 c := congrArg Int32.toNatClampNeg (sA_n (σ := sF σ 3 (nI (nF σ 3 + 1))) (j := 6) (x := nI u) h)
theorem sMd_7 {c : Nat} (h : c ≠ nF σ 3 + 1) : nA (sMd σ u p o x9 x10) 7 c = nA σ 7 c := congrArg Int32.toNatClampNeg (sA_n (σ := sA (sF σ 3 (nI (nF σ 3 + 1))) 6 (nF σ 3 + 1) (nI u)) (j := 7) (x := nI p) h)
theorem sMd_8 {c : Nat} (h : c ≠ nF σ 3 + 1) : (sMd σ u p o x9 x10).1 8 c = σ.1 8 c := sA_n (σ := sA (sA (sF σ 3 (nI (nF σ 3 + 1))) 6 (nF σ 3 + 1) (nI u)) 7 (nF σ 3 + 1) (nI p)) (j := 8) (x := σ.1 1 p) h
theorem sMd_6n (hu : u ≤ 8) : nA (sMd σ u p o x9 x10) 6 (nF σ 3 + 1) = u := nA_of (sA_s (sF σ 3 (nI (nF σ 3 + 1))) 6 (nF σ 3 + 1) (nI u)) (by omega)
theorem sMd_7n (hp : p ≤ 12) : nA (sMd σ u p o x9 x10) 7 (nF σ 3 + 1) = p := nA_of (sA_s (sA (sF σ 3 (nI (nF σ 3 + 1))) 6 (nF σ 3 + 1) (nI u)) 7 (nF σ 3 + 1) (nI p)) (by omega)
theorem sMd_8n : (sMd σ u p o x9 x10).1 8 (nF σ 3 + 1) = σ.1 1 p := sA_s (sA (sA (sF σ 3 (nI (nF σ 3 + 1))) 6 (nF σ 3 + 1) (nI u)) 7 (nF σ 3 + 1) (nI p)) 8 (nF σ 3 + 1) (σ.1 1 p)
theorem sMd_9 {c : Nat} (h : c ≠ o) : (sMd σ u p o x9 x10).1 9 c = σ.1 9 c := sA_n (σ := sM0 σ u p) (j := 9) (x := x9) h
theorem sMd_9o : (sMd σ u p o x9 x10).1 9 o = x9 := sA_s (sM0 σ u p) 9 o x9
theorem sMd_10 {c : Nat} (h : c ≠ o) : (sMd σ u p o x9 x10).1 10 c = σ.1 10 c := sA_n (σ := sA (sM0 σ u p) 9 o x9) (j := 10) (x := x10) h
theorem sMd_10o : (sMd σ u p o x9 x10).1 10 o = x10 := sA_s (sA (sM0 σ u p) 9 o x9) 10 o x10
theorem sMd_14 {i : Nat} (h : i ≠ 13 * u + p) : nA (sMd σ u p o x9 x10) 14 i = nA σ 14 i := congrArg Int32.toNatClampNeg (sA_n (σ := sA (sA (sM0 σ u p) 9 o x9) 10 o x10) (j := 14) (x := nI (nF σ 3 + 1)) h)
theorem sMd_14n (hn : nF σ 3 < 40) : nA (sMd σ u p o x9 x10) 14 (13 * u + p) = nF σ 3 + 1 := nA_of (sA_s _ 14 (13 * u + p) (nI (nF σ 3 + 1))) (by omega)
theorem fB_made (hI : Inv σ) {c : Nat} (hc1 : 1 ≤ c) (hc2 : c ≤ nF σ 3) : fB (sMd σ u p o x9 x10) c = fB σ c :=
  fB_c hI hc1 hc2 (sMd_7 (by omega)) (congrArg Int32.toNatClampNeg (sMd_8 (by omega))) rfl rfl (fun _ _ _ => rfl)
end MD
set_option maxHeartbeats 4000000 in
theorem Inv_made {σ : MS} {u p o : Nat} {x9 x10 : Int32} (h : Inv σ) (hn : nF σ 3 < 40) (hu1 : 1 ≤ u) (hu2 : u ≤ nF σ 2) (hp1 : 1 ≤ p) (hp2 : p ≤ nF σ 1) (ho : o = nA σ 14 (13 * u + p)) (h9 : o ≠ 0 → x9 = 1) (h0 : o = 0 → x9 = 0 ∧ x10 = 0) : Inv (sMd σ u p o x9 x10) := by
  have hnu := h.nu.2
  have hnp := h.np.2
  have hoc : o ≤ nF σ 3 := by
    rcases h.lat u p hu1 (by omega) hp1 (by omega) with h8 | h8
    · omega
    · omega
  have hix : ∀ u1 p1, 1 ≤ p1 → p1 ≤ 12 → 13 * u1 + p1 = 13 * u + p → u1 = u ∧ p1 = p := fun u1 p1 a b e => by omega
  refine ⟨⟨h.1.1, h.1.2.1, ⟨nF σ 3 + 1, rfl, by omega⟩, h.1.2.2.2.1, h.1.2.2.2.2.1, fun c hc => ?_, fun i hi => ?_, h.1.2.2.2.2.2.2.2⟩, h.2.1, h.2.2.1, h.2.2.2.1, fun c h1 h2 => ?_, fun c h1 h2 => ?_, fun u1 p1 a1 a2 a3 a4 => ?_, h.2.2.2.2.2.2.2.1, h.2.2.2.2.2.2.2.2⟩
  · have := h.1.2.2.2.2.2.1 c hc
    exact ⟨isN_upd (σ := sF σ 3 (nI (nF σ 3 + 1))) (j := 6) ⟨u, rfl, by omega⟩ this.1, isN_upd (σ := sA (sF σ 3 (nI (nF σ 3 + 1))) 6 (nF σ 3 + 1) (nI u)) (j := 7) ⟨p, rfl, by omega⟩ this.2.1, isN_upd (σ := sA (sA (sF σ 3 (nI (nF σ 3 + 1))) 6 (nF σ 3 + 1) (nI u)) 7 (nF σ 3 + 1) (nI p)) (j := 8) (h.1.2.2.2.2.1 p (by omega)) this.2.2⟩
  · exact isN_upd (σ := sA (sA (sM0 σ u p) 9 o x9) 10 o x10) (j := 14) ⟨nF σ 3 + 1, rfl, by omega⟩ (h.1.2.2.2.2.2.2.1 i hi)
  · rw [sMd_nc hn] at h2
    by_cases e : c = nF σ 3 + 1
    · subst e
      rw [sMd_6n (by omega), sMd_7n (by omega)]
      refine ⟨⟨hu1, hu2⟩, ⟨hp1, hp2⟩, ?_, Or.inl (sMd_14n hn)⟩
      show nA (sMd σ u p o x9 x10) 8 (nF σ 3 + 1) ≤ nA σ 1 p
      rw [nA, sMd_8n]
      exact Nat.le_refl _
    · have hc := h.cls c h1 (by omega)
      rw [sMd_6 e, sMd_7 e]
      refine ⟨hc.1, hc.2.1, ?_, ?_⟩
      · show nA (sMd σ u p o x9 x10) 8 c ≤ nA σ 1 (nA σ 7 c)
        rw [nA, sMd_8 e]
        exact hc.2.2.1
      · by_cases eo : c = o
        · right
          rw [eo, sMd_9o]
          exact h9 (by omega)
        · rw [sMd_9 eo]
          by_cases ei : 13 * nA σ 6 c + nA σ 7 c = 13 * u + p
          · right
            rcases hc.2.2.2 with h8 | h8
            · rw [ei, ← ho] at h8
              exact absurd h8.symm eo
            · exact h8
          · rw [sMd_14 ei]
            exact hc.2.2.2
  · rw [sMd_nc hn] at h2
    have hc := h.cz c h1 (by omega)
    rw [sMd_8 (by omega)]
    refine ⟨hc.1, ?_, ?_, hc.2.2.2⟩
    · by_cases eo : c = o
      · rw [eo, sMd_9o]
        exact (h0 (by omega)).1
      · rw [sMd_9 eo]; exact hc.2.1
    · by_cases eo : c = o
      · rw [eo, sMd_10o]
        exact (h0 (by omega)).2
      · rw [sMd_10 eo]; exact hc.2.2.1
  · rw [sMd_nc hn]
    by_cases e : 13 * u1 + p1 = 13 * u + p
    · obtain ⟨rfl, rfl⟩ := hix u1 p1 a3 a4 e
      right
      rw [sMd_14n hn, sMd_6n (by omega), sMd_7n (by omega)]
      exact ⟨Nat.le_refl _, rfl, rfl⟩
    · rw [sMd_14 e]
      rcases h.lat u1 p1 a1 a2 a3 a4 with h8 | h8
      · exact Or.inl h8
      · right
        rw [sMd_6 (by omega), sMd_7 (by omega)]
        exact ⟨by omega, h8.2⟩
set_option maxHeartbeats 4000000 in
theorem Lk_made {g : GX} {σ : MS} {run u p o : Nat} {x9 x10 : Int32} (hI : Inv σ) (h : Lk g σ run) (hn : nF σ 3 < 40) (hu1 : 1 ≤ u) (hu2 : u ≤ nF σ 2) (hp1 : 1 ≤ p) (hp2 : p ≤ nF σ 1) (ho : o = nA σ 14 (13 * u + p)) : Lk (gM g (nF σ 3 + 1)) (sMd σ u p o x9 x10) run := by
  have hnu := hI.nu.2
  have hnp := hI.np.2
  have hoc : o = 0 ∨ (o ≤ nF σ 3 ∧ nA σ 6 o = u ∧ nA σ 7 o = p) := by
    rcases hI.lat u p hu1 (by omega) hp1 (by omega) with h8 | h8
    · exact Or.inl (by omega)
    · right; rw [ho]; exact h8
  refine ⟨h.1, h.2.1, fun c h1 h2 hl => ?_, fun c h1 h2 hf i hi => ?_⟩
  · rw [sMd_nc hn] at h2
    by_cases e : c = nF σ 3 + 1
    · subst e
      have hz := hI.cz (nF σ 3 + 1) (by omega) (by omega)
      have e10 : (sMd σ u p o x9 x10).1 10 (nF σ 3 + 1) = 0 := by rw [sMd_10 (by omega)]; exact hz.2.2.1
      exact ⟨pk_us.trans e10.symm, fun hs => absurd e10 hs⟩
    · rw [sMd_6 e, sMd_7 e] at hl ⊢
      have hc := hI.cls c h1 (by omega)
      have ei : 13 * nA σ 6 c + nA σ 7 c ≠ 13 * u + p := fun ei => by
        rw [ei, sMd_14n hn] at hl
        exact e hl.symm
      rw [sMd_14 ei] at hl
      have eo : c ≠ o := fun eo => by
        rcases hoc with h8 | h8
        · omega
        · rw [eo, h8.2.1, h8.2.2] at ei
          exact ei rfl
      rw [sMd_10 eo]
      have hk := h.2.2.1 c h1 (by omega) hl
      exact ⟨(pk_un e).trans hk.1, fun hs i hi => (congrFun (va_up_ne g.2.2.2.2.1 (fun _ => 0) e) i).trans (hk.2 hs i hi)⟩
  · rw [sMd_nc hn] at h2
    by_cases e : c = nF σ 3 + 1
    · subst e
      rw [show gfa (gM g (nF σ 3 + 1)) (nF σ 3 + 1) = false from va_up_self _ _ _] at hf
      exact absurd hf (by decide)
    · rw [fB_made hI h1 (by omega)] at hi ⊢
      rw [show gfa (gM g (nF σ 3 + 1)) c = gfa g c from va_up_ne _ _ e] at hf
      exact h.2.2.2 c h1 (by omega) hf i hi
set_option maxHeartbeats 4000000 in
theorem PX_made {K : Nat → ClassId} {L : List Nat} {f : Nat → va_E} {ad : AD} {κ : TG} {g : GX} {σ : MS} (hP : PX K L f ad κ g σ) (hI : Inv σ) {q q1 : Nat} {e0 : va_E} (hq : q ∉ L) (hq1 : q1 ∉ L ++ [q]) (hn : nF σ 3 < 40) {u p : Nat} (hu1 : 1 ≤ u) (hu2 : u ≤ nF σ 2) (hp1 : 1 ≤ p) (hp2 : p ≤ nF σ 1) : PX K (L ++ [q] ++ [q1]) (va_up (va_up (va_up (va_up (va_up (va_up f q e0) q1 (.inl (K 0, nA σ 0 p, .inl (fun _ => 0)))) q (.inr (4, [.int (nI (nF σ 3 + 1)), .ref (ad 12 u 0), .ref (ad 9 p 0), .int (nI (nA σ 1 p)), .ref q1, va_rf (none), .int 0, .int 0, .int 0]))) (ad 7 0 0) (.inl (K 3, 40, rE (va_up (gcl ad σ) (nF σ 3) (some q))))) (ad 1 0 0) (.inr (8, [.ref (ad 6 0 0), .ref (ad 7 0 0), .int (nI (nF σ 1)), .int (nI (nF σ 3 + 1))]))) (ad 13 u 0) (.inl (K 3, 12, rE (va_up (gla ad σ u) (p - 1) (some q))))) (adS (adS ad 15 (nF σ 3 + 1) 0 q) 16 (nF σ 3 + 1) 0 q1) (va_up (va_up κ q (15, (nF σ 3 + 1), 0)) q1 (16, (nF σ 3 + 1), 0)) (gM g (nF σ 3 + 1)) (sM σ u p) := by
  have hnu := hI.nu.2
  have hnp := hI.np.2
  have hqq : q ≠ q1 := fun h => hq1 (h ▸ in_new)
  have t15 : (va_up (va_up κ q (15, (nF σ 3 + 1), 0)) q1 (16, (nF σ 3 + 1), 0)) q = (15, (nF σ 3 + 1), 0) := (va_up_ne _ _ hqq).trans (va_up_self _ _ _)
  have t7 : (va_up (va_up κ q (15, (nF σ 3 + 1), 0)) q1 (16, (nF σ 3 + 1), 0)) (ad 7 0 0) = (7, 0, 0) := (va_up_ne _ _ (ne_new (in_app (px7 hP).1) hq1)).trans ((px7 hP).tag hq)
  have t1 : (va_up (va_up κ q (15, (nF σ 3 + 1), 0)) q1 (16, (nF σ 3 + 1), 0)) (ad 1 0 0) = (1, 0, 0) := (va_up_ne _ _ (ne_new (in_app (px1 hP).1) hq1)).trans ((px1 hP).tag hq)
  have t13 : (va_up (va_up κ q (15, (nF σ 3 + 1), 0)) q1 (16, (nF σ 3 + 1), 0)) (ad 13 u 0) = (13, u, 0) := (va_up_ne _ _ (ne_new (in_app (px13 hP u hu1 hu2).1) hq1)).trans ((px13 hP u hu1 hu2).tag hq)
  rw [← sMd_N]
  have nc1 : nF (sMd σ u p 0 (σ.1 9 0) (σ.1 10 0)) 3 = (nF σ 3 + 1) := sMd_nc hn
  have old : ∀ (k i j : Nat) (e : va_E), At L f ad κ k i j e → ((k, i, j) : Nat × Nat × Nat) ≠ (15, (nF σ 3 + 1), 0) → ((k, i, j) : Nat × Nat × Nat) ≠ (16, (nF σ 3 + 1), 0) → ((k, i, j) : Nat × Nat × Nat) ≠ (7, 0, 0) → ((k, i, j) : Nat × Nat × Nat) ≠ (1, 0, 0) → ((k, i, j) : Nat × Nat × Nat) ≠ (13, u, 0) → At (L ++ [q] ++ [q1]) (va_up (va_up (va_up (va_up (va_up (va_up f q e0) q1 (.inl (K 0, nA σ 0 p, .inl (fun _ => 0)))) q (.inr (4, [.int (nI (nF σ 3 + 1)), .ref (ad 12 u 0), .ref (ad 9 p 0), .int (nI (nA σ 1 p)), .ref q1, va_rf (none), .int 0, .int 0, .int 0]))) (ad 7 0 0) (.inl (K 3, 40, rE (va_up (gcl ad σ) (nF σ 3) (some q))))) (ad 1 0 0) (.inr (8, [.ref (ad 6 0 0), .ref (ad 7 0 0), .int (nI (nF σ 1)), .int (nI (nF σ 3 + 1))]))) (ad 13 u 0) (.inl (K 3, 12, rE (va_up (gla ad σ u) (p - 1) (some q))))) (adS (adS ad 15 (nF σ 3 + 1) 0 q) 16 (nF σ 3 + 1) 0 q1) (va_up (va_up κ q (15, (nF σ 3 + 1), 0)) q1 (16, (nF σ 3 + 1), 0)) k i j e := fun k i j e h n0 n1 n2 n3 n4 => ((((((h.old hq n0).old hq1 n1).upa t15 n0).upa t7 n2).upa t1 n3).upa t13 n4)
  have a15 : At (L ++ [q] ++ [q1]) (va_up (va_up f q e0) q1 (.inl (K 0, nA σ 0 p, .inl (fun _ => 0)))) (adS (adS ad 15 (nF σ 3 + 1) 0 q) 16 (nF σ 3 + 1) 0 q1) (va_up (va_up κ q (15, (nF σ 3 + 1), 0)) q1 (16, (nF σ 3 + 1), 0)) 15 (nF σ 3 + 1) 0 e0 := At.old At.new hq1 (tne (by decide))
  have a16 : At (L ++ [q] ++ [q1]) (va_up (va_up f q e0) q1 (.inl (K 0, nA σ 0 p, .inl (fun _ => 0)))) (adS (adS ad 15 (nF σ 3 + 1) 0 q) 16 (nF σ 3 + 1) 0 q1) (va_up (va_up κ q (15, (nF σ 3 + 1), 0)) q1 (16, (nF σ 3 + 1), 0)) 16 (nF σ 3 + 1) 0 (.inl (K 0, nA σ 0 p, .inl (fun _ => 0))) := At.new
  refine ⟨?_, ?_, ?_, ?_, ?_, ?_, ?_, ?_, ?_, ?_, ?_, ?_, ?_, ?_, ?_, ?_, ?_, ?_⟩
  · exact ((old _ _ _ _ (px0 hP) (tne (by decide)) (tne (by decide)) (tne (by decide)) (tne (by decide)) (tne (by decide))).eq rfl)
  · refine (((((((px1 hP).old hq (tne (by decide))).old hq1 (tne (by decide))).upa t15 (tne (by decide))).upa t7 (tne (by decide))).seta rfl).upa t13 (tne (by decide))).eq ?_
    unfold c1
    rw [nc1]
    rfl
  · exact ((old _ _ _ _ (px2 hP) (tne (by decide)) (tne (by decide)) (tne (by decide)) (tne (by decide)) (tne (by decide))).eq rfl)
  · exact ((old _ _ _ _ (px3 hP) (tne (by decide)) (tne (by decide)) (tne (by decide)) (tne (by decide)) (tne (by decide))).eq rfl)
  · exact ((old _ _ _ _ (px4 hP) (tne (by decide)) (tne (by decide)) (tne (by decide)) (tne (by decide)) (tne (by decide))).eq rfl)
  · exact ((old _ _ _ _ (px5 hP) (tne (by decide)) (tne (by decide)) (tne (by decide)) (tne (by decide)) (tne (by decide))).eq rfl)
  · exact ((old _ _ _ _ (px6 hP) (tne (by decide)) (tne (by decide)) (tne (by decide)) (tne (by decide)) (tne (by decide))).eq rfl)
  · refine (((((((px7 hP).old hq (tne (by decide))).old hq1 (tne (by decide))).upa t15 (tne (by decide))).seta rfl).upa t1 (tne (by decide))).upa t13 (tne (by decide))).eq ?_
    unfold c7
    refine congrArg (fun w => (Sum.inl (K 3, 40, rE w) : va_E)) (funext fun i => ?_)
    unfold gcl
    rw [nc1]
    by_cases hi : i = nF σ 3
    · rw [hi, va_up_self, if_pos (by omega)]
      exact congrArg some (adS_s ad 15 (nF σ 3 + 1) 0 q).symm
    · rw [va_up_ne _ _ hi]
      by_cases hi2 : i < nF σ 3
      · rw [if_pos hi2, if_pos (by omega)]
        exact congrArg some (adS_i (ad := ad) (k := 15) (k' := 15) (j := 0) (j' := 0) (q := q) (show i + 1 ≠ (nF σ 3 + 1) by omega)).symm
      · rw [if_neg hi2, if_neg (by omega)]
  · exact ((old _ _ _ _ (px8 hP) (tne (by decide)) (tne (by decide)) (tne (by decide)) (tne (by decide)) (tne (by decide))).eq rfl)
  · exact fun p h1 h2 => ((old _ _ _ _ (px9 hP p h1 h2) (tne (by decide)) (tne (by decide)) (tne (by decide)) (tne (by decide)) (tne (by decide))).eq rfl)
  · exact fun p h1 h2 => ((old _ _ _ _ (px10 hP p h1 h2) (tne (by decide)) (tne (by decide)) (tne (by decide)) (tne (by decide)) (tne (by decide))).eq rfl)
  · exact fun p h1 h2 r h3 h4 => ((old _ _ _ _ (px11 hP p h1 h2 r h3 h4) (tne (by decide)) (tne (by decide)) (tne (by decide)) (tne (by decide)) (tne (by decide))).eq rfl)
  · exact fun u1 h1 h2 => ((old _ _ _ _ (px12 hP u1 h1 h2) (tne (by decide)) (tne (by decide)) (tne (by decide)) (tne (by decide)) (tne (by decide))).eq rfl)
  · intro u1 h1 (h2 : u1 ≤ nF σ 2)
    by_cases hu : u1 = u
    · subst hu
      refine (((((((px13 hP u1 h1 h2).old hq (tne (by decide))).old hq1 (tne (by decide))).upa t15 (tne (by decide))).upa t7 (tne (by decide))).upa t1 (tne (by decide))).seta rfl).eq ?_
      unfold c13
      refine congrArg (fun w => (Sum.inl (K 3, 12, rE w) : va_E)) (funext fun i => ?_)
      unfold gla
      by_cases hi : i = p - 1
      · rw [hi, va_up_self, if_pos (by omega), show p - 1 + 1 = p by omega, sMd_14n hn, if_neg (by omega)]
        exact congrArg some (adS_s ad 15 (nF σ 3 + 1) 0 q).symm
      · rw [va_up_ne _ _ hi, sMd_14 (by omega)]
        by_cases hi2 : i < 12
        · rw [if_pos hi2, if_pos hi2]
          by_cases hz : nA σ 14 (13 * u1 + (i + 1)) = 0
          · rw [if_pos hz, if_pos hz]
          · rw [if_neg hz, if_neg hz]
            have hlat := hI.lat u1 (i + 1) h1 (by omega) (by omega) (by omega)
            exact congrArg some (adS_i (ad := ad) (k := 15) (k' := 15) (j := 0) (j' := 0) (q := q) (show nA σ 14 (13 * u1 + (i + 1)) ≠ (nF σ 3 + 1) by omega)).symm
        · rw [if_neg hi2, if_neg hi2]
    · refine (old _ _ _ _ (px13 hP u1 h1 h2) (tne (by decide)) (tne (by decide)) (tne (by decide)) (tne (by decide)) (tni hu)).eq ?_
      unfold c13
      refine congrArg (fun w => (Sum.inl (K 3, 12, rE w) : va_E)) (funext fun i => ?_)
      unfold gla
      by_cases hi2 : i < 12
      · rw [if_pos hi2, if_pos hi2, sMd_14 (by omega)]
        by_cases hz : nA σ 14 (13 * u1 + (i + 1)) = 0
        · rw [if_pos hz, if_pos hz]
        · rw [if_neg hz, if_neg hz]
          have hlat := hI.lat u1 (i + 1) h1 (by omega) (by omega) (by omega)
          exact congrArg some (adS_i (ad := ad) (k := 15) (k' := 15) (j := 0) (j' := 0) (q := q) (show nA σ 14 (13 * u1 + (i + 1)) ≠ (nF σ 3 + 1) by omega)).symm
      · rw [if_neg hi2, if_neg hi2]
  · exact fun u1 h1 h2 => ((old _ _ _ _ (px14 hP u1 h1 h2) (tne (by decide)) (tne (by decide)) (tne (by decide)) (tne (by decide)) (tne (by decide))).eq rfl)
  · intro c1 h1 h2
    rw [nc1] at h2
    by_cases hc : c1 = (nF σ 3 + 1)
    · subst hc
      refine ((((a15.seta (show (adS (adS ad 15 (nF σ 3 + 1) 0 q) 16 (nF σ 3 + 1) 0 q1) 15 (nF σ 3 + 1) 0 = q from adS_s ad 15 (nF σ 3 + 1) 0 q)).upa t7 (tne (by decide))).upa t1 (tne (by decide))).upa t13 (tne (by decide))).eq ?_
      have hz := hI.cz (nF σ 3 + 1) (by omega) (by omega)
      unfold c15
      rw [sMd_6n (by omega), sMd_7n (by omega), show nA (sMd σ u p 0 (σ.1 9 0) (σ.1 10 0)) 8 (nF σ 3 + 1) = nA σ 1 p from congrArg Int32.toNatClampNeg sMd_8n, show gfa (gM g (nF σ 3 + 1)) (nF σ 3 + 1) = false from va_up_self _ _ _, show gsd (gM g (nF σ 3 + 1)) (nF σ 3 + 1) = 0 from pk_us, sMd_9 (by omega), hz.2.1, show (sMd σ u p 0 (σ.1 9 0) (σ.1 10 0)).1 11 (nF σ 3 + 1) = 0 from hz.2.2.2, show (adS (adS ad 15 (nF σ 3 + 1) 0 q) 16 (nF σ 3 + 1) 0 q1) 16 (nF σ 3 + 1) 0 = q1 from adS_s _ 16 (nF σ 3 + 1) 0 q1]
      rfl
    · refine (old _ _ _ _ (px15 hP c1 h1 (by omega)) (tni hc) (tne (by decide)) (tne (by decide)) (tne (by decide)) (tne (by decide))).eq ?_
      unfold c15
      rw [sMd_6 hc, sMd_7 hc, show nA (sMd σ u p 0 (σ.1 9 0) (σ.1 10 0)) 8 c1 = nA σ 8 c1 from congrArg Int32.toNatClampNeg (sMd_8 hc), show gfa (gM g (nF σ 3 + 1)) c1 = gfa g c1 from va_up_ne _ _ hc, show gsd (gM g (nF σ 3 + 1)) c1 = gsd g c1 from pk_un hc, sMd_9 (by omega), show (adS (adS ad 15 (nF σ 3 + 1) 0 q) 16 (nF σ 3 + 1) 0 q1) 16 c1 0 = ad 16 c1 0 from adS_i hc]
      rfl
  · intro c1 h1 h2
    rw [nc1] at h2
    by_cases hc : c1 = (nF σ 3 + 1)
    · subst hc
      refine ((((a16.upa t15 (tne (by decide))).upa t7 (tne (by decide))).upa t1 (tne (by decide))).upa t13 (tne (by decide))).eq ?_
      unfold c16
      rw [sMd_7n (by omega), show gW (gM g (nF σ 3 + 1)) (nF σ 3 + 1) = (fun _ => 0) from va_up_self _ _ _]
      rfl
    · refine (old _ _ _ _ (px16 hP c1 h1 (by omega)) (tne (by decide)) (tni hc) (tne (by decide)) (tne (by decide)) (tne (by decide))).eq ?_
      unfold c16
      rw [sMd_7 hc, show gW (gM g (nF σ 3 + 1)) c1 = gW g c1 from va_up_ne _ _ hc]
      rfl
  · intro c1 h1 h2 h3
    rw [nc1] at h2
    by_cases hc : c1 = (nF σ 3 + 1)
    · subst hc
      rw [show gfa (gM g (nF σ 3 + 1)) (nF σ 3 + 1) = false from va_up_self _ _ _] at h3
      exact absurd h3 (by decide)
    · rw [show gfa (gM g (nF σ 3 + 1)) c1 = gfa g c1 from va_up_ne _ _ hc] at h3
      refine (old _ _ _ _ (px17 hP c1 h1 (by omega) h3) (tne (by decide)) (tne (by decide)) (tne (by decide)) (tne (by decide)) (tne (by decide))).eq ?_
      unfold c17
      rw [fB_made hI h1 (by omega)]
      rfl
