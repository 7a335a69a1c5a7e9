section INS
variable {σ : MS}
theorem Inv_12 (h : Inv σ) {u : Nat} (hu : u ≤ nF σ 2) (x : Int32) : Inv (sA σ 12 u x) := ⟨h.1, h.2.1, h.2.2.1, h.2.2.2.1, h.2.2.2.2.1, h.2.2.2.2.2.1, h.2.2.2.2.2.2.1, (fun u1 h1 (h2 : nF σ 2 < u1) => ⟨(sA_n (by omega)).trans (h.uz u1 h1 h2).1, (h.uz u1 h1 h2).2.1, (h.uz u1 h1 h2).2.2.1, (h.uz u1 h1 h2).2.2.2.1, (h.uz u1 h1 h2).2.2.2.2.1, (h.uz u1 h1 h2).2.2.2.2.2.1, (h.uz u1 h1 h2).2.2.2.2.2.2⟩), h.2.2.2.2.2.2.2.2⟩
theorem Inv_13 (h : Inv σ) {u : Nat} (hu : u ≤ nF σ 2) (x : Int32) : Inv (sA σ 13 u x) := ⟨h.1, h.2.1, h.2.2.1, h.2.2.2.1, h.2.2.2.2.1, h.2.2.2.2.2.1, h.2.2.2.2.2.2.1, (fun u1 h1 (h2 : nF σ 2 < u1) => ⟨(h.uz u1 h1 h2).1, (sA_n (by omega)).trans (h.uz u1 h1 h2).2.1, (h.uz u1 h1 h2).2.2.1, (h.uz u1 h1 h2).2.2.2.1, (h.uz u1 h1 h2).2.2.2.2.1, (h.uz u1 h1 h2).2.2.2.2.2.1, (h.uz u1 h1 h2).2.2.2.2.2.2⟩), h.2.2.2.2.2.2.2.2⟩
theorem Inv_15 (h : Inv σ) {u : Nat} (hu : u ≤ nF σ 2) (x : Int32) : Inv (sA σ 15 u x) := ⟨h.1, h.2.1, h.2.2.1, h.2.2.2.1, h.2.2.2.2.1, h.2.2.2.2.2.1, h.2.2.2.2.2.2.1, (fun u1 h1 (h2 : nF σ 2 < u1) => ⟨(h.uz u1 h1 h2).1, (h.uz u1 h1 h2).2.1, (sA_n (by omega)).trans (h.uz u1 h1 h2).2.2.1, (h.uz u1 h1 h2).2.2.2.1, (h.uz u1 h1 h2).2.2.2.2.1, (h.uz u1 h1 h2).2.2.2.2.2.1, (h.uz u1 h1 h2).2.2.2.2.2.2⟩), h.2.2.2.2.2.2.2.2⟩
theorem Inv_16 (h : Inv σ) {u : Nat} (hu : u ≤ nF σ 2) (x : Int32) : Inv (sA σ 16 u x) := ⟨h.1, h.2.1, h.2.2.1, h.2.2.2.1, h.2.2.2.2.1, h.2.2.2.2.2.1, h.2.2.2.2.2.2.1, (fun u1 h1 (h2 : nF σ 2 < u1) => ⟨(h.uz u1 h1 h2).1, (h.uz u1 h1 h2).2.1, (h.uz u1 h1 h2).2.2.1, (sA_n (by omega)).trans (h.uz u1 h1 h2).2.2.2.1, (h.uz u1 h1 h2).2.2.2.2.1, (h.uz u1 h1 h2).2.2.2.2.2.1, (h.uz u1 h1 h2).2.2.2.2.2.2⟩), h.2.2.2.2.2.2.2.2⟩
theorem Inv_17 (h : Inv σ) {u : Nat} (hu : u ≤ nF σ 2) (x : Int32) : Inv (sA σ 17 u x) := ⟨h.1, h.2.1, h.2.2.1, h.2.2.2.1, h.2.2.2.2.1, h.2.2.2.2.2.1, h.2.2.2.2.2.2.1, (fun u1 h1 (h2 : nF σ 2 < u1) => ⟨(h.uz u1 h1 h2).1, (h.uz u1 h1 h2).2.1, (h.uz u1 h1 h2).2.2.1, (h.uz u1 h1 h2).2.2.2.1, (sA_n (by omega)).trans (h.uz u1 h1 h2).2.2.2.2.1, (h.uz u1 h1 h2).2.2.2.2.2.1, (h.uz u1 h1 h2).2.2.2.2.2.2⟩), h.2.2.2.2.2.2.2.2⟩
theorem isN_upd {σ : MS} {j i m : Nat} {x : Int32} (hx : isN x m) {i2 : Nat} (h : isN (σ.1 j i2) m) : isN ((sA σ j i x).1 j i2) m := by
  by_cases e : i2 = i
  · rw [e, sA_s]; exact hx
  · rw [sA_n e]; exact h
theorem Inv_18 (h : Inv σ) {u : Nat} (hu : u ≤ nF σ 2) {x : Int32} (hx : isN x 1000) : Inv (sA σ 18 u x) := ⟨h.1, h.2.1, h.2.2.1, h.2.2.2.1, h.2.2.2.2.1, h.2.2.2.2.2.1, h.2.2.2.2.2.2.1, (fun u1 h1 (h2 : nF σ 2 < u1) => ⟨(h.uz u1 h1 h2).1, (h.uz u1 h1 h2).2.1, (h.uz u1 h1 h2).2.2.1, (h.uz u1 h1 h2).2.2.2.1, (h.uz u1 h1 h2).2.2.2.2.1, (sA_n (by omega)).trans (h.uz u1 h1 h2).2.2.2.2.2.1, (h.uz u1 h1 h2).2.2.2.2.2.2⟩), (fun u1 h1 => isN_upd hx (h.2.2.2.2.2.2.2.2 u1 h1))⟩
theorem Inv_19 (h : Inv σ) {u : Nat} (hu : u ≤ nF σ 2) {x : Int32} (hx : isN x 100) : Inv (sA σ 19 u x) := ⟨⟨h.1.1, h.1.2.1, h.1.2.2.1, h.1.2.2.2.1, h.1.2.2.2.2.1, h.1.2.2.2.2.2.1, h.1.2.2.2.2.2.2.1, fun u1 h1 => isN_upd hx (h.1.2.2.2.2.2.2.2 u1 h1)⟩, h.2.1, h.2.2.1, h.2.2.2.1, h.2.2.2.2.1, h.2.2.2.2.2.1, h.2.2.2.2.2.2.1, (fun u1 h1 (h2 : nF σ 2 < u1) => ⟨(h.uz u1 h1 h2).1, (h.uz u1 h1 h2).2.1, (h.uz u1 h1 h2).2.2.1, (h.uz u1 h1 h2).2.2.2.1, (h.uz u1 h1 h2).2.2.2.2.1, (h.uz u1 h1 h2).2.2.2.2.2.1, (sA_n (by omega)).trans (h.uz u1 h1 h2).2.2.2.2.2.2⟩), h.2.2.2.2.2.2.2.2⟩
theorem Inv_20 (h : Inv σ) (i : Nat) {x : Int32} (hx : x.toInt8.toInt32 = x) : Inv (sA σ 20 i x) := ⟨h.1, (fun i2 hi2 => by
    by_cases e : i2 = i
    · rw [e, sA_s]; exact hx
    · rw [sA_n e]; exact h.2.1 i2 hi2), h.2.2.1, h.2.2.2.1, h.2.2.2.2.1, h.2.2.2.2.2.1, h.2.2.2.2.2.2.1, h.2.2.2.2.2.2.2.1, h.2.2.2.2.2.2.2.2⟩
theorem Inv_10 (h : Inv σ) {c : Nat} (hc1 : 1 ≤ c) (hc2 : c ≤ nF σ 3) (x : Int32) : Inv (sA σ 10 c x) := ⟨h.1, h.2.1, h.2.2.1, h.2.2.2.1, h.2.2.2.2.1, (fun c1 h1 (h2 : c1 = 0 ∨ nF σ 3 < c1) => ⟨(h.cz c1 h1 h2).1, (h.cz c1 h1 h2).2.1, (sA_n (by omega)).trans (h.cz c1 h1 h2).2.2.1, (h.cz c1 h1 h2).2.2.2⟩), h.2.2.2.2.2.2.1, h.2.2.2.2.2.2.2.1, h.2.2.2.2.2.2.2.2⟩
theorem Inv_11 (h : Inv σ) {c : Nat} (hc1 : 1 ≤ c) (hc2 : c ≤ nF σ 3) (x : Int32) : Inv (sA σ 11 c x) := ⟨h.1, h.2.1, h.2.2.1, h.2.2.2.1, h.2.2.2.2.1, (fun c1 h1 (h2 : c1 = 0 ∨ nF σ 3 < c1) => ⟨(h.cz c1 h1 h2).1, (h.cz c1 h1 h2).2.1, (h.cz c1 h1 h2).2.2.1, (sA_n (by omega)).trans (h.cz c1 h1 h2).2.2.2⟩), h.2.2.2.2.2.2.1, h.2.2.2.2.2.2.2.1, h.2.2.2.2.2.2.2.2⟩
theorem Inv_zW (h : Inv σ) (b : Nat) : ∀ k : Nat, Inv (zW σ b k)
  | 0 => h
  | k + 1 => Inv_20 (Inv_zW h b k) (b + k) (by decide)
theorem Inv_cor2 {σ' : MS} (h : Inv σ) (e : cor σ' = cor σ) : Inv σ' := (Inv_cor σ').mp (e ▸ (Inv_cor σ).mpr h)
end INS
theorem cor_A {σ : MS} {j i : Nat} {x : Int32} (hj : 22 ≤ j) : cor (sA σ j i x) = cor σ := cor_e (fun k hk => va_up_ne _ _ (by omega)) (fun _ _ => rfl)
theorem cor_F {σ : MS} {k : Nat} {x : Int32} (hk : k = 0 ∨ 3 < k) : cor (sF σ k x) = cor σ := cor_e (fun _ _ => rfl) (fun k2 hk2 => va_up_ne _ _ (by omega))
theorem cor_ap (σ : MS) (bs : List Int32) : cor (ap σ bs) = cor σ := cor_e (fun j hj => ap_arr σ bs (by omega)) (fun k hk => ap_fld σ bs (by omega))
theorem cor_push (σ : MS) (c : Nat) : cor (pushF σ c) = cor σ := by
  unfold pushF
  rw [cor_F (Or.inr (by decide)), cor_A (by decide), cor_A (by decide)]
/-! the working bytes -/
theorem wk_inj {u p i u2 p2 i2 : Nat} (hu : 1 ≤ u) (hp : 1 ≤ p) (hp2 : p ≤ 12) (hi : i < 100) (hu2 : 1 ≤ u2) (hp3 : 1 ≤ p2) (hp4 : p2 ≤ 12) (hi2 : i2 < 100) (h : wk u p i = wk u2 p2 i2) : u = u2 ∧ p = p2 ∧ i = i2 := by
  unfold wk at h
  omega
section LKS
variable {g : GX} {σ : MS} {run : Nat}
theorem Lk_15 (h : Lk g σ run) (x : Int32) : Lk g (sA σ 15 run x) run := ⟨fun u h1 h2 h3 => ⟨((h.1 u h1 h2 h3).1).trans (sA_n h3).symm, (h.1 u h1 h2 h3).2⟩, h.2⟩
theorem Lk_16 (h : Lk g σ run) (x : Int32) : Lk g (sA σ 16 run x) run := ⟨fun u h1 h2 h3 => ⟨(h.1 u h1 h2 h3).1, ((h.1 u h1 h2 h3).2).trans (sA_n h3).symm⟩, h.2⟩
theorem Lk_gU (h : Lk g σ run) (fl eb : Int32) : Lk (gU g run fl eb) σ run := ⟨fun u h1 h2 h3 => ⟨(pk_un h3).trans (h.1 u h1 h2 h3).1, (pk_un h3).trans (h.1 u h1 h2 h3).2⟩, h.2⟩
theorem Lk_gU0 (h : Lk g σ 0) (u : Nat) (fl eb : Int32) : Lk (gU g u fl eb) σ u := ⟨fun u1 h1 h2 h3 => ⟨(pk_un h3).trans (h.1 u1 h1 h2 (by omega)).1, (pk_un h3).trans (h.1 u1 h1 h2 (by omega)).2⟩, h.2⟩
theorem Lk_19z (h : Lk g σ run) (u : Nat) : Lk g (sA σ 19 u 0) run := ⟨h.1, fun u1 h1 h2 i hi => by
  by_cases e : u1 = u
  · rw [nA, e, sA_s] at hi
    exact absurd hi (Nat.not_lt_zero _)
  · rw [nA, sA_n e] at hi
    exact h.2.1 u1 h1 h2 i hi, h.2.2⟩
/-- at a run's end -/
theorem Lk_end (h : Lk g σ run) (h1 : gfl g run = σ.1 15 run) (h2 : geb g run = σ.1 16 run) : Lk g σ 0 := ⟨fun u a b _ => by
  by_cases e : u = run
  · rw [e]; exact ⟨h1, h2⟩
  · exact h.1 u a b e, h.2⟩
theorem Lk_mark (hI : Inv σ) (h : Lk g σ run) {u : Nat} (hu1 : 1 ≤ u) (hu2 : u ≤ 8) (hm : nA σ 19 u < 100) (a : Int32) : Lk (gMk g u (upd (gmk g u) (nA σ 19 u) a)) (sA (sA σ 21 (100 * u - 100 + nA σ 19 u) a) 19 u (nI (nA σ 19 u + 1))) run := ⟨h.1, fun u1 h1 h2 i hi => by
  have hm1 : ∀ w, w ≤ 8 → nA σ 19 w ≤ 100 := fun w hw => (hI.mk hw).2
  have hnu := hI.nu.2
  have hu8 : u1 ≤ 8 := Nat.le_trans h2 hnu
  by_cases e : u1 = u
  · subst e
    have hi2 : i < nA σ 19 u1 + 1 := by
      have : nA (sA (sA σ 21 (100 * u1 - 100 + nA σ 19 u1) a) 19 u1 (nI (nA σ 19 u1 + 1))) 19 u1 = nA σ 19 u1 + 1 := nA_of (sA_s _ _ _ _) (by omega)
      rw [this] at hi; exact hi
    rw [show gmk (gMk g u1 (upd (gmk g u1) (nA σ 19 u1) a)) u1 = upd (gmk g u1) (nA σ 19 u1) a from va_up_self _ _ _]
    show upd (gmk g u1) (nA σ 19 u1) a i = (sA σ 21 (100 * u1 - 100 + nA σ 19 u1) a).1 21 (100 * u1 - 100 + i)
    by_cases e2 : i = nA σ 19 u1
    · rw [e2, sA_s]; exact pk_us
    · rw [sA_n (by omega), pk_un e2]
      exact h.2.1 u1 h1 h2 i (by omega)
  · have hi2 : i < nA σ 19 u1 := by
      have : nA (sA (sA σ 21 (100 * u - 100 + nA σ 19 u) a) 19 u (nI (nA σ 19 u + 1))) 19 u1 = nA σ 19 u1 := congrArg Int32.toNatClampNeg (sA_n (σ := sA σ 21 (100 * u - 100 + nA σ 19 u) a) e)
      rw [this] at hi; exact hi
    rw [show gmk (gMk g u (upd (gmk g u) (nA σ 19 u) a)) u1 = gmk g u1 from va_up_ne _ _ e]
    show gmk g u1 i = (sA σ 21 (100 * u - 100 + nA σ 19 u) a).1 21 (100 * u1 - 100 + i)
    have := hm1 u1 hu8
    rw [sA_n (by omega)]
    exact h.2.1 u1 h1 h2 i hi2, h.2.2⟩
/-- a working byte is set, of the latest class c -/
theorem Lk_byte (hI : Inv σ) (h : Lk g σ run) {c i : Nat} (hc1 : 1 ≤ c) (hc2 : c ≤ nF σ 3) (hl : nA σ 14 (13 * nA σ 6 c + nA σ 7 c) = c) (hi : i < nA σ 0 (nA σ 7 c)) (x : Int32) : Lk (gWs g c (upd (gW g c) i x)) (sA σ 20 (wk (nA σ 6 c) (nA σ 7 c) i) x) run := ⟨h.1, h.2.1, fun c1 h1 h2 hl1 => ⟨(h.2.2.1 c1 h1 h2 hl1).1, fun hs i1 hi1 => by
  have hnp := hI.np.2
  have hnc := hI.nc.2
  have k1 := hI.cls c1 h1 h2
  have k2 := hI.cls c hc1 hc2
  have z1 := (hI.sz (p := nA σ 7 c1) (by omega)).2
  have z2 := (hI.sz (p := nA σ 7 c) (by omega)).2
  have hl2 : nA σ 14 (13 * nA σ 6 c1 + nA σ 7 c1) = c1 := hl1
  have hi2 : i1 < nA σ 0 (nA σ 7 c1) := hi1
  by_cases e : c1 = c
  · subst e
    rw [show gW (gWs g c1 (upd (gW g c1) i x)) c1 = upd (gW g c1) i x from va_up_self _ _ _]
    show upd (gW g c1) i x i1 = (sA σ 20 (wk (nA σ 6 c1) (nA σ 7 c1) i) x).1 20 (wk (nA σ 6 c1) (nA σ 7 c1) i1)
    by_cases e2 : i1 = i
    · rw [e2, sA_s]; exact pk_us
    · rw [sA_n (fun h9 => e2 (wk_inj k1.1.1 k1.2.1.1 (by omega) (by omega) k1.1.1 k1.2.1.1 (by omega) (by omega) h9).2.2), pk_un e2]
      exact (h.2.2.1 c1 h1 h2 hl1).2 hs i1 hi1
  · rw [show gW (gWs g c (upd (gW g c) i x)) c1 = gW g c1 from va_up_ne _ _ e]
    show gW g c1 i1 = (sA σ 20 (wk (nA σ 6 c) (nA σ 7 c) i) x).1 20 (wk (nA σ 6 c1) (nA σ 7 c1) i1)
    rw [sA_n (fun h9 => e (by
      have h8 := wk_inj k1.1.1 k1.2.1.1 (by omega) (by omega) k2.1.1 k2.2.1.1 (by omega) (by omega) h9
      rw [← hl2, ← hl, h8.1, h8.2.1]))]
    exact (h.2.2.1 c1 h1 h2 hl1).2 hs i1 hi1⟩, h.2.2.2⟩
theorem zW_at (σ : MS) (b : Nat) : ∀ (k i : Nat), (zW σ b k).1 20 i = if b ≤ i ∧ i < b + k then 0 else σ.1 20 i
  | 0, i => by rw [if_neg (by omega)]; rfl
  | k + 1, i => by
    show (sA (zW σ b k) 20 (b + k) 0).1 20 i = _
    by_cases e : i = b + k
    · rw [e, sA_s, if_pos (by omega)]
    · rw [sA_n e, zW_at σ b k i]
      by_cases h : b ≤ i ∧ i < b + k
      · rw [if_pos h, if_pos (by omega)]
      · rw [if_neg h, if_neg (by omega)]
/-- a class's start: its bytes are 0 again -/
theorem Lk_start (hI : Inv σ) (h : Lk g σ run) {c : Nat} (hc1 : 1 ≤ c) (hc2 : c ≤ nF σ 3) (hl : nA σ 14 (13 * nA σ 6 c + nA σ 7 c) = c) (W : Nat → Int32) (hW : ∀ i, i < nA σ 0 (nA σ 7 c) → W i = 0) : Lk (gC (gWs g c W) c 1) (sA (zW σ (wk (nA σ 6 c) (nA σ 7 c) 0) 100) 10 c 1) run := by
  have a6 : (zW σ (wk (nA σ 6 c) (nA σ 7 c) 0) 100).1 6 = σ.1 6 := zW_arr _ _ (by decide) _
  have e : Lk (gC (gWs g c W) c 1) (sA (zW σ (wk (nA σ 6 c) (nA σ 7 c) 0) 100) 10 c 1) run ↔ Lk (gC (gWs g c W) c 1) (sA (va_up σ.1 20 ((zW σ (wk (nA σ 6 c) (nA σ 7 c) 0) 100).1 20), σ.2) 10 c 1) run := by
    have : zW σ (wk (nA σ 6 c) (nA σ 7 c) 0) 100 = (va_up σ.1 20 ((zW σ (wk (nA σ 6 c) (nA σ 7 c) 0) 100).1 20), σ.2) := by
      refine Prod.ext ?_ (zW_fld _ _ _)
      funext j
      show _ = va_up σ.1 20 ((zW σ (wk (nA σ 6 c) (nA σ 7 c) 0) 100).1 20) j
      by_cases hj : j = 20
      · rw [hj, va_up_self]
      · rw [va_up_ne _ _ hj, zW_arr _ _ hj]
    rw [← this]
  rw [e]
  refine ⟨h.1, h.2.1, fun c1 h1 h2 hl1 => ?_, h.2.2.2⟩
  have hnp := hI.np.2
  have hnc := hI.nc.2
  have k1 := hI.cls c1 h1 h2
  have k2 := hI.cls c hc1 hc2
  have z1 := (hI.sz (p := nA σ 7 c1) (by omega)).2
  have z2 := (hI.sz (p := nA σ 7 c) (by omega)).2
  have hl2 : nA σ 14 (13 * nA σ 6 c1 + nA σ 7 c1) = c1 := hl1
  have rd : ∀ i, (sA (va_up σ.1 20 ((zW σ (wk (nA σ 6 c) (nA σ 7 c) 0) 100).1 20), σ.2) 10 c 1).1 20 i = if wk (nA σ 6 c) (nA σ 7 c) 0 ≤ i ∧ i < wk (nA σ 6 c) (nA σ 7 c) 0 + 100 then 0 else σ.1 20 i := fun i => (congrFun (va_up_self σ.1 20 ((zW σ (wk (nA σ 6 c) (nA σ 7 c) 0) 100).1 20)) i).trans (zW_at σ _ 100 i)
  by_cases e1 : c1 = c
  · subst e1
    refine ⟨?_, fun _ i hi => ?_⟩
    · rw [sA_s]; exact pk_us
    · rw [rd]
      have hi2 : i < nA σ 0 (nA σ 7 c1) := hi
      show gW (gC (gWs g c1 W) c1 1) c1 i = if wk (nA σ 6 c1) (nA σ 7 c1) 0 ≤ wk (nA σ 6 c1) (nA σ 7 c1) i ∧ wk (nA σ 6 c1) (nA σ 7 c1) i < wk (nA σ 6 c1) (nA σ 7 c1) 0 + 100 then 0 else σ.1 20 (wk (nA σ 6 c1) (nA σ 7 c1) i)
      rw [if_pos (by unfold wk; omega), show gW (gC (gWs g c1 W) c1 1) c1 = W from va_up_self _ _ _]
      exact hW i hi2
  · refine ⟨?_, fun hs i hi => ?_⟩
    · rw [sA_n e1]
      exact (pk_un e1).trans (h.2.2.1 c1 h1 h2 hl1).1
    · rw [rd]
      have hi2 : i < nA σ 0 (nA σ 7 c1) := hi
      have hs2 : σ.1 10 c1 ≠ 0 := by rw [sA_n e1] at hs; exact hs
      have hne : ¬ (nA σ 6 c1 = nA σ 6 c ∧ nA σ 7 c1 = nA σ 7 c) := fun h9 => e1 (by rw [← hl2, ← hl, h9.1, h9.2])
      show gW (gC (gWs g c W) c 1) c1 i = if wk (nA σ 6 c) (nA σ 7 c) 0 ≤ wk (nA σ 6 c1) (nA σ 7 c1) i ∧ wk (nA σ 6 c1) (nA σ 7 c1) i < wk (nA σ 6 c) (nA σ 7 c) 0 + 100 then 0 else σ.1 20 (wk (nA σ 6 c1) (nA σ 7 c1) i)
      rw [if_neg (by unfold wk; omega), show gW (gC (gWs g c W) c 1) c1 = gW g c1 from va_up_ne _ _ e1]
      exact (h.2.2.1 c1 h1 h2 hl1).2 hs2 i hi2
/-- started is set of a class that is the latest (cancel) or not -/
theorem Lk_sd (h : Lk g σ run) (c : Nat) : Lk (gC g c 0) (sA σ 10 c 0) run := ⟨h.1, h.2.1, fun c1 h1 h2 hl1 => by
  by_cases e : c1 = c
  · subst e
    exact ⟨pk_us.trans (sA_s _ _ _ _).symm, fun hs => absurd (sA_s _ _ _ _) hs⟩
  · exact ⟨(pk_un e).trans ((h.2.2.1 c1 h1 h2 hl1).1.trans (sA_n e).symm), fun hs => (h.2.2.1 c1 h1 h2 hl1).2 (by rw [sA_n e] at hs; exact hs)⟩, h.2.2.2⟩
end LKS
