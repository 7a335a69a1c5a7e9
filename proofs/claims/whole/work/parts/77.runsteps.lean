/-! a run's small steps against the state -/
def ebv (u : Nat) (y : Int32 × MS) : Int32 := if y.1 = 5 then y.2.1 7 (nA y.2 22 (nF y.2 26 - 1)) else y.2.1 16 u
def gEn (g g' : GX) (u : Nat) (y : Int32 × MS) : Prop := gfl g' u = (if y.1 = 0 ∨ y.1 = 99 then gfl g u else y.1) ∧ geb g' u = (if y.1 = 0 then geb g u else ebv u y)
def RO (K : Nat → ClassId) (ad : AD) (g : GX) (n u : Nat) (y : Int32 × MS) (w : va_W) : Prop := ∃ (L' : List Nat) (f' : Nat → va_E) (ad' : AD) (κ' : TG) (g' : GX), w = va_pl L' f' ∧ PX K L' f' ad' κ' g' y.2 ∧ Lk g' y.2 u ∧ EX ad ad' n ∧ gEn g g' u y
theorem EX_rf (ad : AD) (n : Nat) : EX ad ad n := fun _ _ _ _ => rfl
theorem EX_tr {a b c : AD} {n m : Nat} (h1 : EX a b n) (h2 : EX b c m) (hm : n ≤ m) : EX a c n := fun k i j h => (h2 k i j (h.imp id (fun h9 => by omega))).trans (h1 k i j h)
theorem gEn_0 (g : GX) (u : Nat) (σ : MS) : gEn g g u (0, σ) := ⟨by rw [if_pos (Or.inl rfl)], by rw [if_pos rfl]⟩
theorem gEn_eq {g g1 g2 : GX} {u : Nat} {y : Int32 × MS} (h1 : gfl g1 u = gfl g u) (h2 : geb g1 u = geb g u) (h : gEn g1 g2 u y) : gEn g g2 u y := by
  unfold gEn at h ⊢
  rw [← h1, ← h2]; exact h
theorem sA_comm (σ : MS) {j k : Nat} (i i2 : Nat) (x y : Int32) (h : j ≠ k) : sA (sA σ j i x) k i2 y = sA (sA σ k i2 y) j i x := by
  unfold sA
  refine Prod.ext ?_ rfl
  funext a
  show va_up (va_up σ.1 j (upd (σ.1 j) i x)) k (upd (va_up σ.1 j (upd (σ.1 j) i x) k) i2 y) a = va_up (va_up σ.1 k (upd (σ.1 k) i2 y)) j (upd (va_up σ.1 k (upd (σ.1 k) i2 y) j) i x) a
  rw [va_up_ne _ _ h.symm, va_up_ne _ _ h]
  by_cases e : a = k
  · rw [e, va_up_self, va_up_ne _ _ h.symm, va_up_self]
  · rw [va_up_ne _ _ e]
    by_cases e2 : a = j
    · rw [e2, va_up_self, va_up_self]
    · rw [va_up_ne _ _ e2, va_up_ne _ _ e2, va_up_ne _ _ e]
theorem sA_io (σ : MS) {j k : Nat} (i i2 : Nat) (x : Int32) (h : k ≠ j) : sA (sA σ j i x) k i2 (σ.1 k i2) = sA σ j i x := by
  have := sA_id (sA σ j i x) k i2
  rw [sA_o σ i x h] at this
  exact this
theorem sU_id (σ : MS) (u : Nat) : sU σ u (σ.1 12 u) (σ.1 13 u) (σ.1 17 u) (σ.1 18 u) (σ.1 19 u) = σ := by unfold sU; rw [sA_id, sA_id, sA_id, sA_id, sA_id]
theorem sU_12 (σ : MS) (u : Nat) (x : Int32) : sU σ u x (σ.1 13 u) (σ.1 17 u) (σ.1 18 u) (σ.1 19 u) = sA σ 12 u x := by
  unfold sU
  rw [sA_io σ u u x (show 13 ≠ 12 by decide), sA_io σ u u x (show 17 ≠ 12 by decide), sA_io σ u u x (show 18 ≠ 12 by decide), sA_io σ u u x (show 19 ≠ 12 by decide)]
theorem sU_18 (σ : MS) (u : Nat) (x : Int32) : sU σ u (σ.1 12 u) (σ.1 13 u) (σ.1 17 u) x (σ.1 19 u) = sA σ 18 u x := by
  unfold sU
  rw [sA_id, sA_id, sA_id, sA_io σ u u x (show 19 ≠ 18 by decide)]
theorem sU_19 (σ : MS) (u : Nat) (x : Int32) : sU σ u (σ.1 12 u) (σ.1 13 u) (σ.1 17 u) (σ.1 18 u) x = sA σ 19 u x := by
  unfold sU
  rw [sA_id, sA_id, sA_id, sA_id]
theorem sU_stop (σ : MS) (u : Nat) (a : Int32) : sU σ u 1 (σ.1 13 u) a (σ.1 18 u) (σ.1 19 u) = sA (sA σ 17 u a) 12 u 1 := by
  unfold sU
  rw [sA_io σ u u 1 (show 13 ≠ 12 by decide), sA_comm σ u u 1 a (show 12 ≠ 17 by decide)]
  have e1 : ∀ k, k ≠ 12 → k ≠ 17 → (sA (sA σ 17 u a) 12 u 1).1 k = σ.1 k := fun k h1 h2 => (sA_o _ _ _ h1).trans (sA_o _ _ _ h2)
  have e2 := sA_id (sA (sA σ 17 u a) 12 u 1) 18 u
  rw [e1 18 (by decide) (by decide)] at e2
  have e3 := sA_id (sA (sA σ 17 u a) 12 u 1) 19 u
  rw [e1 19 (by decide) (by decide)] at e3
  rw [e2, e3]
theorem PX_kept {K : Nat → ClassId} {L : List Nat} {f : Nat → va_E} {ad : AD} {κ : TG} {g : GX} {σ : MS} (hP : PX K L f ad κ g σ) {j : Nat} (hj : j = 10 ∨ j = 15 ∨ j = 16 ∨ j = 20 ∨ j = 21) (i : Nat) (x : Int32) : PX K L f ad κ g (sA σ j i x) := by
  rcases hj with rfl | rfl | rfl | rfl | rfl <;> exact hP
theorem PX_c {K : Nat → ClassId} {L : List Nat} {f : Nat → va_E} {ad : AD} {κ : TG} {g : GX} {σ σ' : MS} (hP : PX K L f ad κ g σ) (e : cor σ' = cor σ) : PX K L f ad κ g σ' := (PX_cor K L f ad κ g σ').mp (e ▸ (PX_cor K L f ad κ g σ).mpr hP)
theorem Lk_c {g : GX} {σ σ' : MS} {run : Nat} (hL : Lk g σ run) (e : cor σ' = cor σ) : Lk g σ' run := (Lk_cor g σ' run).mp (e ▸ (Lk_cor g σ run).mpr hL)
theorem nI_m1b {n : Nat} (h : n ≤ 127) : (nI n).toInt8.toInt32 = nI n := by
  have : ∀ k : Fin 128, (nI k.val).toInt8.toInt32 = nI k.val := by decide +kernel
  exact this ⟨n, by omega⟩
theorem r_abend (l : Launch) (D : va_G) {K : Nat → ClassId} {L : List Nat} {f : Nat → va_E} {ad : AD} {κ : TG} {g : GX} {σ : MS} (hP : PX K L f ad κ g σ) (hI : Inv σ) {u c : Nat} (hL : Lk g σ u) (hu1 : 1 ≤ u) (hu2 : u ≤ nF σ 2) (hc1 : 1 ≤ c) (hc2 : c ≤ nF σ 3) {k : Int32} (h0 : k ≠ 0) (h5 : k ≠ 5) (h99 : k ≠ 99) (h16 : σ.1 16 u = σ.1 7 c) : Mc l yX5_abend (wM yX5_abend cX5_abend 3 none) (rmL 0 0 0) D (yY K) [.ref (ad 12 u 0), .int k, .ref (ad 9 (nA σ 7 c) 0)] (va_pl L f) (fun v w => v = none ∧ RO K ad g (nF σ 3) u (k, σ) w) 0 0 := by
  have hu8 : u ≤ 8 := Nat.le_trans hu2 hI.nu.2
  have hc40 := hI.nc.2
  refine Mc.imp (x_abend l D K L f k (ad 12 u 0) (ad 9 (nA σ 7 c) 0) (ad 10 (nA σ 7 c) 0) (ad 13 u 0) (ad 14 u 0) (σ.1 12 u) (σ.1 13 u) (gfl g u) (geb g u) (σ.1 17 u) (σ.1 18 u) (nI (nA σ 19 u)) (nI (nA σ 7 c)) (nI (nA σ 0 (nA σ 7 c))) (σ.1 5 (nA σ 7 c)) (nI (nA σ 1 (nA σ 7 c))) (px12 hP u hu1 hu2).1 (px12 hP u hu1 hu2).2.2 (px9 hP _ (hI.cls c hc1 hc2).2.1.1 (hI.cls c hc1 hc2).2.1.2).1 (px9 hP _ (hI.cls c hc1 hc2).2.1.1 (hI.cls c hc1 hc2).2.1.2).2.2) (fun v w h => ?_)
  obtain ⟨rfl, f1, rfl, rfl⟩ := h
  rw [if_neg h5]
  have h1 := PX_unit hP hu1 hu2 (σ.1 12 u) (σ.1 13 u) k (nI (nA σ 7 c)) (σ.1 17 u) (σ.1 18 u) (σ.1 19 u)
  rw [sU_id] at h1
  refine ⟨rfl, L, _, ad, κ, _, rfl, h1, Lk_gU hL k (nI (nA σ 7 c)), EX_rf ad _, ?_, ?_⟩
  · rw [if_neg (fun h9 => h9.elim h0 h99)]; exact pk_us
  · rw [if_neg h0]
    unfold ebv
    rw [if_neg h5]
    show upd _ u _ u = _
    rw [pk_us]
    show nI (nA σ 7 c) = σ.1 16 u
    rw [h16, (hI.cp (c := c) (by omega)).1]
theorem r_stop (l : Launch) (D : va_G) {K : Nat → ClassId} {L : List Nat} {f : Nat → va_E} {ad : AD} {κ : TG} {g : GX} {σ : MS} (hP : PX K L f ad κ g σ) (hI : Inv σ) {u c : Nat} (hL : Lk g σ u) (hu1 : 1 ≤ u) (hu2 : u ≤ nF σ 2) (hc1 : 1 ≤ c) (hc2 : c ≤ nF σ 3) (a : Int32) (h16 : σ.1 16 u = σ.1 7 c) : Mc l yX5_stop (wM yX5_stop cX5_stop 3 none) (rmL 0 0 0) D (yY K) [.ref (ad 12 u 0), .int a, .ref (ad 9 (nA σ 7 c) 0)] (va_pl L f) (fun v w => v = none ∧ RO K ad g (nF σ 3) u (99, sA (sA σ 17 u a) 12 u 1) w) 0 0 := by
  have hu8 : u ≤ 8 := Nat.le_trans hu2 hI.nu.2
  have hc40 := hI.nc.2
  refine Mc.imp (x_stop l D K L f a (ad 12 u 0) (ad 9 (nA σ 7 c) 0) (ad 10 (nA σ 7 c) 0) (ad 13 u 0) (ad 14 u 0) (σ.1 12 u) (σ.1 13 u) (gfl g u) (geb g u) (σ.1 17 u) (σ.1 18 u) (nI (nA σ 19 u)) (nI (nA σ 7 c)) (nI (nA σ 0 (nA σ 7 c))) (σ.1 5 (nA σ 7 c)) (nI (nA σ 1 (nA σ 7 c))) (px12 hP u hu1 hu2).1 (px12 hP u hu1 hu2).2.2 (px9 hP _ (hI.cls c hc1 hc2).2.1.1 (hI.cls c hc1 hc2).2.1.2).1 (px9 hP _ (hI.cls c hc1 hc2).2.1.1 (hI.cls c hc1 hc2).2.1.2).2.2) (fun v w h => ?_)
  obtain ⟨rfl, f1, rfl, rfl⟩ := h
  have h1 := PX_unit hP hu1 hu2 1 (σ.1 13 u) (gfl g u) (nI (nA σ 7 c)) a (σ.1 18 u) (σ.1 19 u)
  rw [sU_stop] at h1
  refine ⟨rfl, L, _, ad, κ, _, rfl, h1, ?_, EX_rf ad _, ?_, ?_⟩
  · exact Lk_gU hL (gfl g u) (nI (nA σ 7 c))
  · rw [if_pos (Or.inr rfl)]; exact pk_us
  · rw [if_neg (show ¬ (99 : Int32) = 0 by decide)]
    unfold ebv
    rw [if_neg (show ¬ (99 : Int32) = 5 by decide)]
    show upd _ u _ u = _
    rw [pk_us]
    show nI (nA σ 7 c) = (sA (sA σ 17 u a) 12 u 1).1 16 u
    rw [sA_o _ _ _ (show 16 ≠ 12 by decide), sA_o _ _ _ (show 16 ≠ 17 by decide), h16, (hI.cp (c := c) (by omega)).1]
theorem r_noteMark (l : Launch) (D : va_G) {K : Nat → ClassId} {L : List Nat} {f : Nat → va_E} {ad : AD} {κ : TG} {g : GX} {σ : MS} (hP : PX K L f ad κ g σ) (hI : Inv σ) {u : Nat} (hL : Lk g σ u) (hu1 : 1 ≤ u) (hu2 : u ≤ nF σ 2) {n : Nat} (hn : n ≤ 127) : Mc l yX5_noteMark (wM yX5_noteMark cX5_noteMark 2 none) (rmL 0 0 0) D (yY K) [.ref (ad 12 u 0), .int (nI n)] (va_pl L f) (fun v w => v = none ∧ RO K ad g (nF σ 3) u (if 100 ≤ σ.1 19 u then (0, σ) else (0, sA (sA σ 21 (100 * u - 100 + nA σ 19 u) (nI n)) 19 u (nI (nA σ 19 u + 1)))) w) 0 0 := by
  have hu8 : u ≤ 8 := Nat.le_trans hu2 hI.nu.2
  have e19 := hI.mk hu8
  refine Mc.imp (x_noteMark l D K L f (nI n) (ad 12 u 0) (ad 13 u 0) (ad 14 u 0) (nA σ 19 u) (gmk g u) (σ.1 12 u) (σ.1 13 u) (gfl g u) (geb g u) (σ.1 17 u) (σ.1 18 u) (px12 hP u hu1 hu2).1 (px12 hP u hu1 hu2).2.2 (px14 hP u hu1 hu2).1 (px14 hP u hu1 hu2).2.2 e19.2) (fun v w h => ?_)
  obtain ⟨rfl, f1, rfl, rfl⟩ := h
  by_cases hm : nA σ 19 u < 100
  · rw [if_pos hm, if_neg (by rw [e19.1]; exact nI_ge hm (by decide)), nI_m1b hn]
    have h0 := PX_marks hP hu1 hu2 (upd (gmk g u) (nA σ 19 u) (nI n))
    have h1 := PX_unit (PX_kept h0 (j := 21) (by decide) (100 * u - 100 + nA σ 19 u) (nI n)) hu1 hu2 (σ.1 12 u) (σ.1 13 u) (gfl g u) (geb g u) (σ.1 17 u) (σ.1 18 u) (nI (nA σ 19 u + 1))
    have e : sU (sA σ 21 (100 * u - 100 + nA σ 19 u) (nI n)) u (σ.1 12 u) (σ.1 13 u) (σ.1 17 u) (σ.1 18 u) (nI (nA σ 19 u + 1)) = sA (sA σ 21 (100 * u - 100 + nA σ 19 u) (nI n)) 19 u (nI (nA σ 19 u + 1)) := sU_19 (sA σ 21 (100 * u - 100 + nA σ 19 u) (nI n)) u (nI (nA σ 19 u + 1))
    rw [e] at h1
    have e2 : cU ad u (σ.1 12 u) (σ.1 13 u) (gfl g u) (geb g u) (σ.1 17 u) (σ.1 18 u) (nI (nA σ 19 u + 1)) = .inr (7, [.ref (ad 13 u 0), .ref (ad 14 u 0), .int (σ.1 12 u), .int (σ.1 13 u), .int (gfl g u), .int (geb g u), .int (σ.1 17 u), .int (σ.1 18 u), .int (nI (nA σ 19 u + 1))]) := by unfold cU; rw [nI_clamp (by omega)]
    rw [e2] at h1
    refine ⟨rfl, L, _, ad, κ, _, rfl, h1, ?_, EX_rf ad _, ?_, ?_⟩
    · exact Lk_gU (Lk_mark hI hL hu1 hu8 hm (nI n)) (gfl g u) (geb g u)
    · rw [if_pos (Or.inl rfl)]; exact pk_us
    · rw [if_pos rfl]; exact pk_us
  · rw [if_neg hm, if_pos (by rw [e19.1]; exact nI_le (a := 100) (by omega) (by omega))]
    exact ⟨rfl, L, f, ad, κ, g, rfl, hP, hL, EX_rf ad _, gEn_0 g u σ⟩
theorem r_takeStep (l : Launch) (D : va_G) {K : Nat → ClassId} {L : List Nat} {f : Nat → va_E} {ad : AD} {κ : TG} {g : GX} {σ : MS} (hP : PX K L f ad κ g σ) (hI : Inv σ) {u : Nat} (hL : Lk g σ u) (hu1 : 1 ≤ u) (hu2 : u ≤ nF σ 2) : Mc l yX5_takeStep (wM yX5_takeStep cX5_takeStep 1 (some .boolean)) (rmL 0 0 0) D (yY K) [.ref (ad 12 u 0)] (va_pl L f) (fun v w => if nA σ 18 u = 1000 then v = some (.int 0) ∧ w = va_pl L f else v = some (.int 1) ∧ ∃ f1, w = va_pl L f1 ∧ PX K L f1 ad κ g (sA σ 18 u (nI (nA σ 18 u + 1))) ∧ Lk g (sA σ 18 u (nI (nA σ 18 u + 1))) u) 0 0 := by
  have hu8 : u ≤ 8 := Nat.le_trans hu2 hI.nu.2
  have e18 := hI.st hu8
  have e19 := hI.mk hu8
  refine Mc.imp (x_takeStep l D K L f (ad 12 u 0) (ad 13 u 0) (ad 14 u 0) (σ.1 12 u) (σ.1 13 u) (gfl g u) (geb g u) (σ.1 17 u) (σ.1 18 u) (nI (nA σ 19 u)) (px12 hP u hu1 hu2).1 (px12 hP u hu1 hu2).2.2) (fun v w h => ?_)
  obtain ⟨rfl, f1, rfl, rfl⟩ := h
  by_cases hm : nA σ 18 u = 1000
  · have : ¬ σ.1 18 u < 1000 := by rw [e18.1, hm]; exact nI_nlt (a := 1000) (b := 1000) (Nat.le_refl _) (by decide)
    rw [if_pos hm, bI_f this, if_neg this]
    exact ⟨rfl, rfl⟩
  · have : σ.1 18 u < 1000 := by rw [e18.1]; exact nI_lt (b := 1000) (by omega) (by decide)
    rw [if_neg hm, bI_t this, if_pos this]
    have h1 := PX_unit hP hu1 hu2 (σ.1 12 u) (σ.1 13 u) (gfl g u) (geb g u) (σ.1 17 u) (nI (nA σ 18 u + 1)) (σ.1 19 u)
    rw [sU_18] at h1
    have e2 : gU g u (gfl g u) (geb g u) = g := by unfold gU gfl geb; rw [upd_id, upd_id]
    rw [e2] at h1
    refine ⟨rfl, _, rfl, ?_, hL⟩
    rw [e18.1, nI_1]
    exact h1
