/-! finding and small things, in terms of the state -/
theorem RW_rd {K : Nat → ClassId} {L : List Nat} {f : Nat → va_E} {ad : AD} {κ : TG} {g : GX} {σ σ' : MS} (h : RX K L f ad κ g σ 0) (e : cor σ' = cor σ) : RW K (ad 0 0 0) σ' (va_pl L f) := ⟨L, f, ad, κ, g, rfl, rfl, RX_cor h e⟩
theorem rI_in {n k : Nat} (h1 : 1 ≤ n) (h2 : n ≤ k) (hk : k < 2 ^ 31) : (1 : Int32) ≤ nI n ∧ nI n ≤ nI k := ⟨nI_le (a := 1) (b := n) h1 (by omega), nI_le h2 hk⟩
theorem gpr_at {ad : AD} {σ : MS} {p : Nat} (h1 : 1 ≤ p) (h2 : p ≤ nF σ 1) : gpr ad σ (p - 1) = some (ad 9 p 0) := by unfold gpr; rw [if_pos (by omega), Nat.sub_add_cancel h1]
theorem gcl_at {ad : AD} {σ : MS} {p : Nat} (h1 : 1 ≤ p) (h2 : p ≤ nF σ 3) : gcl ad σ (p - 1) = some (ad 15 p 0) := by unfold gcl; rw [if_pos (by omega), Nat.sub_add_cancel h1]
theorem gun_at {ad : AD} {σ : MS} {p : Nat} (h1 : 1 ≤ p) (h2 : p ≤ nF σ 2) : gun ad σ (p - 1) = some (ad 12 p 0) := by unfold gun; rw [if_pos (by omega), Nat.sub_add_cancel h1]
theorem grw_at {ad : AD} {σ : MS} {p r : Nat} (h1 : 1 ≤ r) (h2 : r ≤ nA σ 1 p) : grw ad σ p (r - 1) = some (ad 11 p r) := by unfold grw; rw [if_pos (by omega), Nat.sub_add_cancel h1]
theorem gla_0 {ad : AD} {σ : MS} {u p : Nat} (h1 : 1 ≤ p) (h2 : p ≤ 12) (h : nA σ 14 (13 * u + p) = 0) : gla ad σ u (p - 1) = none := by unfold gla; rw [if_pos (by omega), Nat.sub_add_cancel h1, if_pos h]
theorem gla_s {ad : AD} {σ : MS} {u p c : Nat} (h1 : 1 ≤ p) (h2 : p ≤ 12) (h : nA σ 14 (13 * u + p) = c) (hc : c ≠ 0) : gla ad σ u (p - 1) = some (ad 15 c 0) := by unfold gla; rw [if_pos (by omega), Nat.sub_add_cancel h1, h, if_neg hc]
section FND
variable (l : Launch) (D : va_G) {K : Nat → ClassId} {L : List Nat} {f : Nat → va_E} {ad : AD} {κ : TG} {g : GX} {σ : MS} 
theorem r_findUnitY (hP : PX K L f ad κ g σ) (hI : Inv σ) {n : Nat} (h1 : 1 ≤ n) (h2 : n ≤ nF σ 2) : Mc l yX7_findUnit (wM yX7_findUnit cX7_findUnit 2 (some (.object "ClassMaker4$RunUnit"))) (rmL 0 0 0) D (yY K) [.ref (ad 0 0 0), .int (nI n)] (va_pl L f) (fun v w => v = some (.ref (ad 12 n 0)) ∧ w = va_pl L f) 0 0 := by
  have hb := hI.nu.2
  have h := x_findUnit l D K L f (nI n) (ad 0 0 0) (ad 8 0 0) (nF σ 2) (gun ad σ) (ad 1 0 0) (ad 2 0 0) (ad 3 0 0) (px0 hP).1 (px0 hP).2.2 (px8 hP).1 (px8 hP).2.2 hb
  rw [if_pos (rI_in h1 h2 (by omega)), nI_clamp (by omega), gun_at h1 h2] at h
  exact h
theorem r_findUnitN (hP : PX K L f ad κ g σ) (hI : Inv σ) {i : Int32} (hi : ¬ (1 ≤ i ∧ i ≤ σ.2 2)) : Mc l yX7_findUnit (wM yX7_findUnit cX7_findUnit 2 (some (.object "ClassMaker4$RunUnit"))) (rmL 0 0 0) D (yY K) [.ref (ad 0 0 0), .int i] (va_pl L f) (fun v w => v = some (.null) ∧ w = va_pl L f) 0 0 := by
  have hb := hI.nu.2
  have h := x_findUnit l D K L f i (ad 0 0 0) (ad 8 0 0) (nF σ 2) (gun ad σ) (ad 1 0 0) (ad 2 0 0) (ad 3 0 0) (px0 hP).1 (px0 hP).2.2 (px8 hP).1 (px8 hP).2.2 hb
  rw [if_neg (by rw [← hI.nu.1]; exact hi)] at h
  exact h
theorem r_findProgramY (hP : PX K L f ad κ g σ) (hI : Inv σ) {n : Nat} (h1 : 1 ≤ n) (h2 : n ≤ nF σ 1) : Mc l yX6_findProgram (wM yX6_findProgram cX6_findProgram 2 (some (.object "ClassMaker4$Program"))) (rmL 0 0 0) D (yY K) [.ref (ad 1 0 0), .int (nI n)] (va_pl L f) (fun v w => v = some (.ref (ad 9 n 0)) ∧ w = va_pl L f) 0 0 := by
  have hb := hI.np.2
  have h := x_findProgram l D K L f (nI n) (ad 1 0 0) (ad 6 0 0) (nF σ 1) (gpr ad σ) (ad 7 0 0) (nI (nF σ 3)) (px1 hP).1 (px1 hP).2.2 (px6 hP).1 (px6 hP).2.2 hb
  rw [if_pos (rI_in h1 h2 (by omega)), nI_clamp (by omega), gpr_at h1 h2] at h
  exact h
theorem r_findProgramN (hP : PX K L f ad κ g σ) (hI : Inv σ) {i : Int32} (hi : ¬ (1 ≤ i ∧ i ≤ σ.2 1)) : Mc l yX6_findProgram (wM yX6_findProgram cX6_findProgram 2 (some (.object "ClassMaker4$Program"))) (rmL 0 0 0) D (yY K) [.ref (ad 1 0 0), .int i] (va_pl L f) (fun v w => v = some (.null) ∧ w = va_pl L f) 0 0 := by
  have hb := hI.np.2
  have h := x_findProgram l D K L f i (ad 1 0 0) (ad 6 0 0) (nF σ 1) (gpr ad σ) (ad 7 0 0) (nI (nF σ 3)) (px1 hP).1 (px1 hP).2.2 (px6 hP).1 (px6 hP).2.2 hb
  rw [if_neg (by rw [← hI.np.1]; exact hi)] at h
  exact h
theorem r_findClassY (hP : PX K L f ad κ g σ) (hI : Inv σ) {n : Nat} (h1 : 1 ≤ n) (h2 : n ≤ nF σ 3) : Mc l yX6_findClass (wM yX6_findClass cX6_findClass 2 (some (.object "ClassMaker4$MadeClass"))) (rmL 0 0 0) D (yY K) [.ref (ad 1 0 0), .int (nI n)] (va_pl L f) (fun v w => v = some (.ref (ad 15 n 0)) ∧ w = va_pl L f) 0 0 := by
  have hb := hI.nc.2
  have h := x_findClass l D K L f (nI n) (ad 1 0 0) (ad 7 0 0) (nF σ 3) (gcl ad σ) (ad 6 0 0) (nI (nF σ 1)) (px1 hP).1 (px1 hP).2.2 (px7 hP).1 (px7 hP).2.2 hb
  rw [if_pos (rI_in h1 h2 (by omega)), nI_clamp (by omega), gcl_at h1 h2] at h
  exact h
theorem r_findClassN (hP : PX K L f ad κ g σ) (hI : Inv σ) {i : Int32} (hi : ¬ (1 ≤ i ∧ i ≤ σ.2 3)) : Mc l yX6_findClass (wM yX6_findClass cX6_findClass 2 (some (.object "ClassMaker4$MadeClass"))) (rmL 0 0 0) D (yY K) [.ref (ad 1 0 0), .int i] (va_pl L f) (fun v w => v = some (.null) ∧ w = va_pl L f) 0 0 := by
  have hb := hI.nc.2
  have h := x_findClass l D K L f i (ad 1 0 0) (ad 7 0 0) (nF σ 3) (gcl ad σ) (ad 6 0 0) (nI (nF σ 1)) (px1 hP).1 (px1 hP).2.2 (px7 hP).1 (px7 hP).2.2 hb
  rw [if_neg (by rw [← hI.nc.1]; exact hi)] at h
  exact h
theorem r_latestN (hP : PX K L f ad κ g σ) (hI : Inv σ) {u p : Nat} (hu1 : 1 ≤ u) (hu2 : u ≤ nF σ 2) (hp1 : 1 ≤ p) (hp2 : p ≤ nF σ 1) (h0 : nA σ 14 (13 * u + p) = 0) : Mc l yX5_latestOf (wM yX5_latestOf cX5_latestOf 3 (some (.object "ClassMaker4$MadeClass"))) (rmL 0 0 0) D (yY K) [.ref (ad 12 u 0), .ref (ad 9 p 0)] (va_pl L f) (fun v w => v = some (.null) ∧ w = va_pl L f) 0 0 := by
  have hb : p ≤ 12 := Nat.le_trans hp2 hI.np.2
  have h := x_latestOf l D K L f (ad 12 u 0) (ad 9 p 0) (ad 10 p 0) p (gla ad σ u) (ad 13 u 0) (ad 14 u 0) (σ.1 12 u) (σ.1 13 u) (gfl g u) (geb g u) (σ.1 17 u) (σ.1 18 u) (nI (nA σ 19 u)) (nI (nA σ 0 p)) (σ.1 5 p) (nI (nA σ 1 p)) (px12 hP u hu1 hu2).1 (px12 hP u hu1 hu2).2.2 (px9 hP p hp1 hp2).1 (px9 hP p hp1 hp2).2.2 (px13 hP u hu1 hu2).1 (px13 hP u hu1 hu2).2.2 hp1 hb
  rw [gla_0 hp1 hb h0] at h
  exact h
theorem r_latestY (hP : PX K L f ad κ g σ) (hI : Inv σ) {u p : Nat} (hu1 : 1 ≤ u) (hu2 : u ≤ nF σ 2) (hp1 : 1 ≤ p) (hp2 : p ≤ nF σ 1) {c : Nat} (h0 : nA σ 14 (13 * u + p) = c) (hc : c ≠ 0) : Mc l yX5_latestOf (wM yX5_latestOf cX5_latestOf 3 (some (.object "ClassMaker4$MadeClass"))) (rmL 0 0 0) D (yY K) [.ref (ad 12 u 0), .ref (ad 9 p 0)] (va_pl L f) (fun v w => v = some (.ref (ad 15 c 0)) ∧ w = va_pl L f) 0 0 := by
  have hb : p ≤ 12 := Nat.le_trans hp2 hI.np.2
  have h := x_latestOf l D K L f (ad 12 u 0) (ad 9 p 0) (ad 10 p 0) p (gla ad σ u) (ad 13 u 0) (ad 14 u 0) (σ.1 12 u) (σ.1 13 u) (gfl g u) (geb g u) (σ.1 17 u) (σ.1 18 u) (nI (nA σ 19 u)) (nI (nA σ 0 p)) (σ.1 5 p) (nI (nA σ 1 p)) (px12 hP u hu1 hu2).1 (px12 hP u hu1 hu2).2.2 (px9 hP p hp1 hp2).1 (px9 hP p hp1 hp2).2.2 (px13 hP u hu1 hu2).1 (px13 hP u hu1 hu2).2.2 hp1 hb
  rw [gla_s hp1 hb h0 hc] at h
  exact h
end FND
