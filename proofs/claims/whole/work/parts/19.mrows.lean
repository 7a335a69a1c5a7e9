theorem op_cases {o : Int32} (h : opOk o) : o = 0 ∨ o = 1 ∨ o = 2 ∨ o = 3 ∨ o = 4 ∨ o = 5 ∨ o = 6 ∨ o = 7 ∨ o = 8 ∨ o = 9 ∨ o = 10 ∨ o = 11 ∨ o = 12 ∨ o = 13 := by
  obtain ⟨h1, h2⟩ := h
  have key : ∀ k : Int32, o.toInt = k.toInt → o = k := fun k h => Int32.toInt_inj.mp h
  rcases (show o.toInt = 0 ∨ o.toInt = 1 ∨ o.toInt = 2 ∨ o.toInt = 3 ∨ o.toInt = 4 ∨ o.toInt = 5 ∨ o.toInt = 6 ∨ o.toInt = 7 ∨ o.toInt = 8 ∨ o.toInt = 9 ∨ o.toInt = 10 ∨ o.toInt = 11 ∨ o.toInt = 12 ∨ o.toInt = 13 by omega) with h | h | h | h | h | h | h | h | h | h | h | h | h | h
  all_goals (first | (exact Or.inl (key _ h)) | (refine Or.inr ?_))
  all_goals (first | (exact Or.inl (key _ h)) | (refine Or.inr ?_))
  all_goals (first | (exact Or.inl (key _ h)) | (refine Or.inr ?_))
  all_goals (first | (exact Or.inl (key _ h)) | (refine Or.inr ?_))
  all_goals (first | (exact Or.inl (key _ h)) | (refine Or.inr ?_))
  all_goals (first | (exact Or.inl (key _ h)) | (refine Or.inr ?_))
  all_goals (first | (exact Or.inl (key _ h)) | (refine Or.inr ?_))
  all_goals (first | (exact Or.inl (key _ h)) | (refine Or.inr ?_))
  all_goals (first | (exact Or.inl (key _ h)) | (refine Or.inr ?_))
  all_goals (first | (exact Or.inl (key _ h)) | (refine Or.inr ?_))
  all_goals (first | (exact Or.inl (key _ h)) | (refine Or.inr ?_))
  all_goals (first | (exact Or.inl (key _ h)) | (refine Or.inr ?_))
  all_goals (first | (exact Or.inl (key _ h)) | (refine Or.inr ?_))
  all_goals exact key _ h
theorem in_nI {b : Int32} {f l : Nat} (hl : l < 2 ^ 31) (h : nI f ≤ b ∧ b ≤ nI l) (hf : f < 2 ^ 31) : ∃ j, f ≤ j ∧ j ≤ l ∧ b = nI j := by
  have h0 : ¬ b < 0 := fun h9 => by
    have h1 := Int32.le_iff_toInt_le.mp h.1
    have h2 := Int32.lt_iff_toInt_lt.mp h9
    rw [nI_toInt hf] at h1
    have : (0 : Int32).toInt = 0 := rfl
    omega
  obtain ⟨j, hj, rfl⟩ := nI_of h0
  exact ⟨j, (nI_leI hf hj).mp h.1, (nI_leI hj hl).mp h.2, rfl⟩
theorem catR_front (g : Nat → List Int32) (f : Nat) : ∀ k : Nat, catR g f (k + 1) = g f ++ catR g (f + 1) k
  | 0 => by simp [catR]
  | k + 1 => by
    rw [catR, catR_front g f k, List.append_assoc]
    conv => rhs; rw [catR]
    rw [show f + 1 + k = f + (k + 1) by omega]
theorem hpr_ap {σ : MS} {p : Nat} {pr : PR} (h : prO σ p = pr) (bs : List Int32) : prO (ap σ bs) p = pr := (prO_ap σ bs p).trans h
theorem mr_begins (l : Launch) (D : va_G) (K : Nat → ClassId) (am : Nat) (A : Nat → Nat) (σ : MS) (pr : PR) (p row f l2 : Nat) (hpr : prO σ p = pr) (hp : p ≤ 12) (h1 : 1 ≤ f) (h2 : f ≤ row) (h3 : row ≤ l2 + 1) (h4 : l2 ≤ 60) (h5 : f ≤ l2) (ho : ∀ r, f ≤ r → r ≤ l2 → opOk (pr r).1) : Mc l yX8_begins (wM yX8_begins cX8_begins 7 (some .int)) (rmL 3 0 0) D (yY K) [.ref am, .int (nI p), .int (nI row), .int (nI f), .int (nI l2)] (mW K am A σ) (fun v w => v = some (.int (nI (bg pr f l2 row))) ∧ w = mW K am A σ) 0 0 := by
  subst hpr
  exact m_begins l D K am A σ p row f l2 hp h1 h2 h3 h4 h5 (fun r a b => ho r a (by omega))
set_option maxHeartbeats 4000000 in
set_option maxRecDepth 100000 in
theorem m_goes (l : Launch) (D : va_G) (K : Nat → ClassId) (am : Nat) (A : Nat → Nat) (σ : MS) (pr : PR) (p f l2 fr : Nat) (b : Int32) (hpr : prO σ p = pr) (hp : p ≤ 12) (h1 : 1 ≤ f) (h4 : l2 ≤ 60) (h5 : f ≤ l2) (ho : ∀ r, f ≤ r → r ≤ l2 → opOk (pr r).1) (hr : Lo σ 4) : Mc l yX8_goes (wM yX8_goes cX8_goes 6 none) (rmL 4 0 0) D (yY K) [.ref am, .int (nI p), .int b, .int (nI f), .int (nI l2), .int (nI fr)] (mW K am A σ) (fun v w => v = none ∧ w = mW K am A (ap σ (bGo pr f l2 b fr))) 0 0 := by
  refine m_start (lv := [(0, .ref am), (1, .int (nI p)), (2, .int b), (3, .int (nI f)), (4, .int (nI l2)), (5, .int (nI fr))]) rfl (Nat.le_of_ble_eq_true rfl) rfl (fun Γ hX hRm hnL hY hDD hLa hR hI hE => ?_)
  have hU : ∀ w ∈ wU, w ∈ wM yX8_goes cX8_goes 6 none := fun w h => wM_in h
  subst hLa
  subst hDD
  by_cases hin : nI f ≤ b ∧ b ≤ nI l2
  · obtain ⟨j, hj1, hj2, rfl⟩ := in_nI (by omega) hin (by omega)
    refine g_iload_n (n := 1) hX dX8_goes_0 rfl rfl rfl ?_
    refine g_iload_n (n := 2) hX dX8_goes_1 rfl rfl rfl ?_
    refine g_iload (n := 4) hX dX8_goes_2 rfl rfl ?_
    refine g_callS0 (n := 7) (As := [.int (nI j), .int (nI f), .int (nI l2)]) (rest := []) hX hE hU hY dX8_goes_4 rfl ys_X8_isWithin um_X8_197 (m_isWithin _ _ K (mW K am A σ) (nI j) (nI f) (nI l2)) ⟨rfl, rfl⟩ (rm_le hRm rfl rfl) rfl rfl (Nat.le_of_ble_eq_true rfl) ⟨Nat.zero_le _, Nat.zero_le _⟩ (fun v0 w0 hq0 => ?_)
    obtain ⟨rfl, rfl⟩ := hq0
    show G Γ (mW K am A σ) 0 0 7 [(0, .ref am), (1, .int (nI p)), (2, .int (nI j)), (3, .int (nI f)), (4, .int (nI l2)), (5, .int (nI fr))] [.int (bI ((nI f) ≤ (nI j) ∧ (nI j) ≤ (nI l2)))]
    refine g_if_eq (n := 10) (tgt := 34) hX dX8_goes_7 rfl (by decide) (fun c7 => absurd c7 (fun h9 => bI_z.mp h9 hin)) (fun c7 => ?_)
    refine g_aload_n (n := 11) hX dX8_goes_10 rfl rfl rfl ?_
    refine g_sipush (n := 14) (v := 167) hX dX8_goes_11 rfl rfl ?_
    refine g_callV0 (n := 17) (As := [.int 167]) (rest := []) hX hE hU hY dX8_goes_14 rfl yv_X8_u1 um_X8_138 (m_u1 _ _ K am A σ 167 (hr.le (by decide))) ⟨rfl, rfl⟩ (rm_le hRm rfl rfl) rfl (ci := 10) (q0 := 0) rfl rfl rfl rfl (Nat.le_of_ble_eq_true rfl) ⟨Nat.zero_le _, Nat.zero_le _⟩ (fun v0 w0 hq0 => ?_)
    obtain ⟨rfl, rfl⟩ := hq0
    show G Γ (mW K am A (ap σ ([167]))) 0 0 17 [(0, .ref am), (1, .int (nI p)), (2, .int (nI j)), (3, .int (nI f)), (4, .int (nI l2)), (5, .int (nI fr))] []
    have hr : Lo (ap σ ([167])) 3 := hr.app (Nat.le_of_ble_eq_true rfl)
    refine g_aload_n (n := 18) hX dX8_goes_17 rfl rfl rfl ?_
    refine g_aload_n (n := 19) hX dX8_goes_18 rfl rfl rfl ?_
    refine g_iload_n (n := 20) hX dX8_goes_19 rfl rfl rfl ?_
    refine g_iload_n (n := 21) hX dX8_goes_20 rfl rfl rfl ?_
    refine g_iload_n (n := 22) hX dX8_goes_21 rfl rfl rfl ?_
    refine g_iload (n := 24) hX dX8_goes_22 rfl rfl ?_
    refine g_callV0 (n := 27) (As := [.int (nI p), .int (nI j), .int (nI f), .int (nI l2)]) (rest := [.ref am]) hX hE hU hY dX8_goes_24 rfl yv_X8_begins um_X8_213 (mr_begins _ _ K am A (ap σ ([167])) pr p (j) f l2 (by simp only [prO_ap]; exact hpr) hp h1 hj1 (by omega) h4 h5 ho) ⟨rfl, rfl⟩ (rm_le hRm rfl rfl) rfl (ci := 10) (q0 := 0) rfl rfl rfl rfl (Nat.le_of_ble_eq_true rfl) ⟨Nat.zero_le _, Nat.zero_le _⟩ (fun v0 w0 hq0 => ?_)
    obtain ⟨rfl, rfl⟩ := hq0
    show G Γ (mW K am A (ap σ ([167]))) 0 0 27 [(0, .ref am), (1, .int (nI p)), (2, .int (nI j)), (3, .int (nI f)), (4, .int (nI l2)), (5, .int (nI fr))] [.int (nI (bg pr f l2 (j))), .ref am]
    refine g_iload (n := 29) hX dX8_goes_27 rfl rfl ?_
    refine g_isub (n := 30) (v := (nI (bg pr f l2 (j))) - (nI fr)) hX dX8_goes_29 rfl rfl ?_
    refine g_callV0 (n := 33) (As := [.int ((nI (bg pr f l2 (j))) - (nI fr))]) (rest := []) hX hE hU hY dX8_goes_30 rfl yv_X8_u2 um_X8_142 (m_u2 _ _ K am A (ap σ ([167])) ((nI (bg pr f l2 (j))) - (nI fr)) (hr.le (by decide))) ⟨rfl, rfl⟩ (rm_le hRm rfl rfl) rfl (ci := 10) (q0 := 0) rfl rfl rfl rfl (Nat.le_of_ble_eq_true rfl) ⟨Nat.zero_le _, Nat.zero_le _⟩ (fun v0 w0 hq0 => ?_)
    obtain ⟨rfl, rfl⟩ := hq0
    show G Γ (mW K am A (ap (ap σ ([167])) (b2 ((nI (bg pr f l2 (j))) - (nI fr))))) 0 0 33 [(0, .ref am), (1, .int (nI p)), (2, .int (nI j)), (3, .int (nI f)), (4, .int (nI l2)), (5, .int (nI fr))] []
    have hr : Lo (ap (ap σ ([167])) (b2 ((nI (bg pr f l2 (j))) - (nI fr)))) 1 := hr.app (Nat.le_of_ble_eq_true rfl)
    exact g_vret hX hR dX8_goes_33 ⟨rfl, by rw [bGo, if_pos hin, nI_clamp (by omega)]; simp only [ap_ap]⟩
  · skip
    refine g_iload_n (n := 1) hX dX8_goes_0 rfl rfl rfl ?_
    refine g_iload_n (n := 2) hX dX8_goes_1 rfl rfl rfl ?_
    refine g_iload (n := 4) hX dX8_goes_2 rfl rfl ?_
    refine g_callS0 (n := 7) (As := [.int b, .int (nI f), .int (nI l2)]) (rest := []) hX hE hU hY dX8_goes_4 rfl ys_X8_isWithin um_X8_197 (m_isWithin _ _ K (mW K am A σ) b (nI f) (nI l2)) ⟨rfl, rfl⟩ (rm_le hRm rfl rfl) rfl rfl (Nat.le_of_ble_eq_true rfl) ⟨Nat.zero_le _, Nat.zero_le _⟩ (fun v0 w0 hq0 => ?_)
    obtain ⟨rfl, rfl⟩ := hq0
    show G Γ (mW K am A σ) 0 0 7 [(0, .ref am), (1, .int (nI p)), (2, .int b), (3, .int (nI f)), (4, .int (nI l2)), (5, .int (nI fr))] [.int (bI ((nI f) ≤ b ∧ b ≤ (nI l2)))]
    refine g_if_eq (n := 10) (tgt := 34) hX dX8_goes_7 rfl (by decide) (fun c7 => ?_) (fun c7 => absurd (bI_z.mpr hin) c7)
    refine g_aload_n (n := 35) hX dX8_goes_34 rfl rfl rfl ?_
    refine g_bipush (n := 37) (v := 17) hX dX8_goes_35 rfl rfl ?_
    refine g_callV0 (n := 40) (As := [.int 17]) (rest := []) hX hE hU hY dX8_goes_37 rfl yv_X8_u1 um_X8_138 (m_u1 _ _ K am A σ 17 (hr.le (by decide))) ⟨rfl, rfl⟩ (rm_le hRm rfl rfl) rfl (ci := 10) (q0 := 0) rfl rfl rfl rfl (Nat.le_of_ble_eq_true rfl) ⟨Nat.zero_le _, Nat.zero_le _⟩ (fun v0 w0 hq0 => ?_)
    obtain ⟨rfl, rfl⟩ := hq0
    show G Γ (mW K am A (ap σ ([17]))) 0 0 40 [(0, .ref am), (1, .int (nI p)), (2, .int b), (3, .int (nI f)), (4, .int (nI l2)), (5, .int (nI fr))] []
    have hr : Lo (ap σ ([17])) 3 := hr.app (Nat.le_of_ble_eq_true rfl)
    refine g_aload_n (n := 41) hX dX8_goes_40 rfl rfl rfl ?_
    refine g_iload_n (n := 42) hX dX8_goes_41 rfl rfl rfl ?_
    refine g_callV0 (n := 45) (As := [.int b]) (rest := []) hX hE hU hY dX8_goes_42 rfl yv_X8_u2 um_X8_142 (m_u2 _ _ K am A (ap σ ([17])) b (hr.le (by decide))) ⟨rfl, rfl⟩ (rm_le hRm rfl rfl) rfl (ci := 10) (q0 := 0) rfl rfl rfl rfl (Nat.le_of_ble_eq_true rfl) ⟨Nat.zero_le _, Nat.zero_le _⟩ (fun v0 w0 hq0 => ?_)
    obtain ⟨rfl, rfl⟩ := hq0
    show G Γ (mW K am A (ap (ap σ ([17])) (b2 b))) 0 0 45 [(0, .ref am), (1, .int (nI p)), (2, .int b), (3, .int (nI f)), (4, .int (nI l2)), (5, .int (nI fr))] []
    have hr : Lo (ap (ap σ ([17])) (b2 b)) 1 := hr.app (Nat.le_of_ble_eq_true rfl)
    refine g_aload_n (n := 46) hX dX8_goes_45 rfl rfl rfl ?_
    refine g_sipush (n := 49) (v := 172) hX dX8_goes_46 rfl rfl ?_
    refine g_callV0 (n := 52) (As := [.int 172]) (rest := []) hX hE hU hY dX8_goes_49 rfl yv_X8_u1 um_X8_138 (m_u1 _ _ K am A (ap (ap σ ([17])) (b2 b)) 172 (hr.le (by decide))) ⟨rfl, rfl⟩ (rm_le hRm rfl rfl) rfl (ci := 10) (q0 := 0) rfl rfl rfl rfl (Nat.le_of_ble_eq_true rfl) ⟨Nat.zero_le _, Nat.zero_le _⟩ (fun v0 w0 hq0 => ?_)
    obtain ⟨rfl, rfl⟩ := hq0
    show G Γ (mW K am A (ap (ap (ap σ ([17])) (b2 b)) ([172]))) 0 0 52 [(0, .ref am), (1, .int (nI p)), (2, .int b), (3, .int (nI f)), (4, .int (nI l2)), (5, .int (nI fr))] []
    have hr : Lo (ap (ap (ap σ ([17])) (b2 b)) ([172])) 0 := hr.app (Nat.le_of_ble_eq_true rfl)
    exact g_vret hX hR dX8_goes_52 ⟨rfl, by rw [bGo, if_neg hin]; simp only [ap_ap]⟩

set_option maxHeartbeats 4000000 in
set_option maxRecDepth 100000 in
theorem m_row (l : Launch) (D : va_G) (K : Nat → ClassId) (am : Nat) (A : Nat → Nat) (σ : MS) (pr : PR) (p r f l2 : Nat) (hpr : prO σ p = pr) (hp : p ≤ 12) (h1 : 1 ≤ f) (h4 : l2 ≤ 60) (h5 : f ≤ l2) (ho : ∀ r, f ≤ r → r ≤ l2 → opOk (pr r).1) (hr1 : f ≤ r) (hr2 : r ≤ l2) (hr : Lo σ 20) : Mc l yX8_row (wM yX8_row cX8_row 10 none) (rmL 5 0 0) D (yY K) [.ref am, .int (nI p), .int (nI r), .int (nI f), .int (nI l2)] (mW K am A σ) (fun v w => v = none ∧ w = mW K am A (ap σ (bRow pr f l2 r))) 0 0 := by
  refine m_start (lv := [(0, .ref am), (1, .int (nI p)), (2, .int (nI r)), (3, .int (nI f)), (4, .int (nI l2))]) rfl (Nat.le_of_ble_eq_true rfl) rfl (fun Γ hX hRm hnL hY hDD hLa hR hI hE => ?_)
  have hU : ∀ w ∈ wU, w ∈ wM yX8_row cX8_row 10 none := fun w h => wM_in h
  subst hLa
  subst hDD
  rcases op_cases (ho r hr1 hr2) with e | e | e | e | e | e | e | e | e | e | e | e | e | e
  · refine g_bipush (n := 2) (v := 60) hX dX8_row_0 rfl rfl ?_
    refine g_iload_n (n := 3) hX dX8_row_2 rfl rfl rfl ?_
    refine g_imul (n := 4) (v := nI (60 * p)) hX dX8_row_3 rfl (pk_mul 60 p) ?_
    refine g_iload_n (n := 5) hX dX8_row_4 rfl rfl rfl ?_
    refine g_iadd (n := 6) (v := nI (60 * p + r)) hX dX8_row_5 rfl (nI_add _ _) ?_
    refine g_istore (lv' := [(5, .int (nI (60 * p + r))), (0, .ref am), (1, .int (nI p)), (2, .int (nI r)), (3, .int (nI f)), (4, .int (nI l2))]) (n := 8) hX dX8_row_6 rfl (by rw [hnL]; rfl) rfl ?_
    refine g_aload_n (n := 9) hX dX8_row_8 rfl rfl rfl ?_
    refine g_mget (n := 12) 6 (v := .ref (A 2)) hX hU dX8_row_9 rfl uf_X8_16 rfl rfl rfl ?_
    refine g_iload (n := 14) hX dX8_row_12 rfl rfl ?_
    refine g_mild (n := 15) 2 (v := (pr r).1) hX hY dX8_row_14 rfl rfl rfl (vp_in_nI (show 60 * p + r < mN 2 by show 60 * p + r < 793; omega) (by decide)) (by rw [nI_clamp (by omega), ← hpr]; rfl) ?_
    refine g_istore (lv' := [(6, .int ((pr r).1)), (5, .int (nI (60 * p + r))), (0, .ref am), (1, .int (nI p)), (2, .int (nI r)), (3, .int (nI f)), (4, .int (nI l2))]) (n := 17) hX dX8_row_15 rfl (by rw [hnL]; rfl) rfl ?_
    refine g_aload_n (n := 18) hX dX8_row_17 rfl rfl rfl ?_
    refine g_mget (n := 21) 7 (v := .ref (A 3)) hX hU dX8_row_18 rfl uf_X8_19 rfl rfl rfl ?_
    refine g_iload (n := 23) hX dX8_row_21 rfl rfl ?_
    refine g_mild (n := 24) 3 (v := (pr r).2.1) hX hY dX8_row_23 rfl rfl rfl (vp_in_nI (show 60 * p + r < mN 3 by show 60 * p + r < 793; omega) (by decide)) (by rw [nI_clamp (by omega), ← hpr]; rfl) ?_
    refine g_istore (lv' := [(7, .int ((pr r).2.1)), (6, .int ((pr r).1)), (5, .int (nI (60 * p + r))), (0, .ref am), (1, .int (nI p)), (2, .int (nI r)), (3, .int (nI f)), (4, .int (nI l2))]) (n := 26) hX dX8_row_24 rfl (by rw [hnL]; rfl) rfl ?_
    refine g_aload_n (n := 27) hX dX8_row_26 rfl rfl rfl ?_
    refine g_mget (n := 30) 8 (v := .ref (A 4)) hX hU dX8_row_27 rfl uf_X8_22 rfl rfl rfl ?_
    refine g_iload (n := 32) hX dX8_row_30 rfl rfl ?_
    refine g_mild (n := 33) 4 (v := (pr r).2.2) hX hY dX8_row_32 rfl rfl rfl (vp_in_nI (show 60 * p + r < mN 4 by show 60 * p + r < 793; omega) (by decide)) (by rw [nI_clamp (by omega), ← hpr]; rfl) ?_
    refine g_istore (lv' := [(8, .int ((pr r).2.2)), (7, .int ((pr r).2.1)), (6, .int ((pr r).1)), (5, .int (nI (60 * p + r))), (0, .ref am), (1, .int (nI p)), (2, .int (nI r)), (3, .int (nI f)), (4, .int (nI l2))]) (n := 35) hX dX8_row_33 rfl (by rw [hnL]; rfl) rfl ?_
    refine g_aload_n (n := 36) hX dX8_row_35 rfl rfl rfl ?_
    refine g_iload_n (n := 37) hX dX8_row_36 rfl rfl rfl ?_
    refine g_iload_n (n := 38) hX dX8_row_37 rfl rfl rfl ?_
    refine g_iload_n (n := 39) hX dX8_row_38 rfl rfl rfl ?_
    refine g_iload (n := 41) hX dX8_row_39 rfl rfl ?_
    refine g_callV0 (n := 44) (As := [.int (nI p), .int (nI r), .int (nI f), .int (nI l2)]) (rest := []) hX hE hU hY dX8_row_41 rfl yv_X8_begins um_X8_213 (mr_begins _ _ K am A σ pr p (r) f l2 hpr hp h1 hr1 (by omega) h4 h5 ho) ⟨rfl, rfl⟩ (rm_le hRm rfl rfl) rfl (ci := 10) (q0 := 0) rfl rfl rfl rfl (Nat.le_of_ble_eq_true rfl) ⟨Nat.zero_le _, Nat.zero_le _⟩ (fun v0 w0 hq0 => ?_)
    obtain ⟨rfl, rfl⟩ := hq0
    show G Γ (mW K am A σ) 0 0 44 [(8, .int ((pr r).2.2)), (7, .int ((pr r).2.1)), (6, .int ((pr r).1)), (5, .int (nI (60 * p + r))), (0, .ref am), (1, .int (nI p)), (2, .int (nI r)), (3, .int (nI f)), (4, .int (nI l2))] [.int (nI (bg pr f l2 (r)))]
    refine g_istore (lv' := [(9, .int (nI (bg pr f l2 (r)))), (8, .int ((pr r).2.2)), (7, .int ((pr r).2.1)), (6, .int ((pr r).1)), (5, .int (nI (60 * p + r))), (0, .ref am), (1, .int (nI p)), (2, .int (nI r)), (3, .int (nI f)), (4, .int (nI l2))]) (n := 46) hX dX8_row_44 rfl (by rw [hnL]; rfl) rfl ?_
    refine g_iload (n := 48) hX dX8_row_46 rfl rfl ?_
    refine g_bipush (n := 50) (v := 7) hX dX8_row_48 rfl rfl ?_
    refine g_icmp_ge (n := 53) (tgt := 136) hX dX8_row_50 rfl (by decide) (fun c50 => absurd c50 (by rw [e] <;> decide)) (fun c50 => ?_)
    refine g_aload_n (n := 54) hX dX8_row_53 rfl rfl rfl ?_
    refine g_callV0 (n := 57) (As := []) (rest := []) hX hE hU hY dX8_row_54 rfl yv_X8_words um_X8_207 (m_words _ _ K am A σ  (hr.le (by decide))) ⟨rfl, rfl⟩ (rm_le hRm rfl rfl) rfl (ci := 10) (q0 := 0) rfl rfl rfl rfl (Nat.le_of_ble_eq_true rfl) ⟨Nat.zero_le _, Nat.zero_le _⟩ (fun v0 w0 hq0 => ?_)
    obtain ⟨rfl, rfl⟩ := hq0
    show G Γ (mW K am A (ap σ bWords)) 0 0 57 [(9, .int (nI (bg pr f l2 (r)))), (8, .int ((pr r).2.2)), (7, .int ((pr r).2.1)), (6, .int ((pr r).1)), (5, .int (nI (60 * p + r))), (0, .ref am), (1, .int (nI p)), (2, .int (nI r)), (3, .int (nI f)), (4, .int (nI l2))] []
    have hr : Lo (ap σ bWords) 17 := hr.app (Nat.le_of_ble_eq_true rfl)
    refine g_aload_n (n := 58) hX dX8_row_57 rfl rfl rfl ?_
    refine g_iload (n := 60) hX dX8_row_58 rfl rfl ?_
    refine g_callV0 (n := 63) (As := [.int ((pr r).2.1)]) (rest := []) hX hE hU hY dX8_row_60 rfl yv_X8_push um_X8_210 (m_push _ _ K am A (ap σ bWords) ((pr r).2.1) (hr.le (by decide))) ⟨rfl, rfl⟩ (rm_le hRm rfl rfl) rfl (ci := 10) (q0 := 0) rfl rfl rfl rfl (Nat.le_of_ble_eq_true rfl) ⟨Nat.zero_le _, Nat.zero_le _⟩ (fun v0 w0 hq0 => ?_)
    obtain ⟨rfl, rfl⟩ := hq0
    show G Γ (mW K am A (ap (ap σ bWords) (bPush ((pr r).2.1)))) 0 0 63 [(9, .int (nI (bg pr f l2 (r)))), (8, .int ((pr r).2.2)), (7, .int ((pr r).2.1)), (6, .int ((pr r).1)), (5, .int (nI (60 * p + r))), (0, .ref am), (1, .int (nI p)), (2, .int (nI r)), (3, .int (nI f)), (4, .int (nI l2))] []
    have hr : Lo (ap (ap σ bWords) (bPush ((pr r).2.1))) 15 := hr.app (Nat.le_of_ble_eq_true rfl)
    refine g_iload (n := 65) hX dX8_row_63 rfl rfl ?_
    refine g_if_ne (n := 68) (tgt := 74) hX dX8_row_65 rfl (by decide) (fun c65 => absurd (by rw [e] <;> decide) c65) (fun c65 => ?_)
    refine g_aload_n (n := 69) hX dX8_row_68 rfl rfl rfl ?_
    refine g_iload (n := 71) hX dX8_row_69 rfl rfl ?_
    refine g_callV0 (n := 74) (As := [.int ((pr r).2.2)]) (rest := []) hX hE hU hY dX8_row_71 rfl yv_X8_push um_X8_210 (m_push _ _ K am A (ap (ap σ bWords) (bPush ((pr r).2.1))) ((pr r).2.2) (hr.le (by decide))) ⟨rfl, rfl⟩ (rm_le hRm rfl rfl) rfl (ci := 10) (q0 := 0) rfl rfl rfl rfl (Nat.le_of_ble_eq_true rfl) ⟨Nat.zero_le _, Nat.zero_le _⟩ (fun v0 w0 hq0 => ?_)
    obtain ⟨rfl, rfl⟩ := hq0
    show G Γ (mW K am A (ap (ap (ap σ bWords) (bPush ((pr r).2.1))) (bPush ((pr r).2.2)))) 0 0 74 [(9, .int (nI (bg pr f l2 (r)))), (8, .int ((pr r).2.2)), (7, .int ((pr r).2.1)), (6, .int ((pr r).1)), (5, .int (nI (60 * p + r))), (0, .ref am), (1, .int (nI p)), (2, .int (nI r)), (3, .int (nI f)), (4, .int (nI l2))] []
    have hr : Lo (ap (ap (ap σ bWords) (bPush ((pr r).2.1))) (bPush ((pr r).2.2))) 13 := hr.app (Nat.le_of_ble_eq_true rfl)
    refine g_iload (n := 76) hX dX8_row_74 rfl rfl ?_
    refine g_iconst (n := 77) (v := 1) hX dX8_row_76 rfl rfl ?_
    refine g_icmp_le (n := 80) (tgt := 86) hX dX8_row_77 rfl (by decide) (fun c77 => ?_) (fun c77 => absurd (by rw [e] <;> decide) c77)
    refine g_iload (n := 88) hX dX8_row_86 rfl rfl ?_
    refine g_if_le (n := 91) (tgt := 97) hX dX8_row_88 rfl (by decide) (fun c88 => ?_) (fun c88 => absurd (by rw [e] <;> decide) c88)
    refine g_iload (n := 99) hX dX8_row_97 rfl rfl ?_
    refine g_iconst (n := 100) (v := 1) hX dX8_row_99 rfl rfl ?_
    refine g_icmp_le (n := 103) (tgt := 114) hX dX8_row_100 rfl (by decide) (fun c100 => ?_) (fun c100 => absurd (by rw [e] <;> decide) c100)
    refine g_iload (n := 116) hX dX8_row_114 rfl rfl ?_
    refine g_iconst (n := 117) (v := 1) hX dX8_row_116 rfl rfl ?_
    refine g_icmp_le (n := 120) (tgt := 127) hX dX8_row_117 rfl (by decide) (fun c117 => ?_) (fun c117 => absurd (by rw [e] <;> decide) c117)
    refine g_aload_n (n := 128) hX dX8_row_127 rfl rfl rfl ?_
    refine g_bipush (n := 130) (v := 84) hX dX8_row_128 rfl rfl ?_
    refine g_callV0 (n := 133) (As := [.int 84]) (rest := []) hX hE hU hY dX8_row_130 rfl yv_X8_u1 um_X8_138 (m_u1 _ _ K am A (ap (ap (ap σ bWords) (bPush ((pr r).2.1))) (bPush ((pr r).2.2))) 84 (hr.le (by decide))) ⟨rfl, rfl⟩ (rm_le hRm rfl rfl) rfl (ci := 10) (q0 := 0) rfl rfl rfl rfl (Nat.le_of_ble_eq_true rfl) ⟨Nat.zero_le _, Nat.zero_le _⟩ (fun v0 w0 hq0 => ?_)
    obtain ⟨rfl, rfl⟩ := hq0
    show G Γ (mW K am A (ap (ap (ap (ap σ bWords) (bPush ((pr r).2.1))) (bPush ((pr r).2.2))) ([84]))) 0 0 133 [(9, .int (nI (bg pr f l2 (r)))), (8, .int ((pr r).2.2)), (7, .int ((pr r).2.1)), (6, .int ((pr r).1)), (5, .int (nI (60 * p + r))), (0, .ref am), (1, .int (nI p)), (2, .int (nI r)), (3, .int (nI f)), (4, .int (nI l2))] []
    have hr : Lo (ap (ap (ap (ap σ bWords) (bPush ((pr r).2.1))) (bPush ((pr r).2.2))) ([84])) 12 := hr.app (Nat.le_of_ble_eq_true rfl)
    refine g_goto (n := 340) hX dX8_row_133 (by decide) ?_
    exact g_vret hX hR dX8_row_340 ⟨rfl, by rw [bRow, if_pos e] <;> simp only [ap_ap]⟩
  · refine g_bipush (n := 2) (v := 60) hX dX8_row_0 rfl rfl ?_
    refine g_iload_n (n := 3) hX dX8_row_2 rfl rfl rfl ?_
    refine g_imul (n := 4) (v := nI (60 * p)) hX dX8_row_3 rfl (pk_mul 60 p) ?_
    refine g_iload_n (n := 5) hX dX8_row_4 rfl rfl rfl ?_
    refine g_iadd (n := 6) (v := nI (60 * p + r)) hX dX8_row_5 rfl (nI_add _ _) ?_
    refine g_istore (lv' := [(5, .int (nI (60 * p + r))), (0, .ref am), (1, .int (nI p)), (2, .int (nI r)), (3, .int (nI f)), (4, .int (nI l2))]) (n := 8) hX dX8_row_6 rfl (by rw [hnL]; rfl) rfl ?_
    refine g_aload_n (n := 9) hX dX8_row_8 rfl rfl rfl ?_
    refine g_mget (n := 12) 6 (v := .ref (A 2)) hX hU dX8_row_9 rfl uf_X8_16 rfl rfl rfl ?_
    refine g_iload (n := 14) hX dX8_row_12 rfl rfl ?_
    refine g_mild (n := 15) 2 (v := (pr r).1) hX hY dX8_row_14 rfl rfl rfl (vp_in_nI (show 60 * p + r < mN 2 by show 60 * p + r < 793; omega) (by decide)) (by rw [nI_clamp (by omega), ← hpr]; rfl) ?_
    refine g_istore (lv' := [(6, .int ((pr r).1)), (5, .int (nI (60 * p + r))), (0, .ref am), (1, .int (nI p)), (2, .int (nI r)), (3, .int (nI f)), (4, .int (nI l2))]) (n := 17) hX dX8_row_15 rfl (by rw [hnL]; rfl) rfl ?_
    refine g_aload_n (n := 18) hX dX8_row_17 rfl rfl rfl ?_
    refine g_mget (n := 21) 7 (v := .ref (A 3)) hX hU dX8_row_18 rfl uf_X8_19 rfl rfl rfl ?_
    refine g_iload (n := 23) hX dX8_row_21 rfl rfl ?_
    refine g_mild (n := 24) 3 (v := (pr r).2.1) hX hY dX8_row_23 rfl rfl rfl (vp_in_nI (show 60 * p + r < mN 3 by show 60 * p + r < 793; omega) (by decide)) (by rw [nI_clamp (by omega), ← hpr]; rfl) ?_
    refine g_istore (lv' := [(7, .int ((pr r).2.1)), (6, .int ((pr r).1)), (5, .int (nI (60 * p + r))), (0, .ref am), (1, .int (nI p)), (2, .int (nI r)), (3, .int (nI f)), (4, .int (nI l2))]) (n := 26) hX dX8_row_24 rfl (by rw [hnL]; rfl) rfl ?_
    refine g_aload_n (n := 27) hX dX8_row_26 rfl rfl rfl ?_
    refine g_mget (n := 30) 8 (v := .ref (A 4)) hX hU dX8_row_27 rfl uf_X8_22 rfl rfl rfl ?_
    refine g_iload (n := 32) hX dX8_row_30 rfl rfl ?_
    refine g_mild (n := 33) 4 (v := (pr r).2.2) hX hY dX8_row_32 rfl rfl rfl (vp_in_nI (show 60 * p + r < mN 4 by show 60 * p + r < 793; omega) (by decide)) (by rw [nI_clamp (by omega), ← hpr]; rfl) ?_
    refine g_istore (lv' := [(8, .int ((pr r).2.2)), (7, .int ((pr r).2.1)), (6, .int ((pr r).1)), (5, .int (nI (60 * p + r))), (0, .ref am), (1, .int (nI p)), (2, .int (nI r)), (3, .int (nI f)), (4, .int (nI l2))]) (n := 35) hX dX8_row_33 rfl (by rw [hnL]; rfl) rfl ?_
    refine g_aload_n (n := 36) hX dX8_row_35 rfl rfl rfl ?_
    refine g_iload_n (n := 37) hX dX8_row_36 rfl rfl rfl ?_
    refine g_iload_n (n := 38) hX dX8_row_37 rfl rfl rfl ?_
    refine g_iload_n (n := 39) hX dX8_row_38 rfl rfl rfl ?_
    refine g_iload (n := 41) hX dX8_row_39 rfl rfl ?_
    refine g_callV0 (n := 44) (As := [.int (nI p), .int (nI r), .int (nI f), .int (nI l2)]) (rest := []) hX hE hU hY dX8_row_41 rfl yv_X8_begins um_X8_213 (mr_begins _ _ K am A σ pr p (r) f l2 hpr hp h1 hr1 (by omega) h4 h5 ho) ⟨rfl, rfl⟩ (rm_le hRm rfl rfl) rfl (ci := 10) (q0 := 0) rfl rfl rfl rfl (Nat.le_of_ble_eq_true rfl) ⟨Nat.zero_le _, Nat.zero_le _⟩ (fun v0 w0 hq0 => ?_)
    obtain ⟨rfl, rfl⟩ := hq0
    show G Γ (mW K am A σ) 0 0 44 [(8, .int ((pr r).2.2)), (7, .int ((pr r).2.1)), (6, .int ((pr r).1)), (5, .int (nI (60 * p + r))), (0, .ref am), (1, .int (nI p)), (2, .int (nI r)), (3, .int (nI f)), (4, .int (nI l2))] [.int (nI (bg pr f l2 (r)))]
    refine g_istore (lv' := [(9, .int (nI (bg pr f l2 (r)))), (8, .int ((pr r).2.2)), (7, .int ((pr r).2.1)), (6, .int ((pr r).1)), (5, .int (nI (60 * p + r))), (0, .ref am), (1, .int (nI p)), (2, .int (nI r)), (3, .int (nI f)), (4, .int (nI l2))]) (n := 46) hX dX8_row_44 rfl (by rw [hnL]; rfl) rfl ?_
    refine g_iload (n := 48) hX dX8_row_46 rfl rfl ?_
    refine g_bipush (n := 50) (v := 7) hX dX8_row_48 rfl rfl ?_
    refine g_icmp_ge (n := 53) (tgt := 136) hX dX8_row_50 rfl (by decide) (fun c50 => absurd c50 (by rw [e] <;> decide)) (fun c50 => ?_)
    refine g_aload_n (n := 54) hX dX8_row_53 rfl rfl rfl ?_
    refine g_callV0 (n := 57) (As := []) (rest := []) hX hE hU hY dX8_row_54 rfl yv_X8_words um_X8_207 (m_words _ _ K am A σ  (hr.le (by decide))) ⟨rfl, rfl⟩ (rm_le hRm rfl rfl) rfl (ci := 10) (q0 := 0) rfl rfl rfl rfl (Nat.le_of_ble_eq_true rfl) ⟨Nat.zero_le _, Nat.zero_le _⟩ (fun v0 w0 hq0 => ?_)
    obtain ⟨rfl, rfl⟩ := hq0
    show G Γ (mW K am A (ap σ bWords)) 0 0 57 [(9, .int (nI (bg pr f l2 (r)))), (8, .int ((pr r).2.2)), (7, .int ((pr r).2.1)), (6, .int ((pr r).1)), (5, .int (nI (60 * p + r))), (0, .ref am), (1, .int (nI p)), (2, .int (nI r)), (3, .int (nI f)), (4, .int (nI l2))] []
    have hr : Lo (ap σ bWords) 17 := hr.app (Nat.le_of_ble_eq_true rfl)
    refine g_aload_n (n := 58) hX dX8_row_57 rfl rfl rfl ?_
    refine g_iload (n := 60) hX dX8_row_58 rfl rfl ?_
    refine g_callV0 (n := 63) (As := [.int ((pr r).2.1)]) (rest := []) hX hE hU hY dX8_row_60 rfl yv_X8_push um_X8_210 (m_push _ _ K am A (ap σ bWords) ((pr r).2.1) (hr.le (by decide))) ⟨rfl, rfl⟩ (rm_le hRm rfl rfl) rfl (ci := 10) (q0 := 0) rfl rfl rfl rfl (Nat.le_of_ble_eq_true rfl) ⟨Nat.zero_le _, Nat.zero_le _⟩ (fun v0 w0 hq0 => ?_)
    obtain ⟨rfl, rfl⟩ := hq0
    show G Γ (mW K am A (ap (ap σ bWords) (bPush ((pr r).2.1)))) 0 0 63 [(9, .int (nI (bg pr f l2 (r)))), (8, .int ((pr r).2.2)), (7, .int ((pr r).2.1)), (6, .int ((pr r).1)), (5, .int (nI (60 * p + r))), (0, .ref am), (1, .int (nI p)), (2, .int (nI r)), (3, .int (nI f)), (4, .int (nI l2))] []
    have hr : Lo (ap (ap σ bWords) (bPush ((pr r).2.1))) 15 := hr.app (Nat.le_of_ble_eq_true rfl)
    refine g_iload (n := 65) hX dX8_row_63 rfl rfl ?_
    refine g_if_ne (n := 68) (tgt := 74) hX dX8_row_65 rfl (by decide) (fun c65 => ?_) (fun c65 => absurd c65 (by rw [e] <;> decide))
    refine g_iload (n := 76) hX dX8_row_74 rfl rfl ?_
    refine g_iconst (n := 77) (v := 1) hX dX8_row_76 rfl rfl ?_
    refine g_icmp_le (n := 80) (tgt := 86) hX dX8_row_77 rfl (by decide) (fun c77 => ?_) (fun c77 => absurd (by rw [e] <;> decide) c77)
    refine g_iload (n := 88) hX dX8_row_86 rfl rfl ?_
    refine g_if_le (n := 91) (tgt := 97) hX dX8_row_88 rfl (by decide) (fun c88 => absurd c88 (by rw [e] <;> decide)) (fun c88 => ?_)
    refine g_aload_n (n := 92) hX dX8_row_91 rfl rfl rfl ?_
    refine g_iload (n := 94) hX dX8_row_92 rfl rfl ?_
    refine g_callV0 (n := 97) (As := [.int ((pr r).2.2)]) (rest := []) hX hE hU hY dX8_row_94 rfl yv_X8_load um_X8_217 (m_load _ _ K am A (ap (ap σ bWords) (bPush ((pr r).2.1))) ((pr r).2.2) (hr.le (by decide))) ⟨rfl, rfl⟩ (rm_le hRm rfl rfl) rfl (ci := 10) (q0 := 0) rfl rfl rfl rfl (Nat.le_of_ble_eq_true rfl) ⟨Nat.zero_le _, Nat.zero_le _⟩ (fun v0 w0 hq0 => ?_)
    obtain ⟨rfl, rfl⟩ := hq0
    show G Γ (mW K am A (ap (ap (ap σ bWords) (bPush ((pr r).2.1))) (bLoad ((pr r).2.2)))) 0 0 97 [(9, .int (nI (bg pr f l2 (r)))), (8, .int ((pr r).2.2)), (7, .int ((pr r).2.1)), (6, .int ((pr r).1)), (5, .int (nI (60 * p + r))), (0, .ref am), (1, .int (nI p)), (2, .int (nI r)), (3, .int (nI f)), (4, .int (nI l2))] []
    have hr : Lo (ap (ap (ap σ bWords) (bPush ((pr r).2.1))) (bLoad ((pr r).2.2))) 9 := hr.app (Nat.le_of_ble_eq_true rfl)
    refine g_iload (n := 99) hX dX8_row_97 rfl rfl ?_
    refine g_iconst (n := 100) (v := 1) hX dX8_row_99 rfl rfl ?_
    refine g_icmp_le (n := 103) (tgt := 114) hX dX8_row_100 rfl (by decide) (fun c100 => ?_) (fun c100 => absurd (by rw [e] <;> decide) c100)
    refine g_iload (n := 116) hX dX8_row_114 rfl rfl ?_
    refine g_iconst (n := 117) (v := 1) hX dX8_row_116 rfl rfl ?_
    refine g_icmp_le (n := 120) (tgt := 127) hX dX8_row_117 rfl (by decide) (fun c117 => ?_) (fun c117 => absurd (by rw [e] <;> decide) c117)
    refine g_aload_n (n := 128) hX dX8_row_127 rfl rfl rfl ?_
    refine g_bipush (n := 130) (v := 84) hX dX8_row_128 rfl rfl ?_
    refine g_callV0 (n := 133) (As := [.int 84]) (rest := []) hX hE hU hY dX8_row_130 rfl yv_X8_u1 um_X8_138 (m_u1 _ _ K am A (ap (ap (ap σ bWords) (bPush ((pr r).2.1))) (bLoad ((pr r).2.2))) 84 (hr.le (by decide))) ⟨rfl, rfl⟩ (rm_le hRm rfl rfl) rfl (ci := 10) (q0 := 0) rfl rfl rfl rfl (Nat.le_of_ble_eq_true rfl) ⟨Nat.zero_le _, Nat.zero_le _⟩ (fun v0 w0 hq0 => ?_)
    obtain ⟨rfl, rfl⟩ := hq0
    show G Γ (mW K am A (ap (ap (ap (ap σ bWords) (bPush ((pr r).2.1))) (bLoad ((pr r).2.2))) ([84]))) 0 0 133 [(9, .int (nI (bg pr f l2 (r)))), (8, .int ((pr r).2.2)), (7, .int ((pr r).2.1)), (6, .int ((pr r).1)), (5, .int (nI (60 * p + r))), (0, .ref am), (1, .int (nI p)), (2, .int (nI r)), (3, .int (nI f)), (4, .int (nI l2))] []
    have hr : Lo (ap (ap (ap (ap σ bWords) (bPush ((pr r).2.1))) (bLoad ((pr r).2.2))) ([84])) 8 := hr.app (Nat.le_of_ble_eq_true rfl)
    refine g_goto (n := 340) hX dX8_row_133 (by decide) ?_
    exact g_vret hX hR dX8_row_340 ⟨rfl, by rw [bRow, if_neg (by rw [e]; decide), if_pos e] <;> simp only [ap_ap]⟩
  · refine g_bipush (n := 2) (v := 60) hX dX8_row_0 rfl rfl ?_
    refine g_iload_n (n := 3) hX dX8_row_2 rfl rfl rfl ?_
    refine g_imul (n := 4) (v := nI (60 * p)) hX dX8_row_3 rfl (pk_mul 60 p) ?_
    refine g_iload_n (n := 5) hX dX8_row_4 rfl rfl rfl ?_
    refine g_iadd (n := 6) (v := nI (60 * p + r)) hX dX8_row_5 rfl (nI_add _ _) ?_
    refine g_istore (lv' := [(5, .int (nI (60 * p + r))), (0, .ref am), (1, .int (nI p)), (2, .int (nI r)), (3, .int (nI f)), (4, .int (nI l2))]) (n := 8) hX dX8_row_6 rfl (by rw [hnL]; rfl) rfl ?_
    refine g_aload_n (n := 9) hX dX8_row_8 rfl rfl rfl ?_
    refine g_mget (n := 12) 6 (v := .ref (A 2)) hX hU dX8_row_9 rfl uf_X8_16 rfl rfl rfl ?_
    refine g_iload (n := 14) hX dX8_row_12 rfl rfl ?_
    refine g_mild (n := 15) 2 (v := (pr r).1) hX hY dX8_row_14 rfl rfl rfl (vp_in_nI (show 60 * p + r < mN 2 by show 60 * p + r < 793; omega) (by decide)) (by rw [nI_clamp (by omega), ← hpr]; rfl) ?_
    refine g_istore (lv' := [(6, .int ((pr r).1)), (5, .int (nI (60 * p + r))), (0, .ref am), (1, .int (nI p)), (2, .int (nI r)), (3, .int (nI f)), (4, .int (nI l2))]) (n := 17) hX dX8_row_15 rfl (by rw [hnL]; rfl) rfl ?_
    refine g_aload_n (n := 18) hX dX8_row_17 rfl rfl rfl ?_
    refine g_mget (n := 21) 7 (v := .ref (A 3)) hX hU dX8_row_18 rfl uf_X8_19 rfl rfl rfl ?_
    refine g_iload (n := 23) hX dX8_row_21 rfl rfl ?_
    refine g_mild (n := 24) 3 (v := (pr r).2.1) hX hY dX8_row_23 rfl rfl rfl (vp_in_nI (show 60 * p + r < mN 3 by show 60 * p + r < 793; omega) (by decide)) (by rw [nI_clamp (by omega), ← hpr]; rfl) ?_
    refine g_istore (lv' := [(7, .int ((pr r).2.1)), (6, .int ((pr r).1)), (5, .int (nI (60 * p + r))), (0, .ref am), (1, .int (nI p)), (2, .int (nI r)), (3, .int (nI f)), (4, .int (nI l2))]) (n := 26) hX dX8_row_24 rfl (by rw [hnL]; rfl) rfl ?_
    refine g_aload_n (n := 27) hX dX8_row_26 rfl rfl rfl ?_
    refine g_mget (n := 30) 8 (v := .ref (A 4)) hX hU dX8_row_27 rfl uf_X8_22 rfl rfl rfl ?_
    refine g_iload (n := 32) hX dX8_row_30 rfl rfl ?_
    refine g_mild (n := 33) 4 (v := (pr r).2.2) hX hY dX8_row_32 rfl rfl rfl (vp_in_nI (show 60 * p + r < mN 4 by show 60 * p + r < 793; omega) (by decide)) (by rw [nI_clamp (by omega), ← hpr]; rfl) ?_
    refine g_istore (lv' := [(8, .int ((pr r).2.2)), (7, .int ((pr r).2.1)), (6, .int ((pr r).1)), (5, .int (nI (60 * p + r))), (0, .ref am), (1, .int (nI p)), (2, .int (nI r)), (3, .int (nI f)), (4, .int (nI l2))]) (n := 35) hX dX8_row_33 rfl (by rw [hnL]; rfl) rfl ?_
    refine g_aload_n (n := 36) hX dX8_row_35 rfl rfl rfl ?_
    refine g_iload_n (n := 37) hX dX8_row_36 rfl rfl rfl ?_
    refine g_iload_n (n := 38) hX dX8_row_37 rfl rfl rfl ?_
    refine g_iload_n (n := 39) hX dX8_row_38 rfl rfl rfl ?_
    refine g_iload (n := 41) hX dX8_row_39 rfl rfl ?_
    refine g_callV0 (n := 44) (As := [.int (nI p), .int (nI r), .int (nI f), .int (nI l2)]) (rest := []) hX hE hU hY dX8_row_41 rfl yv_X8_begins um_X8_213 (mr_begins _ _ K am A σ pr p (r) f l2 hpr hp h1 hr1 (by omega) h4 h5 ho) ⟨rfl, rfl⟩ (rm_le hRm rfl rfl) rfl (ci := 10) (q0 := 0) rfl rfl rfl rfl (Nat.le_of_ble_eq_true rfl) ⟨Nat.zero_le _, Nat.zero_le _⟩ (fun v0 w0 hq0 => ?_)
    obtain ⟨rfl, rfl⟩ := hq0
    show G Γ (mW K am A σ) 0 0 44 [(8, .int ((pr r).2.2)), (7, .int ((pr r).2.1)), (6, .int ((pr r).1)), (5, .int (nI (60 * p + r))), (0, .ref am), (1, .int (nI p)), (2, .int (nI r)), (3, .int (nI f)), (4, .int (nI l2))] [.int (nI (bg pr f l2 (r)))]
    refine g_istore (lv' := [(9, .int (nI (bg pr f l2 (r)))), (8, .int ((pr r).2.2)), (7, .int ((pr r).2.1)), (6, .int ((pr r).1)), (5, .int (nI (60 * p + r))), (0, .ref am), (1, .int (nI p)), (2, .int (nI r)), (3, .int (nI f)), (4, .int (nI l2))]) (n := 46) hX dX8_row_44 rfl (by rw [hnL]; rfl) rfl ?_
    refine g_iload (n := 48) hX dX8_row_46 rfl rfl ?_
    refine g_bipush (n := 50) (v := 7) hX dX8_row_48 rfl rfl ?_
    refine g_icmp_ge (n := 53) (tgt := 136) hX dX8_row_50 rfl (by decide) (fun c50 => absurd c50 (by rw [e] <;> decide)) (fun c50 => ?_)
    refine g_aload_n (n := 54) hX dX8_row_53 rfl rfl rfl ?_
    refine g_callV0 (n := 57) (As := []) (rest := []) hX hE hU hY dX8_row_54 rfl yv_X8_words um_X8_207 (m_words _ _ K am A σ  (hr.le (by decide))) ⟨rfl, rfl⟩ (rm_le hRm rfl rfl) rfl (ci := 10) (q0 := 0) rfl rfl rfl rfl (Nat.le_of_ble_eq_true rfl) ⟨Nat.zero_le _, Nat.zero_le _⟩ (fun v0 w0 hq0 => ?_)
    obtain ⟨rfl, rfl⟩ := hq0
    show G Γ (mW K am A (ap σ bWords)) 0 0 57 [(9, .int (nI (bg pr f l2 (r)))), (8, .int ((pr r).2.2)), (7, .int ((pr r).2.1)), (6, .int ((pr r).1)), (5, .int (nI (60 * p + r))), (0, .ref am), (1, .int (nI p)), (2, .int (nI r)), (3, .int (nI f)), (4, .int (nI l2))] []
    have hr : Lo (ap σ bWords) 17 := hr.app (Nat.le_of_ble_eq_true rfl)
    refine g_aload_n (n := 58) hX dX8_row_57 rfl rfl rfl ?_
    refine g_iload (n := 60) hX dX8_row_58 rfl rfl ?_
    refine g_callV0 (n := 63) (As := [.int ((pr r).2.1)]) (rest := []) hX hE hU hY dX8_row_60 rfl yv_X8_push um_X8_210 (m_push _ _ K am A (ap σ bWords) ((pr r).2.1) (hr.le (by decide))) ⟨rfl, rfl⟩ (rm_le hRm rfl rfl) rfl (ci := 10) (q0 := 0) rfl rfl rfl rfl (Nat.le_of_ble_eq_true rfl) ⟨Nat.zero_le _, Nat.zero_le _⟩ (fun v0 w0 hq0 => ?_)
    obtain ⟨rfl, rfl⟩ := hq0
    show G Γ (mW K am A (ap (ap σ bWords) (bPush ((pr r).2.1)))) 0 0 63 [(9, .int (nI (bg pr f l2 (r)))), (8, .int ((pr r).2.2)), (7, .int ((pr r).2.1)), (6, .int ((pr r).1)), (5, .int (nI (60 * p + r))), (0, .ref am), (1, .int (nI p)), (2, .int (nI r)), (3, .int (nI f)), (4, .int (nI l2))] []
    have hr : Lo (ap (ap σ bWords) (bPush ((pr r).2.1))) 15 := hr.app (Nat.le_of_ble_eq_true rfl)
    refine g_iload (n := 65) hX dX8_row_63 rfl rfl ?_
    refine g_if_ne (n := 68) (tgt := 74) hX dX8_row_65 rfl (by decide) (fun c65 => ?_) (fun c65 => absurd c65 (by rw [e] <;> decide))
    refine g_iload (n := 76) hX dX8_row_74 rfl rfl ?_
    refine g_iconst (n := 77) (v := 1) hX dX8_row_76 rfl rfl ?_
    refine g_icmp_le (n := 80) (tgt := 86) hX dX8_row_77 rfl (by decide) (fun c77 => absurd c77 (by rw [e] <;> decide)) (fun c77 => ?_)
    refine g_aload_n (n := 81) hX dX8_row_80 rfl rfl rfl ?_
    refine g_iload (n := 83) hX dX8_row_81 rfl rfl ?_
    refine g_callV0 (n := 86) (As := [.int ((pr r).2.1)]) (rest := []) hX hE hU hY dX8_row_83 rfl yv_X8_load um_X8_217 (m_load _ _ K am A (ap (ap σ bWords) (bPush ((pr r).2.1))) ((pr r).2.1) (hr.le (by decide))) ⟨rfl, rfl⟩ (rm_le hRm rfl rfl) rfl (ci := 10) (q0 := 0) rfl rfl rfl rfl (Nat.le_of_ble_eq_true rfl) ⟨Nat.zero_le _, Nat.zero_le _⟩ (fun v0 w0 hq0 => ?_)
    obtain ⟨rfl, rfl⟩ := hq0
    show G Γ (mW K am A (ap (ap (ap σ bWords) (bPush ((pr r).2.1))) (bLoad ((pr r).2.1)))) 0 0 86 [(9, .int (nI (bg pr f l2 (r)))), (8, .int ((pr r).2.2)), (7, .int ((pr r).2.1)), (6, .int ((pr r).1)), (5, .int (nI (60 * p + r))), (0, .ref am), (1, .int (nI p)), (2, .int (nI r)), (3, .int (nI f)), (4, .int (nI l2))] []
    have hr : Lo (ap (ap (ap σ bWords) (bPush ((pr r).2.1))) (bLoad ((pr r).2.1))) 9 := hr.app (Nat.le_of_ble_eq_true rfl)
    refine g_iload (n := 88) hX dX8_row_86 rfl rfl ?_
    refine g_if_le (n := 91) (tgt := 97) hX dX8_row_88 rfl (by decide) (fun c88 => absurd c88 (by rw [e] <;> decide)) (fun c88 => ?_)
    refine g_aload_n (n := 92) hX dX8_row_91 rfl rfl rfl ?_
    refine g_iload (n := 94) hX dX8_row_92 rfl rfl ?_
    refine g_callV0 (n := 97) (As := [.int ((pr r).2.2)]) (rest := []) hX hE hU hY dX8_row_94 rfl yv_X8_load um_X8_217 (m_load _ _ K am A (ap (ap (ap σ bWords) (bPush ((pr r).2.1))) (bLoad ((pr r).2.1))) ((pr r).2.2) (hr.le (by decide))) ⟨rfl, rfl⟩ (rm_le hRm rfl rfl) rfl (ci := 10) (q0 := 0) rfl rfl rfl rfl (Nat.le_of_ble_eq_true rfl) ⟨Nat.zero_le _, Nat.zero_le _⟩ (fun v0 w0 hq0 => ?_)
    obtain ⟨rfl, rfl⟩ := hq0
    show G Γ (mW K am A (ap (ap (ap (ap σ bWords) (bPush ((pr r).2.1))) (bLoad ((pr r).2.1))) (bLoad ((pr r).2.2)))) 0 0 97 [(9, .int (nI (bg pr f l2 (r)))), (8, .int ((pr r).2.2)), (7, .int ((pr r).2.1)), (6, .int ((pr r).1)), (5, .int (nI (60 * p + r))), (0, .ref am), (1, .int (nI p)), (2, .int (nI r)), (3, .int (nI f)), (4, .int (nI l2))] []
    have hr : Lo (ap (ap (ap (ap σ bWords) (bPush ((pr r).2.1))) (bLoad ((pr r).2.1))) (bLoad ((pr r).2.2))) 3 := hr.app (Nat.le_of_ble_eq_true rfl)
    refine g_iload (n := 99) hX dX8_row_97 rfl rfl ?_
    refine g_iconst (n := 100) (v := 1) hX dX8_row_99 rfl rfl ?_
    refine g_icmp_le (n := 103) (tgt := 114) hX dX8_row_100 rfl (by decide) (fun c100 => absurd c100 (by rw [e] <;> decide)) (fun c100 => ?_)
    refine g_aload_n (n := 104) hX dX8_row_103 rfl rfl rfl ?_
    refine g_bipush (n := 106) (v := 88) hX dX8_row_104 rfl rfl ?_
    refine g_iconst (n := 107) (v := 4) hX dX8_row_106 rfl rfl ?_
    refine g_iload (n := 109) hX dX8_row_107 rfl rfl ?_
    refine g_imul (n := 110) (v := 4 * ((pr r).1)) hX dX8_row_109 rfl rfl ?_
    refine g_iadd (n := 111) (v := 88 + (4 * ((pr r).1))) hX dX8_row_110 rfl rfl ?_
    refine g_callV0 (n := 114) (As := [.int (88 + (4 * ((pr r).1)))]) (rest := []) hX hE hU hY dX8_row_111 rfl yv_X8_u1 um_X8_138 (m_u1 _ _ K am A (ap (ap (ap (ap σ bWords) (bPush ((pr r).2.1))) (bLoad ((pr r).2.1))) (bLoad ((pr r).2.2))) (88 + (4 * ((pr r).1))) (hr.le (by decide))) ⟨rfl, rfl⟩ (rm_le hRm rfl rfl) rfl (ci := 10) (q0 := 0) rfl rfl rfl rfl (Nat.le_of_ble_eq_true rfl) ⟨Nat.zero_le _, Nat.zero_le _⟩ (fun v0 w0 hq0 => ?_)
    obtain ⟨rfl, rfl⟩ := hq0
    show G Γ (mW K am A (ap (ap (ap (ap (ap σ bWords) (bPush ((pr r).2.1))) (bLoad ((pr r).2.1))) (bLoad ((pr r).2.2))) ([88 + (4 * ((pr r).1))]))) 0 0 114 [(9, .int (nI (bg pr f l2 (r)))), (8, .int ((pr r).2.2)), (7, .int ((pr r).2.1)), (6, .int ((pr r).1)), (5, .int (nI (60 * p + r))), (0, .ref am), (1, .int (nI p)), (2, .int (nI r)), (3, .int (nI f)), (4, .int (nI l2))] []
    have hr : Lo (ap (ap (ap (ap (ap σ bWords) (bPush ((pr r).2.1))) (bLoad ((pr r).2.1))) (bLoad ((pr r).2.2))) ([88 + (4 * ((pr r).1))])) 2 := hr.app (Nat.le_of_ble_eq_true rfl)
    refine g_iload (n := 116) hX dX8_row_114 rfl rfl ?_
    refine g_iconst (n := 117) (v := 1) hX dX8_row_116 rfl rfl ?_
    refine g_icmp_le (n := 120) (tgt := 127) hX dX8_row_117 rfl (by decide) (fun c117 => absurd c117 (by rw [e] <;> decide)) (fun c117 => ?_)
    refine g_aload_n (n := 121) hX dX8_row_120 rfl rfl rfl ?_
    refine g_sipush (n := 124) (v := 145) hX dX8_row_121 rfl rfl ?_
    refine g_callV0 (n := 127) (As := [.int 145]) (rest := []) hX hE hU hY dX8_row_124 rfl yv_X8_u1 um_X8_138 (m_u1 _ _ K am A (ap (ap (ap (ap (ap σ bWords) (bPush ((pr r).2.1))) (bLoad ((pr r).2.1))) (bLoad ((pr r).2.2))) ([88 + (4 * ((pr r).1))])) 145 (hr.le (by decide))) ⟨rfl, rfl⟩ (rm_le hRm rfl rfl) rfl (ci := 10) (q0 := 0) rfl rfl rfl rfl (Nat.le_of_ble_eq_true rfl) ⟨Nat.zero_le _, Nat.zero_le _⟩ (fun v0 w0 hq0 => ?_)
    obtain ⟨rfl, rfl⟩ := hq0
    show G Γ (mW K am A (ap (ap (ap (ap (ap (ap σ bWords) (bPush ((pr r).2.1))) (bLoad ((pr r).2.1))) (bLoad ((pr r).2.2))) ([88 + (4 * ((pr r).1))])) ([145]))) 0 0 127 [(9, .int (nI (bg pr f l2 (r)))), (8, .int ((pr r).2.2)), (7, .int ((pr r).2.1)), (6, .int ((pr r).1)), (5, .int (nI (60 * p + r))), (0, .ref am), (1, .int (nI p)), (2, .int (nI r)), (3, .int (nI f)), (4, .int (nI l2))] []
    have hr : Lo (ap (ap (ap (ap (ap (ap σ bWords) (bPush ((pr r).2.1))) (bLoad ((pr r).2.1))) (bLoad ((pr r).2.2))) ([88 + (4 * ((pr r).1))])) ([145])) 1 := hr.app (Nat.le_of_ble_eq_true rfl)
    refine g_aload_n (n := 128) hX dX8_row_127 rfl rfl rfl ?_
    refine g_bipush (n := 130) (v := 84) hX dX8_row_128 rfl rfl ?_
    refine g_callV0 (n := 133) (As := [.int 84]) (rest := []) hX hE hU hY dX8_row_130 rfl yv_X8_u1 um_X8_138 (m_u1 _ _ K am A (ap (ap (ap (ap (ap (ap σ bWords) (bPush ((pr r).2.1))) (bLoad ((pr r).2.1))) (bLoad ((pr r).2.2))) ([88 + (4 * ((pr r).1))])) ([145])) 84 (hr.le (by decide))) ⟨rfl, rfl⟩ (rm_le hRm rfl rfl) rfl (ci := 10) (q0 := 0) rfl rfl rfl rfl (Nat.le_of_ble_eq_true rfl) ⟨Nat.zero_le _, Nat.zero_le _⟩ (fun v0 w0 hq0 => ?_)
    obtain ⟨rfl, rfl⟩ := hq0
    show G Γ (mW K am A (ap (ap (ap (ap (ap (ap (ap σ bWords) (bPush ((pr r).2.1))) (bLoad ((pr r).2.1))) (bLoad ((pr r).2.2))) ([88 + (4 * ((pr r).1))])) ([145])) ([84]))) 0 0 133 [(9, .int (nI (bg pr f l2 (r)))), (8, .int ((pr r).2.2)), (7, .int ((pr r).2.1)), (6, .int ((pr r).1)), (5, .int (nI (60 * p + r))), (0, .ref am), (1, .int (nI p)), (2, .int (nI r)), (3, .int (nI f)), (4, .int (nI l2))] []
    have hr : Lo (ap (ap (ap (ap (ap (ap (ap σ bWords) (bPush ((pr r).2.1))) (bLoad ((pr r).2.1))) (bLoad ((pr r).2.2))) ([88 + (4 * ((pr r).1))])) ([145])) ([84])) 0 := hr.app (Nat.le_of_ble_eq_true rfl)
    refine g_goto (n := 340) hX dX8_row_133 (by decide) ?_
    exact g_vret hX hR dX8_row_340 ⟨rfl, by rw [bRow, if_neg (by rw [e]; decide), if_neg (by rw [e]; decide), if_neg (by rw [e]; decide), if_neg (by rw [e]; decide), if_neg (by rw [e]; decide), if_neg (by rw [e]; decide), if_neg (by rw [e]; decide), if_neg (by rw [e]; decide), if_neg (by rw [e]; decide)] <;> simp only [ap_ap]⟩
  · refine g_bipush (n := 2) (v := 60) hX dX8_row_0 rfl rfl ?_
    refine g_iload_n (n := 3) hX dX8_row_2 rfl rfl rfl ?_
    refine g_imul (n := 4) (v := nI (60 * p)) hX dX8_row_3 rfl (pk_mul 60 p) ?_
    refine g_iload_n (n := 5) hX dX8_row_4 rfl rfl rfl ?_
    refine g_iadd (n := 6) (v := nI (60 * p + r)) hX dX8_row_5 rfl (nI_add _ _) ?_
    refine g_istore (lv' := [(5, .int (nI (60 * p + r))), (0, .ref am), (1, .int (nI p)), (2, .int (nI r)), (3, .int (nI f)), (4, .int (nI l2))]) (n := 8) hX dX8_row_6 rfl (by rw [hnL]; rfl) rfl ?_
    refine g_aload_n (n := 9) hX dX8_row_8 rfl rfl rfl ?_
    refine g_mget (n := 12) 6 (v := .ref (A 2)) hX hU dX8_row_9 rfl uf_X8_16 rfl rfl rfl ?_
    refine g_iload (n := 14) hX dX8_row_12 rfl rfl ?_
    refine g_mild (n := 15) 2 (v := (pr r).1) hX hY dX8_row_14 rfl rfl rfl (vp_in_nI (show 60 * p + r < mN 2 by show 60 * p + r < 793; omega) (by decide)) (by rw [nI_clamp (by omega), ← hpr]; rfl) ?_
    refine g_istore (lv' := [(6, .int ((pr r).1)), (5, .int (nI (60 * p + r))), (0, .ref am), (1, .int (nI p)), (2, .int (nI r)), (3, .int (nI f)), (4, .int (nI l2))]) (n := 17) hX dX8_row_15 rfl (by rw [hnL]; rfl) rfl ?_
    refine g_aload_n (n := 18) hX dX8_row_17 rfl rfl rfl ?_
    refine g_mget (n := 21) 7 (v := .ref (A 3)) hX hU dX8_row_18 rfl uf_X8_19 rfl rfl rfl ?_
    refine g_iload (n := 23) hX dX8_row_21 rfl rfl ?_
    refine g_mild (n := 24) 3 (v := (pr r).2.1) hX hY dX8_row_23 rfl rfl rfl (vp_in_nI (show 60 * p + r < mN 3 by show 60 * p + r < 793; omega) (by decide)) (by rw [nI_clamp (by omega), ← hpr]; rfl) ?_
    refine g_istore (lv' := [(7, .int ((pr r).2.1)), (6, .int ((pr r).1)), (5, .int (nI (60 * p + r))), (0, .ref am), (1, .int (nI p)), (2, .int (nI r)), (3, .int (nI f)), (4, .int (nI l2))]) (n := 26) hX dX8_row_24 rfl (by rw [hnL]; rfl) rfl ?_
    refine g_aload_n (n := 27) hX dX8_row_26 rfl rfl rfl ?_
    refine g_mget (n := 30) 8 (v := .ref (A 4)) hX hU dX8_row_27 rfl uf_X8_22 rfl rfl rfl ?_
    refine g_iload (n := 32) hX dX8_row_30 rfl rfl ?_
    refine g_mild (n := 33) 4 (v := (pr r).2.2) hX hY dX8_row_32 rfl rfl rfl (vp_in_nI (show 60 * p + r < mN 4 by show 60 * p + r < 793; omega) (by decide)) (by rw [nI_clamp (by omega), ← hpr]; rfl) ?_
    refine g_istore (lv' := [(8, .int ((pr r).2.2)), (7, .int ((pr r).2.1)), (6, .int ((pr r).1)), (5, .int (nI (60 * p + r))), (0, .ref am), (1, .int (nI p)), (2, .int (nI r)), (3, .int (nI f)), (4, .int (nI l2))]) (n := 35) hX dX8_row_33 rfl (by rw [hnL]; rfl) rfl ?_
    refine g_aload_n (n := 36) hX dX8_row_35 rfl rfl rfl ?_
    refine g_iload_n (n := 37) hX dX8_row_36 rfl rfl rfl ?_
    refine g_iload_n (n := 38) hX dX8_row_37 rfl rfl rfl ?_
    refine g_iload_n (n := 39) hX dX8_row_38 rfl rfl rfl ?_
    refine g_iload (n := 41) hX dX8_row_39 rfl rfl ?_
    refine g_callV0 (n := 44) (As := [.int (nI p), .int (nI r), .int (nI f), .int (nI l2)]) (rest := []) hX hE hU hY dX8_row_41 rfl yv_X8_begins um_X8_213 (mr_begins _ _ K am A σ pr p (r) f l2 hpr hp h1 hr1 (by omega) h4 h5 ho) ⟨rfl, rfl⟩ (rm_le hRm rfl rfl) rfl (ci := 10) (q0 := 0) rfl rfl rfl rfl (Nat.le_of_ble_eq_true rfl) ⟨Nat.zero_le _, Nat.zero_le _⟩ (fun v0 w0 hq0 => ?_)
    obtain ⟨rfl, rfl⟩ := hq0
    show G Γ (mW K am A σ) 0 0 44 [(8, .int ((pr r).2.2)), (7, .int ((pr r).2.1)), (6, .int ((pr r).1)), (5, .int (nI (60 * p + r))), (0, .ref am), (1, .int (nI p)), (2, .int (nI r)), (3, .int (nI f)), (4, .int (nI l2))] [.int (nI (bg pr f l2 (r)))]
    refine g_istore (lv' := [(9, .int (nI (bg pr f l2 (r)))), (8, .int ((pr r).2.2)), (7, .int ((pr r).2.1)), (6, .int ((pr r).1)), (5, .int (nI (60 * p + r))), (0, .ref am), (1, .int (nI p)), (2, .int (nI r)), (3, .int (nI f)), (4, .int (nI l2))]) (n := 46) hX dX8_row_44 rfl (by rw [hnL]; rfl) rfl ?_
    refine g_iload (n := 48) hX dX8_row_46 rfl rfl ?_
    refine g_bipush (n := 50) (v := 7) hX dX8_row_48 rfl rfl ?_
    refine g_icmp_ge (n := 53) (tgt := 136) hX dX8_row_50 rfl (by decide) (fun c50 => absurd c50 (by rw [e] <;> decide)) (fun c50 => ?_)
    refine g_aload_n (n := 54) hX dX8_row_53 rfl rfl rfl ?_
    refine g_callV0 (n := 57) (As := []) (rest := []) hX hE hU hY dX8_row_54 rfl yv_X8_words um_X8_207 (m_words _ _ K am A σ  (hr.le (by decide))) ⟨rfl, rfl⟩ (rm_le hRm rfl rfl) rfl (ci := 10) (q0 := 0) rfl rfl rfl rfl (Nat.le_of_ble_eq_true rfl) ⟨Nat.zero_le _, Nat.zero_le _⟩ (fun v0 w0 hq0 => ?_)
    obtain ⟨rfl, rfl⟩ := hq0
    show G Γ (mW K am A (ap σ bWords)) 0 0 57 [(9, .int (nI (bg pr f l2 (r)))), (8, .int ((pr r).2.2)), (7, .int ((pr r).2.1)), (6, .int ((pr r).1)), (5, .int (nI (60 * p + r))), (0, .ref am), (1, .int (nI p)), (2, .int (nI r)), (3, .int (nI f)), (4, .int (nI l2))] []
    have hr : Lo (ap σ bWords) 17 := hr.app (Nat.le_of_ble_eq_true rfl)
    refine g_aload_n (n := 58) hX dX8_row_57 rfl rfl rfl ?_
    refine g_iload (n := 60) hX dX8_row_58 rfl rfl ?_
    refine g_callV0 (n := 63) (As := [.int ((pr r).2.1)]) (rest := []) hX hE hU hY dX8_row_60 rfl yv_X8_push um_X8_210 (m_push _ _ K am A (ap σ bWords) ((pr r).2.1) (hr.le (by decide))) ⟨rfl, rfl⟩ (rm_le hRm rfl rfl) rfl (ci := 10) (q0 := 0) rfl rfl rfl rfl (Nat.le_of_ble_eq_true rfl) ⟨Nat.zero_le _, Nat.zero_le _⟩ (fun v0 w0 hq0 => ?_)
    obtain ⟨rfl, rfl⟩ := hq0
    show G Γ (mW K am A (ap (ap σ bWords) (bPush ((pr r).2.1)))) 0 0 63 [(9, .int (nI (bg pr f l2 (r)))), (8, .int ((pr r).2.2)), (7, .int ((pr r).2.1)), (6, .int ((pr r).1)), (5, .int (nI (60 * p + r))), (0, .ref am), (1, .int (nI p)), (2, .int (nI r)), (3, .int (nI f)), (4, .int (nI l2))] []
    have hr : Lo (ap (ap σ bWords) (bPush ((pr r).2.1))) 15 := hr.app (Nat.le_of_ble_eq_true rfl)
    refine g_iload (n := 65) hX dX8_row_63 rfl rfl ?_
    refine g_if_ne (n := 68) (tgt := 74) hX dX8_row_65 rfl (by decide) (fun c65 => ?_) (fun c65 => absurd c65 (by rw [e] <;> decide))
    refine g_iload (n := 76) hX dX8_row_74 rfl rfl ?_
    refine g_iconst (n := 77) (v := 1) hX dX8_row_76 rfl rfl ?_
    refine g_icmp_le (n := 80) (tgt := 86) hX dX8_row_77 rfl (by decide) (fun c77 => absurd c77 (by rw [e] <;> decide)) (fun c77 => ?_)
    refine g_aload_n (n := 81) hX dX8_row_80 rfl rfl rfl ?_
    refine g_iload (n := 83) hX dX8_row_81 rfl rfl ?_
    refine g_callV0 (n := 86) (As := [.int ((pr r).2.1)]) (rest := []) hX hE hU hY dX8_row_83 rfl yv_X8_load um_X8_217 (m_load _ _ K am A (ap (ap σ bWords) (bPush ((pr r).2.1))) ((pr r).2.1) (hr.le (by decide))) ⟨rfl, rfl⟩ (rm_le hRm rfl rfl) rfl (ci := 10) (q0 := 0) rfl rfl rfl rfl (Nat.le_of_ble_eq_true rfl) ⟨Nat.zero_le _, Nat.zero_le _⟩ (fun v0 w0 hq0 => ?_)
    obtain ⟨rfl, rfl⟩ := hq0
    show G Γ (mW K am A (ap (ap (ap σ bWords) (bPush ((pr r).2.1))) (bLoad ((pr r).2.1)))) 0 0 86 [(9, .int (nI (bg pr f l2 (r)))), (8, .int ((pr r).2.2)), (7, .int ((pr r).2.1)), (6, .int ((pr r).1)), (5, .int (nI (60 * p + r))), (0, .ref am), (1, .int (nI p)), (2, .int (nI r)), (3, .int (nI f)), (4, .int (nI l2))] []
    have hr : Lo (ap (ap (ap σ bWords) (bPush ((pr r).2.1))) (bLoad ((pr r).2.1))) 9 := hr.app (Nat.le_of_ble_eq_true rfl)
    refine g_iload (n := 88) hX dX8_row_86 rfl rfl ?_
    refine g_if_le (n := 91) (tgt := 97) hX dX8_row_88 rfl (by decide) (fun c88 => absurd c88 (by rw [e] <;> decide)) (fun c88 => ?_)
    refine g_aload_n (n := 92) hX dX8_row_91 rfl rfl rfl ?_
    refine g_iload (n := 94) hX dX8_row_92 rfl rfl ?_
    refine g_callV0 (n := 97) (As := [.int ((pr r).2.2)]) (rest := []) hX hE hU hY dX8_row_94 rfl yv_X8_load um_X8_217 (m_load _ _ K am A (ap (ap (ap σ bWords) (bPush ((pr r).2.1))) (bLoad ((pr r).2.1))) ((pr r).2.2) (hr.le (by decide))) ⟨rfl, rfl⟩ (rm_le hRm rfl rfl) rfl (ci := 10) (q0 := 0) rfl rfl rfl rfl (Nat.le_of_ble_eq_true rfl) ⟨Nat.zero_le _, Nat.zero_le _⟩ (fun v0 w0 hq0 => ?_)
    obtain ⟨rfl, rfl⟩ := hq0
    show G Γ (mW K am A (ap (ap (ap (ap σ bWords) (bPush ((pr r).2.1))) (bLoad ((pr r).2.1))) (bLoad ((pr r).2.2)))) 0 0 97 [(9, .int (nI (bg pr f l2 (r)))), (8, .int ((pr r).2.2)), (7, .int ((pr r).2.1)), (6, .int ((pr r).1)), (5, .int (nI (60 * p + r))), (0, .ref am), (1, .int (nI p)), (2, .int (nI r)), (3, .int (nI f)), (4, .int (nI l2))] []
    have hr : Lo (ap (ap (ap (ap σ bWords) (bPush ((pr r).2.1))) (bLoad ((pr r).2.1))) (bLoad ((pr r).2.2))) 3 := hr.app (Nat.le_of_ble_eq_true rfl)
    refine g_iload (n := 99) hX dX8_row_97 rfl rfl ?_
    refine g_iconst (n := 100) (v := 1) hX dX8_row_99 rfl rfl ?_
    refine g_icmp_le (n := 103) (tgt := 114) hX dX8_row_100 rfl (by decide) (fun c100 => absurd c100 (by rw [e] <;> decide)) (fun c100 => ?_)
    refine g_aload_n (n := 104) hX dX8_row_103 rfl rfl rfl ?_
    refine g_bipush (n := 106) (v := 88) hX dX8_row_104 rfl rfl ?_
    refine g_iconst (n := 107) (v := 4) hX dX8_row_106 rfl rfl ?_
    refine g_iload (n := 109) hX dX8_row_107 rfl rfl ?_
    refine g_imul (n := 110) (v := 4 * ((pr r).1)) hX dX8_row_109 rfl rfl ?_
    refine g_iadd (n := 111) (v := 88 + (4 * ((pr r).1))) hX dX8_row_110 rfl rfl ?_
    refine g_callV0 (n := 114) (As := [.int (88 + (4 * ((pr r).1)))]) (rest := []) hX hE hU hY dX8_row_111 rfl yv_X8_u1 um_X8_138 (m_u1 _ _ K am A (ap (ap (ap (ap σ bWords) (bPush ((pr r).2.1))) (bLoad ((pr r).2.1))) (bLoad ((pr r).2.2))) (88 + (4 * ((pr r).1))) (hr.le (by decide))) ⟨rfl, rfl⟩ (rm_le hRm rfl rfl) rfl (ci := 10) (q0 := 0) rfl rfl rfl rfl (Nat.le_of_ble_eq_true rfl) ⟨Nat.zero_le _, Nat.zero_le _⟩ (fun v0 w0 hq0 => ?_)
    obtain ⟨rfl, rfl⟩ := hq0
    show G Γ (mW K am A (ap (ap (ap (ap (ap σ bWords) (bPush ((pr r).2.1))) (bLoad ((pr r).2.1))) (bLoad ((pr r).2.2))) ([88 + (4 * ((pr r).1))]))) 0 0 114 [(9, .int (nI (bg pr f l2 (r)))), (8, .int ((pr r).2.2)), (7, .int ((pr r).2.1)), (6, .int ((pr r).1)), (5, .int (nI (60 * p + r))), (0, .ref am), (1, .int (nI p)), (2, .int (nI r)), (3, .int (nI f)), (4, .int (nI l2))] []
    have hr : Lo (ap (ap (ap (ap (ap σ bWords) (bPush ((pr r).2.1))) (bLoad ((pr r).2.1))) (bLoad ((pr r).2.2))) ([88 + (4 * ((pr r).1))])) 2 := hr.app (Nat.le_of_ble_eq_true rfl)
    refine g_iload (n := 116) hX dX8_row_114 rfl rfl ?_
    refine g_iconst (n := 117) (v := 1) hX dX8_row_116 rfl rfl ?_
    refine g_icmp_le (n := 120) (tgt := 127) hX dX8_row_117 rfl (by decide) (fun c117 => absurd c117 (by rw [e] <;> decide)) (fun c117 => ?_)
    refine g_aload_n (n := 121) hX dX8_row_120 rfl rfl rfl ?_
    refine g_sipush (n := 124) (v := 145) hX dX8_row_121 rfl rfl ?_
    refine g_callV0 (n := 127) (As := [.int 145]) (rest := []) hX hE hU hY dX8_row_124 rfl yv_X8_u1 um_X8_138 (m_u1 _ _ K am A (ap (ap (ap (ap (ap σ bWords) (bPush ((pr r).2.1))) (bLoad ((pr r).2.1))) (bLoad ((pr r).2.2))) ([88 + (4 * ((pr r).1))])) 145 (hr.le (by decide))) ⟨rfl, rfl⟩ (rm_le hRm rfl rfl) rfl (ci := 10) (q0 := 0) rfl rfl rfl rfl (Nat.le_of_ble_eq_true rfl) ⟨Nat.zero_le _, Nat.zero_le _⟩ (fun v0 w0 hq0 => ?_)
    obtain ⟨rfl, rfl⟩ := hq0
    show G Γ (mW K am A (ap (ap (ap (ap (ap (ap σ bWords) (bPush ((pr r).2.1))) (bLoad ((pr r).2.1))) (bLoad ((pr r).2.2))) ([88 + (4 * ((pr r).1))])) ([145]))) 0 0 127 [(9, .int (nI (bg pr f l2 (r)))), (8, .int ((pr r).2.2)), (7, .int ((pr r).2.1)), (6, .int ((pr r).1)), (5, .int (nI (60 * p + r))), (0, .ref am), (1, .int (nI p)), (2, .int (nI r)), (3, .int (nI f)), (4, .int (nI l2))] []
    have hr : Lo (ap (ap (ap (ap (ap (ap σ bWords) (bPush ((pr r).2.1))) (bLoad ((pr r).2.1))) (bLoad ((pr r).2.2))) ([88 + (4 * ((pr r).1))])) ([145])) 1 := hr.app (Nat.le_of_ble_eq_true rfl)
    refine g_aload_n (n := 128) hX dX8_row_127 rfl rfl rfl ?_
    refine g_bipush (n := 130) (v := 84) hX dX8_row_128 rfl rfl ?_
    refine g_callV0 (n := 133) (As := [.int 84]) (rest := []) hX hE hU hY dX8_row_130 rfl yv_X8_u1 um_X8_138 (m_u1 _ _ K am A (ap (ap (ap (ap (ap (ap σ bWords) (bPush ((pr r).2.1))) (bLoad ((pr r).2.1))) (bLoad ((pr r).2.2))) ([88 + (4 * ((pr r).1))])) ([145])) 84 (hr.le (by decide))) ⟨rfl, rfl⟩ (rm_le hRm rfl rfl) rfl (ci := 10) (q0 := 0) rfl rfl rfl rfl (Nat.le_of_ble_eq_true rfl) ⟨Nat.zero_le _, Nat.zero_le _⟩ (fun v0 w0 hq0 => ?_)
    obtain ⟨rfl, rfl⟩ := hq0
    show G Γ (mW K am A (ap (ap (ap (ap (ap (ap (ap σ bWords) (bPush ((pr r).2.1))) (bLoad ((pr r).2.1))) (bLoad ((pr r).2.2))) ([88 + (4 * ((pr r).1))])) ([145])) ([84]))) 0 0 133 [(9, .int (nI (bg pr f l2 (r)))), (8, .int ((pr r).2.2)), (7, .int ((pr r).2.1)), (6, .int ((pr r).1)), (5, .int (nI (60 * p + r))), (0, .ref am), (1, .int (nI p)), (2, .int (nI r)), (3, .int (nI f)), (4, .int (nI l2))] []
    have hr : Lo (ap (ap (ap (ap (ap (ap (ap σ bWords) (bPush ((pr r).2.1))) (bLoad ((pr r).2.1))) (bLoad ((pr r).2.2))) ([88 + (4 * ((pr r).1))])) ([145])) ([84])) 0 := hr.app (Nat.le_of_ble_eq_true rfl)
    refine g_goto (n := 340) hX dX8_row_133 (by decide) ?_
    exact g_vret hX hR dX8_row_340 ⟨rfl, by rw [bRow, if_neg (by rw [e]; decide), if_neg (by rw [e]; decide), if_neg (by rw [e]; decide), if_neg (by rw [e]; decide), if_neg (by rw [e]; decide), if_neg (by rw [e]; decide), if_neg (by rw [e]; decide), if_neg (by rw [e]; decide), if_neg (by rw [e]; decide)] <;> simp only [ap_ap]⟩
  · refine g_bipush (n := 2) (v := 60) hX dX8_row_0 rfl rfl ?_
    refine g_iload_n (n := 3) hX dX8_row_2 rfl rfl rfl ?_
    refine g_imul (n := 4) (v := nI (60 * p)) hX dX8_row_3 rfl (pk_mul 60 p) ?_
    refine g_iload_n (n := 5) hX dX8_row_4 rfl rfl rfl ?_
    refine g_iadd (n := 6) (v := nI (60 * p + r)) hX dX8_row_5 rfl (nI_add _ _) ?_
    refine g_istore (lv' := [(5, .int (nI (60 * p + r))), (0, .ref am), (1, .int (nI p)), (2, .int (nI r)), (3, .int (nI f)), (4, .int (nI l2))]) (n := 8) hX dX8_row_6 rfl (by rw [hnL]; rfl) rfl ?_
    refine g_aload_n (n := 9) hX dX8_row_8 rfl rfl rfl ?_
    refine g_mget (n := 12) 6 (v := .ref (A 2)) hX hU dX8_row_9 rfl uf_X8_16 rfl rfl rfl ?_
    refine g_iload (n := 14) hX dX8_row_12 rfl rfl ?_
    refine g_mild (n := 15) 2 (v := (pr r).1) hX hY dX8_row_14 rfl rfl rfl (vp_in_nI (show 60 * p + r < mN 2 by show 60 * p + r < 793; omega) (by decide)) (by rw [nI_clamp (by omega), ← hpr]; rfl) ?_
    refine g_istore (lv' := [(6, .int ((pr r).1)), (5, .int (nI (60 * p + r))), (0, .ref am), (1, .int (nI p)), (2, .int (nI r)), (3, .int (nI f)), (4, .int (nI l2))]) (n := 17) hX dX8_row_15 rfl (by rw [hnL]; rfl) rfl ?_
    refine g_aload_n (n := 18) hX dX8_row_17 rfl rfl rfl ?_
    refine g_mget (n := 21) 7 (v := .ref (A 3)) hX hU dX8_row_18 rfl uf_X8_19 rfl rfl rfl ?_
    refine g_iload (n := 23) hX dX8_row_21 rfl rfl ?_
    refine g_mild (n := 24) 3 (v := (pr r).2.1) hX hY dX8_row_23 rfl rfl rfl (vp_in_nI (show 60 * p + r < mN 3 by show 60 * p + r < 793; omega) (by decide)) (by rw [nI_clamp (by omega), ← hpr]; rfl) ?_
    refine g_istore (lv' := [(7, .int ((pr r).2.1)), (6, .int ((pr r).1)), (5, .int (nI (60 * p + r))), (0, .ref am), (1, .int (nI p)), (2, .int (nI r)), (3, .int (nI f)), (4, .int (nI l2))]) (n := 26) hX dX8_row_24 rfl (by rw [hnL]; rfl) rfl ?_
    refine g_aload_n (n := 27) hX dX8_row_26 rfl rfl rfl ?_
    refine g_mget (n := 30) 8 (v := .ref (A 4)) hX hU dX8_row_27 rfl uf_X8_22 rfl rfl rfl ?_
    refine g_iload (n := 32) hX dX8_row_30 rfl rfl ?_
    refine g_mild (n := 33) 4 (v := (pr r).2.2) hX hY dX8_row_32 rfl rfl rfl (vp_in_nI (show 60 * p + r < mN 4 by show 60 * p + r < 793; omega) (by decide)) (by rw [nI_clamp (by omega), ← hpr]; rfl) ?_
    refine g_istore (lv' := [(8, .int ((pr r).2.2)), (7, .int ((pr r).2.1)), (6, .int ((pr r).1)), (5, .int (nI (60 * p + r))), (0, .ref am), (1, .int (nI p)), (2, .int (nI r)), (3, .int (nI f)), (4, .int (nI l2))]) (n := 35) hX dX8_row_33 rfl (by rw [hnL]; rfl) rfl ?_
    refine g_aload_n (n := 36) hX dX8_row_35 rfl rfl rfl ?_
    refine g_iload_n (n := 37) hX dX8_row_36 rfl rfl rfl ?_
    refine g_iload_n (n := 38) hX dX8_row_37 rfl rfl rfl ?_
    refine g_iload_n (n := 39) hX dX8_row_38 rfl rfl rfl ?_
    refine g_iload (n := 41) hX dX8_row_39 rfl rfl ?_
    refine g_callV0 (n := 44) (As := [.int (nI p), .int (nI r), .int (nI f), .int (nI l2)]) (rest := []) hX hE hU hY dX8_row_41 rfl yv_X8_begins um_X8_213 (mr_begins _ _ K am A σ pr p (r) f l2 hpr hp h1 hr1 (by omega) h4 h5 ho) ⟨rfl, rfl⟩ (rm_le hRm rfl rfl) rfl (ci := 10) (q0 := 0) rfl rfl rfl rfl (Nat.le_of_ble_eq_true rfl) ⟨Nat.zero_le _, Nat.zero_le _⟩ (fun v0 w0 hq0 => ?_)
    obtain ⟨rfl, rfl⟩ := hq0
    show G Γ (mW K am A σ) 0 0 44 [(8, .int ((pr r).2.2)), (7, .int ((pr r).2.1)), (6, .int ((pr r).1)), (5, .int (nI (60 * p + r))), (0, .ref am), (1, .int (nI p)), (2, .int (nI r)), (3, .int (nI f)), (4, .int (nI l2))] [.int (nI (bg pr f l2 (r)))]
    refine g_istore (lv' := [(9, .int (nI (bg pr f l2 (r)))), (8, .int ((pr r).2.2)), (7, .int ((pr r).2.1)), (6, .int ((pr r).1)), (5, .int (nI (60 * p + r))), (0, .ref am), (1, .int (nI p)), (2, .int (nI r)), (3, .int (nI f)), (4, .int (nI l2))]) (n := 46) hX dX8_row_44 rfl (by rw [hnL]; rfl) rfl ?_
    refine g_iload (n := 48) hX dX8_row_46 rfl rfl ?_
    refine g_bipush (n := 50) (v := 7) hX dX8_row_48 rfl rfl ?_
    refine g_icmp_ge (n := 53) (tgt := 136) hX dX8_row_50 rfl (by decide) (fun c50 => absurd c50 (by rw [e] <;> decide)) (fun c50 => ?_)
    refine g_aload_n (n := 54) hX dX8_row_53 rfl rfl rfl ?_
    refine g_callV0 (n := 57) (As := []) (rest := []) hX hE hU hY dX8_row_54 rfl yv_X8_words um_X8_207 (m_words _ _ K am A σ  (hr.le (by decide))) ⟨rfl, rfl⟩ (rm_le hRm rfl rfl) rfl (ci := 10) (q0 := 0) rfl rfl rfl rfl (Nat.le_of_ble_eq_true rfl) ⟨Nat.zero_le _, Nat.zero_le _⟩ (fun v0 w0 hq0 => ?_)
    obtain ⟨rfl, rfl⟩ := hq0
    show G Γ (mW K am A (ap σ bWords)) 0 0 57 [(9, .int (nI (bg pr f l2 (r)))), (8, .int ((pr r).2.2)), (7, .int ((pr r).2.1)), (6, .int ((pr r).1)), (5, .int (nI (60 * p + r))), (0, .ref am), (1, .int (nI p)), (2, .int (nI r)), (3, .int (nI f)), (4, .int (nI l2))] []
    have hr : Lo (ap σ bWords) 17 := hr.app (Nat.le_of_ble_eq_true rfl)
    refine g_aload_n (n := 58) hX dX8_row_57 rfl rfl rfl ?_
    refine g_iload (n := 60) hX dX8_row_58 rfl rfl ?_
    refine g_callV0 (n := 63) (As := [.int ((pr r).2.1)]) (rest := []) hX hE hU hY dX8_row_60 rfl yv_X8_push um_X8_210 (m_push _ _ K am A (ap σ bWords) ((pr r).2.1) (hr.le (by decide))) ⟨rfl, rfl⟩ (rm_le hRm rfl rfl) rfl (ci := 10) (q0 := 0) rfl rfl rfl rfl (Nat.le_of_ble_eq_true rfl) ⟨Nat.zero_le _, Nat.zero_le _⟩ (fun v0 w0 hq0 => ?_)
    obtain ⟨rfl, rfl⟩ := hq0
    show G Γ (mW K am A (ap (ap σ bWords) (bPush ((pr r).2.1)))) 0 0 63 [(9, .int (nI (bg pr f l2 (r)))), (8, .int ((pr r).2.2)), (7, .int ((pr r).2.1)), (6, .int ((pr r).1)), (5, .int (nI (60 * p + r))), (0, .ref am), (1, .int (nI p)), (2, .int (nI r)), (3, .int (nI f)), (4, .int (nI l2))] []
    have hr : Lo (ap (ap σ bWords) (bPush ((pr r).2.1))) 15 := hr.app (Nat.le_of_ble_eq_true rfl)
    refine g_iload (n := 65) hX dX8_row_63 rfl rfl ?_
    refine g_if_ne (n := 68) (tgt := 74) hX dX8_row_65 rfl (by decide) (fun c65 => ?_) (fun c65 => absurd c65 (by rw [e] <;> decide))
    refine g_iload (n := 76) hX dX8_row_74 rfl rfl ?_
    refine g_iconst (n := 77) (v := 1) hX dX8_row_76 rfl rfl ?_
    refine g_icmp_le (n := 80) (tgt := 86) hX dX8_row_77 rfl (by decide) (fun c77 => absurd c77 (by rw [e] <;> decide)) (fun c77 => ?_)
    refine g_aload_n (n := 81) hX dX8_row_80 rfl rfl rfl ?_
    refine g_iload (n := 83) hX dX8_row_81 rfl rfl ?_
    refine g_callV0 (n := 86) (As := [.int ((pr r).2.1)]) (rest := []) hX hE hU hY dX8_row_83 rfl yv_X8_load um_X8_217 (m_load _ _ K am A (ap (ap σ bWords) (bPush ((pr r).2.1))) ((pr r).2.1) (hr.le (by decide))) ⟨rfl, rfl⟩ (rm_le hRm rfl rfl) rfl (ci := 10) (q0 := 0) rfl rfl rfl rfl (Nat.le_of_ble_eq_true rfl) ⟨Nat.zero_le _, Nat.zero_le _⟩ (fun v0 w0 hq0 => ?_)
    obtain ⟨rfl, rfl⟩ := hq0
    show G Γ (mW K am A (ap (ap (ap σ bWords) (bPush ((pr r).2.1))) (bLoad ((pr r).2.1)))) 0 0 86 [(9, .int (nI (bg pr f l2 (r)))), (8, .int ((pr r).2.2)), (7, .int ((pr r).2.1)), (6, .int ((pr r).1)), (5, .int (nI (60 * p + r))), (0, .ref am), (1, .int (nI p)), (2, .int (nI r)), (3, .int (nI f)), (4, .int (nI l2))] []
    have hr : Lo (ap (ap (ap σ bWords) (bPush ((pr r).2.1))) (bLoad ((pr r).2.1))) 9 := hr.app (Nat.le_of_ble_eq_true rfl)
    refine g_iload (n := 88) hX dX8_row_86 rfl rfl ?_
    refine g_if_le (n := 91) (tgt := 97) hX dX8_row_88 rfl (by decide) (fun c88 => absurd c88 (by rw [e] <;> decide)) (fun c88 => ?_)
    refine g_aload_n (n := 92) hX dX8_row_91 rfl rfl rfl ?_
    refine g_iload (n := 94) hX dX8_row_92 rfl rfl ?_
    refine g_callV0 (n := 97) (As := [.int ((pr r).2.2)]) (rest := []) hX hE hU hY dX8_row_94 rfl yv_X8_load um_X8_217 (m_load _ _ K am A (ap (ap (ap σ bWords) (bPush ((pr r).2.1))) (bLoad ((pr r).2.1))) ((pr r).2.2) (hr.le (by decide))) ⟨rfl, rfl⟩ (rm_le hRm rfl rfl) rfl (ci := 10) (q0 := 0) rfl rfl rfl rfl (Nat.le_of_ble_eq_true rfl) ⟨Nat.zero_le _, Nat.zero_le _⟩ (fun v0 w0 hq0 => ?_)
    obtain ⟨rfl, rfl⟩ := hq0
    show G Γ (mW K am A (ap (ap (ap (ap σ bWords) (bPush ((pr r).2.1))) (bLoad ((pr r).2.1))) (bLoad ((pr r).2.2)))) 0 0 97 [(9, .int (nI (bg pr f l2 (r)))), (8, .int ((pr r).2.2)), (7, .int ((pr r).2.1)), (6, .int ((pr r).1)), (5, .int (nI (60 * p + r))), (0, .ref am), (1, .int (nI p)), (2, .int (nI r)), (3, .int (nI f)), (4, .int (nI l2))] []
    have hr : Lo (ap (ap (ap (ap σ bWords) (bPush ((pr r).2.1))) (bLoad ((pr r).2.1))) (bLoad ((pr r).2.2))) 3 := hr.app (Nat.le_of_ble_eq_true rfl)
    refine g_iload (n := 99) hX dX8_row_97 rfl rfl ?_
    refine g_iconst (n := 100) (v := 1) hX dX8_row_99 rfl rfl ?_
    refine g_icmp_le (n := 103) (tgt := 114) hX dX8_row_100 rfl (by decide) (fun c100 => absurd c100 (by rw [e] <;> decide)) (fun c100 => ?_)
    refine g_aload_n (n := 104) hX dX8_row_103 rfl rfl rfl ?_
    refine g_bipush (n := 106) (v := 88) hX dX8_row_104 rfl rfl ?_
    refine g_iconst (n := 107) (v := 4) hX dX8_row_106 rfl rfl ?_
    refine g_iload (n := 109) hX dX8_row_107 rfl rfl ?_
    refine g_imul (n := 110) (v := 4 * ((pr r).1)) hX dX8_row_109 rfl rfl ?_
    refine g_iadd (n := 111) (v := 88 + (4 * ((pr r).1))) hX dX8_row_110 rfl rfl ?_
    refine g_callV0 (n := 114) (As := [.int (88 + (4 * ((pr r).1)))]) (rest := []) hX hE hU hY dX8_row_111 rfl yv_X8_u1 um_X8_138 (m_u1 _ _ K am A (ap (ap (ap (ap σ bWords) (bPush ((pr r).2.1))) (bLoad ((pr r).2.1))) (bLoad ((pr r).2.2))) (88 + (4 * ((pr r).1))) (hr.le (by decide))) ⟨rfl, rfl⟩ (rm_le hRm rfl rfl) rfl (ci := 10) (q0 := 0) rfl rfl rfl rfl (Nat.le_of_ble_eq_true rfl) ⟨Nat.zero_le _, Nat.zero_le _⟩ (fun v0 w0 hq0 => ?_)
    obtain ⟨rfl, rfl⟩ := hq0
    show G Γ (mW K am A (ap (ap (ap (ap (ap σ bWords) (bPush ((pr r).2.1))) (bLoad ((pr r).2.1))) (bLoad ((pr r).2.2))) ([88 + (4 * ((pr r).1))]))) 0 0 114 [(9, .int (nI (bg pr f l2 (r)))), (8, .int ((pr r).2.2)), (7, .int ((pr r).2.1)), (6, .int ((pr r).1)), (5, .int (nI (60 * p + r))), (0, .ref am), (1, .int (nI p)), (2, .int (nI r)), (3, .int (nI f)), (4, .int (nI l2))] []
    have hr : Lo (ap (ap (ap (ap (ap σ bWords) (bPush ((pr r).2.1))) (bLoad ((pr r).2.1))) (bLoad ((pr r).2.2))) ([88 + (4 * ((pr r).1))])) 2 := hr.app (Nat.le_of_ble_eq_true rfl)
    refine g_iload (n := 116) hX dX8_row_114 rfl rfl ?_
    refine g_iconst (n := 117) (v := 1) hX dX8_row_116 rfl rfl ?_
    refine g_icmp_le (n := 120) (tgt := 127) hX dX8_row_117 rfl (by decide) (fun c117 => absurd c117 (by rw [e] <;> decide)) (fun c117 => ?_)
    refine g_aload_n (n := 121) hX dX8_row_120 rfl rfl rfl ?_
    refine g_sipush (n := 124) (v := 145) hX dX8_row_121 rfl rfl ?_
    refine g_callV0 (n := 127) (As := [.int 145]) (rest := []) hX hE hU hY dX8_row_124 rfl yv_X8_u1 um_X8_138 (m_u1 _ _ K am A (ap (ap (ap (ap (ap σ bWords) (bPush ((pr r).2.1))) (bLoad ((pr r).2.1))) (bLoad ((pr r).2.2))) ([88 + (4 * ((pr r).1))])) 145 (hr.le (by decide))) ⟨rfl, rfl⟩ (rm_le hRm rfl rfl) rfl (ci := 10) (q0 := 0) rfl rfl rfl rfl (Nat.le_of_ble_eq_true rfl) ⟨Nat.zero_le _, Nat.zero_le _⟩ (fun v0 w0 hq0 => ?_)
    obtain ⟨rfl, rfl⟩ := hq0
    show G Γ (mW K am A (ap (ap (ap (ap (ap (ap σ bWords) (bPush ((pr r).2.1))) (bLoad ((pr r).2.1))) (bLoad ((pr r).2.2))) ([88 + (4 * ((pr r).1))])) ([145]))) 0 0 127 [(9, .int (nI (bg pr f l2 (r)))), (8, .int ((pr r).2.2)), (7, .int ((pr r).2.1)), (6, .int ((pr r).1)), (5, .int (nI (60 * p + r))), (0, .ref am), (1, .int (nI p)), (2, .int (nI r)), (3, .int (nI f)), (4, .int (nI l2))] []
    have hr : Lo (ap (ap (ap (ap (ap (ap σ bWords) (bPush ((pr r).2.1))) (bLoad ((pr r).2.1))) (bLoad ((pr r).2.2))) ([88 + (4 * ((pr r).1))])) ([145])) 1 := hr.app (Nat.le_of_ble_eq_true rfl)
    refine g_aload_n (n := 128) hX dX8_row_127 rfl rfl rfl ?_
    refine g_bipush (n := 130) (v := 84) hX dX8_row_128 rfl rfl ?_
    refine g_callV0 (n := 133) (As := [.int 84]) (rest := []) hX hE hU hY dX8_row_130 rfl yv_X8_u1 um_X8_138 (m_u1 _ _ K am A (ap (ap (ap (ap (ap (ap σ bWords) (bPush ((pr r).2.1))) (bLoad ((pr r).2.1))) (bLoad ((pr r).2.2))) ([88 + (4 * ((pr r).1))])) ([145])) 84 (hr.le (by decide))) ⟨rfl, rfl⟩ (rm_le hRm rfl rfl) rfl (ci := 10) (q0 := 0) rfl rfl rfl rfl (Nat.le_of_ble_eq_true rfl) ⟨Nat.zero_le _, Nat.zero_le _⟩ (fun v0 w0 hq0 => ?_)
    obtain ⟨rfl, rfl⟩ := hq0
    show G Γ (mW K am A (ap (ap (ap (ap (ap (ap (ap σ bWords) (bPush ((pr r).2.1))) (bLoad ((pr r).2.1))) (bLoad ((pr r).2.2))) ([88 + (4 * ((pr r).1))])) ([145])) ([84]))) 0 0 133 [(9, .int (nI (bg pr f l2 (r)))), (8, .int ((pr r).2.2)), (7, .int ((pr r).2.1)), (6, .int ((pr r).1)), (5, .int (nI (60 * p + r))), (0, .ref am), (1, .int (nI p)), (2, .int (nI r)), (3, .int (nI f)), (4, .int (nI l2))] []
    have hr : Lo (ap (ap (ap (ap (ap (ap (ap σ bWords) (bPush ((pr r).2.1))) (bLoad ((pr r).2.1))) (bLoad ((pr r).2.2))) ([88 + (4 * ((pr r).1))])) ([145])) ([84])) 0 := hr.app (Nat.le_of_ble_eq_true rfl)
    refine g_goto (n := 340) hX dX8_row_133 (by decide) ?_
    exact g_vret hX hR dX8_row_340 ⟨rfl, by rw [bRow, if_neg (by rw [e]; decide), if_neg (by rw [e]; decide), if_neg (by rw [e]; decide), if_neg (by rw [e]; decide), if_neg (by rw [e]; decide), if_neg (by rw [e]; decide), if_neg (by rw [e]; decide), if_neg (by rw [e]; decide), if_neg (by rw [e]; decide)] <;> simp only [ap_ap]⟩
  · refine g_bipush (n := 2) (v := 60) hX dX8_row_0 rfl rfl ?_
    refine g_iload_n (n := 3) hX dX8_row_2 rfl rfl rfl ?_
    refine g_imul (n := 4) (v := nI (60 * p)) hX dX8_row_3 rfl (pk_mul 60 p) ?_
    refine g_iload_n (n := 5) hX dX8_row_4 rfl rfl rfl ?_
    refine g_iadd (n := 6) (v := nI (60 * p + r)) hX dX8_row_5 rfl (nI_add _ _) ?_
    refine g_istore (lv' := [(5, .int (nI (60 * p + r))), (0, .ref am), (1, .int (nI p)), (2, .int (nI r)), (3, .int (nI f)), (4, .int (nI l2))]) (n := 8) hX dX8_row_6 rfl (by rw [hnL]; rfl) rfl ?_
    refine g_aload_n (n := 9) hX dX8_row_8 rfl rfl rfl ?_
    refine g_mget (n := 12) 6 (v := .ref (A 2)) hX hU dX8_row_9 rfl uf_X8_16 rfl rfl rfl ?_
    refine g_iload (n := 14) hX dX8_row_12 rfl rfl ?_
    refine g_mild (n := 15) 2 (v := (pr r).1) hX hY dX8_row_14 rfl rfl rfl (vp_in_nI (show 60 * p + r < mN 2 by show 60 * p + r < 793; omega) (by decide)) (by rw [nI_clamp (by omega), ← hpr]; rfl) ?_
    refine g_istore (lv' := [(6, .int ((pr r).1)), (5, .int (nI (60 * p + r))), (0, .ref am), (1, .int (nI p)), (2, .int (nI r)), (3, .int (nI f)), (4, .int (nI l2))]) (n := 17) hX dX8_row_15 rfl (by rw [hnL]; rfl) rfl ?_
    refine g_aload_n (n := 18) hX dX8_row_17 rfl rfl rfl ?_
    refine g_mget (n := 21) 7 (v := .ref (A 3)) hX hU dX8_row_18 rfl uf_X8_19 rfl rfl rfl ?_
    refine g_iload (n := 23) hX dX8_row_21 rfl rfl ?_
    refine g_mild (n := 24) 3 (v := (pr r).2.1) hX hY dX8_row_23 rfl rfl rfl (vp_in_nI (show 60 * p + r < mN 3 by show 60 * p + r < 793; omega) (by decide)) (by rw [nI_clamp (by omega), ← hpr]; rfl) ?_
    refine g_istore (lv' := [(7, .int ((pr r).2.1)), (6, .int ((pr r).1)), (5, .int (nI (60 * p + r))), (0, .ref am), (1, .int (nI p)), (2, .int (nI r)), (3, .int (nI f)), (4, .int (nI l2))]) (n := 26) hX dX8_row_24 rfl (by rw [hnL]; rfl) rfl ?_
    refine g_aload_n (n := 27) hX dX8_row_26 rfl rfl rfl ?_
    refine g_mget (n := 30) 8 (v := .ref (A 4)) hX hU dX8_row_27 rfl uf_X8_22 rfl rfl rfl ?_
    refine g_iload (n := 32) hX dX8_row_30 rfl rfl ?_
    refine g_mild (n := 33) 4 (v := (pr r).2.2) hX hY dX8_row_32 rfl rfl rfl (vp_in_nI (show 60 * p + r < mN 4 by show 60 * p + r < 793; omega) (by decide)) (by rw [nI_clamp (by omega), ← hpr]; rfl) ?_
    refine g_istore (lv' := [(8, .int ((pr r).2.2)), (7, .int ((pr r).2.1)), (6, .int ((pr r).1)), (5, .int (nI (60 * p + r))), (0, .ref am), (1, .int (nI p)), (2, .int (nI r)), (3, .int (nI f)), (4, .int (nI l2))]) (n := 35) hX dX8_row_33 rfl (by rw [hnL]; rfl) rfl ?_
    refine g_aload_n (n := 36) hX dX8_row_35 rfl rfl rfl ?_
    refine g_iload_n (n := 37) hX dX8_row_36 rfl rfl rfl ?_
    refine g_iload_n (n := 38) hX dX8_row_37 rfl rfl rfl ?_
    refine g_iload_n (n := 39) hX dX8_row_38 rfl rfl rfl ?_
    refine g_iload (n := 41) hX dX8_row_39 rfl rfl ?_
    refine g_callV0 (n := 44) (As := [.int (nI p), .int (nI r), .int (nI f), .int (nI l2)]) (rest := []) hX hE hU hY dX8_row_41 rfl yv_X8_begins um_X8_213 (mr_begins _ _ K am A σ pr p (r) f l2 hpr hp h1 hr1 (by omega) h4 h5 ho) ⟨rfl, rfl⟩ (rm_le hRm rfl rfl) rfl (ci := 10) (q0 := 0) rfl rfl rfl rfl (Nat.le_of_ble_eq_true rfl) ⟨Nat.zero_le _, Nat.zero_le _⟩ (fun v0 w0 hq0 => ?_)
    obtain ⟨rfl, rfl⟩ := hq0
    show G Γ (mW K am A σ) 0 0 44 [(8, .int ((pr r).2.2)), (7, .int ((pr r).2.1)), (6, .int ((pr r).1)), (5, .int (nI (60 * p + r))), (0, .ref am), (1, .int (nI p)), (2, .int (nI r)), (3, .int (nI f)), (4, .int (nI l2))] [.int (nI (bg pr f l2 (r)))]
    refine g_istore (lv' := [(9, .int (nI (bg pr f l2 (r)))), (8, .int ((pr r).2.2)), (7, .int ((pr r).2.1)), (6, .int ((pr r).1)), (5, .int (nI (60 * p + r))), (0, .ref am), (1, .int (nI p)), (2, .int (nI r)), (3, .int (nI f)), (4, .int (nI l2))]) (n := 46) hX dX8_row_44 rfl (by rw [hnL]; rfl) rfl ?_
    refine g_iload (n := 48) hX dX8_row_46 rfl rfl ?_
    refine g_bipush (n := 50) (v := 7) hX dX8_row_48 rfl rfl ?_
    refine g_icmp_ge (n := 53) (tgt := 136) hX dX8_row_50 rfl (by decide) (fun c50 => absurd c50 (by rw [e] <;> decide)) (fun c50 => ?_)
    refine g_aload_n (n := 54) hX dX8_row_53 rfl rfl rfl ?_
    refine g_callV0 (n := 57) (As := []) (rest := []) hX hE hU hY dX8_row_54 rfl yv_X8_words um_X8_207 (m_words _ _ K am A σ  (hr.le (by decide))) ⟨rfl, rfl⟩ (rm_le hRm rfl rfl) rfl (ci := 10) (q0 := 0) rfl rfl rfl rfl (Nat.le_of_ble_eq_true rfl) ⟨Nat.zero_le _, Nat.zero_le _⟩ (fun v0 w0 hq0 => ?_)
    obtain ⟨rfl, rfl⟩ := hq0
    show G Γ (mW K am A (ap σ bWords)) 0 0 57 [(9, .int (nI (bg pr f l2 (r)))), (8, .int ((pr r).2.2)), (7, .int ((pr r).2.1)), (6, .int ((pr r).1)), (5, .int (nI (60 * p + r))), (0, .ref am), (1, .int (nI p)), (2, .int (nI r)), (3, .int (nI f)), (4, .int (nI l2))] []
    have hr : Lo (ap σ bWords) 17 := hr.app (Nat.le_of_ble_eq_true rfl)
    refine g_aload_n (n := 58) hX dX8_row_57 rfl rfl rfl ?_
    refine g_iload (n := 60) hX dX8_row_58 rfl rfl ?_
    refine g_callV0 (n := 63) (As := [.int ((pr r).2.1)]) (rest := []) hX hE hU hY dX8_row_60 rfl yv_X8_push um_X8_210 (m_push _ _ K am A (ap σ bWords) ((pr r).2.1) (hr.le (by decide))) ⟨rfl, rfl⟩ (rm_le hRm rfl rfl) rfl (ci := 10) (q0 := 0) rfl rfl rfl rfl (Nat.le_of_ble_eq_true rfl) ⟨Nat.zero_le _, Nat.zero_le _⟩ (fun v0 w0 hq0 => ?_)
    obtain ⟨rfl, rfl⟩ := hq0
    show G Γ (mW K am A (ap (ap σ bWords) (bPush ((pr r).2.1)))) 0 0 63 [(9, .int (nI (bg pr f l2 (r)))), (8, .int ((pr r).2.2)), (7, .int ((pr r).2.1)), (6, .int ((pr r).1)), (5, .int (nI (60 * p + r))), (0, .ref am), (1, .int (nI p)), (2, .int (nI r)), (3, .int (nI f)), (4, .int (nI l2))] []
    have hr : Lo (ap (ap σ bWords) (bPush ((pr r).2.1))) 15 := hr.app (Nat.le_of_ble_eq_true rfl)
    refine g_iload (n := 65) hX dX8_row_63 rfl rfl ?_
    refine g_if_ne (n := 68) (tgt := 74) hX dX8_row_65 rfl (by decide) (fun c65 => ?_) (fun c65 => absurd c65 (by rw [e] <;> decide))
    refine g_iload (n := 76) hX dX8_row_74 rfl rfl ?_
    refine g_iconst (n := 77) (v := 1) hX dX8_row_76 rfl rfl ?_
    refine g_icmp_le (n := 80) (tgt := 86) hX dX8_row_77 rfl (by decide) (fun c77 => absurd c77 (by rw [e] <;> decide)) (fun c77 => ?_)
    refine g_aload_n (n := 81) hX dX8_row_80 rfl rfl rfl ?_
    refine g_iload (n := 83) hX dX8_row_81 rfl rfl ?_
    refine g_callV0 (n := 86) (As := [.int ((pr r).2.1)]) (rest := []) hX hE hU hY dX8_row_83 rfl yv_X8_load um_X8_217 (m_load _ _ K am A (ap (ap σ bWords) (bPush ((pr r).2.1))) ((pr r).2.1) (hr.le (by decide))) ⟨rfl, rfl⟩ (rm_le hRm rfl rfl) rfl (ci := 10) (q0 := 0) rfl rfl rfl rfl (Nat.le_of_ble_eq_true rfl) ⟨Nat.zero_le _, Nat.zero_le _⟩ (fun v0 w0 hq0 => ?_)
    obtain ⟨rfl, rfl⟩ := hq0
    show G Γ (mW K am A (ap (ap (ap σ bWords) (bPush ((pr r).2.1))) (bLoad ((pr r).2.1)))) 0 0 86 [(9, .int (nI (bg pr f l2 (r)))), (8, .int ((pr r).2.2)), (7, .int ((pr r).2.1)), (6, .int ((pr r).1)), (5, .int (nI (60 * p + r))), (0, .ref am), (1, .int (nI p)), (2, .int (nI r)), (3, .int (nI f)), (4, .int (nI l2))] []
    have hr : Lo (ap (ap (ap σ bWords) (bPush ((pr r).2.1))) (bLoad ((pr r).2.1))) 9 := hr.app (Nat.le_of_ble_eq_true rfl)
    refine g_iload (n := 88) hX dX8_row_86 rfl rfl ?_
    refine g_if_le (n := 91) (tgt := 97) hX dX8_row_88 rfl (by decide) (fun c88 => absurd c88 (by rw [e] <;> decide)) (fun c88 => ?_)
    refine g_aload_n (n := 92) hX dX8_row_91 rfl rfl rfl ?_
    refine g_iload (n := 94) hX dX8_row_92 rfl rfl ?_
    refine g_callV0 (n := 97) (As := [.int ((pr r).2.2)]) (rest := []) hX hE hU hY dX8_row_94 rfl yv_X8_load um_X8_217 (m_load _ _ K am A (ap (ap (ap σ bWords) (bPush ((pr r).2.1))) (bLoad ((pr r).2.1))) ((pr r).2.2) (hr.le (by decide))) ⟨rfl, rfl⟩ (rm_le hRm rfl rfl) rfl (ci := 10) (q0 := 0) rfl rfl rfl rfl (Nat.le_of_ble_eq_true rfl) ⟨Nat.zero_le _, Nat.zero_le _⟩ (fun v0 w0 hq0 => ?_)
    obtain ⟨rfl, rfl⟩ := hq0
    show G Γ (mW K am A (ap (ap (ap (ap σ bWords) (bPush ((pr r).2.1))) (bLoad ((pr r).2.1))) (bLoad ((pr r).2.2)))) 0 0 97 [(9, .int (nI (bg pr f l2 (r)))), (8, .int ((pr r).2.2)), (7, .int ((pr r).2.1)), (6, .int ((pr r).1)), (5, .int (nI (60 * p + r))), (0, .ref am), (1, .int (nI p)), (2, .int (nI r)), (3, .int (nI f)), (4, .int (nI l2))] []
    have hr : Lo (ap (ap (ap (ap σ bWords) (bPush ((pr r).2.1))) (bLoad ((pr r).2.1))) (bLoad ((pr r).2.2))) 3 := hr.app (Nat.le_of_ble_eq_true rfl)
    refine g_iload (n := 99) hX dX8_row_97 rfl rfl ?_
    refine g_iconst (n := 100) (v := 1) hX dX8_row_99 rfl rfl ?_
    refine g_icmp_le (n := 103) (tgt := 114) hX dX8_row_100 rfl (by decide) (fun c100 => absurd c100 (by rw [e] <;> decide)) (fun c100 => ?_)
    refine g_aload_n (n := 104) hX dX8_row_103 rfl rfl rfl ?_
    refine g_bipush (n := 106) (v := 88) hX dX8_row_104 rfl rfl ?_
    refine g_iconst (n := 107) (v := 4) hX dX8_row_106 rfl rfl ?_
    refine g_iload (n := 109) hX dX8_row_107 rfl rfl ?_
    refine g_imul (n := 110) (v := 4 * ((pr r).1)) hX dX8_row_109 rfl rfl ?_
    refine g_iadd (n := 111) (v := 88 + (4 * ((pr r).1))) hX dX8_row_110 rfl rfl ?_
    refine g_callV0 (n := 114) (As := [.int (88 + (4 * ((pr r).1)))]) (rest := []) hX hE hU hY dX8_row_111 rfl yv_X8_u1 um_X8_138 (m_u1 _ _ K am A (ap (ap (ap (ap σ bWords) (bPush ((pr r).2.1))) (bLoad ((pr r).2.1))) (bLoad ((pr r).2.2))) (88 + (4 * ((pr r).1))) (hr.le (by decide))) ⟨rfl, rfl⟩ (rm_le hRm rfl rfl) rfl (ci := 10) (q0 := 0) rfl rfl rfl rfl (Nat.le_of_ble_eq_true rfl) ⟨Nat.zero_le _, Nat.zero_le _⟩ (fun v0 w0 hq0 => ?_)
    obtain ⟨rfl, rfl⟩ := hq0
    show G Γ (mW K am A (ap (ap (ap (ap (ap σ bWords) (bPush ((pr r).2.1))) (bLoad ((pr r).2.1))) (bLoad ((pr r).2.2))) ([88 + (4 * ((pr r).1))]))) 0 0 114 [(9, .int (nI (bg pr f l2 (r)))), (8, .int ((pr r).2.2)), (7, .int ((pr r).2.1)), (6, .int ((pr r).1)), (5, .int (nI (60 * p + r))), (0, .ref am), (1, .int (nI p)), (2, .int (nI r)), (3, .int (nI f)), (4, .int (nI l2))] []
    have hr : Lo (ap (ap (ap (ap (ap σ bWords) (bPush ((pr r).2.1))) (bLoad ((pr r).2.1))) (bLoad ((pr r).2.2))) ([88 + (4 * ((pr r).1))])) 2 := hr.app (Nat.le_of_ble_eq_true rfl)
    refine g_iload (n := 116) hX dX8_row_114 rfl rfl ?_
    refine g_iconst (n := 117) (v := 1) hX dX8_row_116 rfl rfl ?_
    refine g_icmp_le (n := 120) (tgt := 127) hX dX8_row_117 rfl (by decide) (fun c117 => absurd c117 (by rw [e] <;> decide)) (fun c117 => ?_)
    refine g_aload_n (n := 121) hX dX8_row_120 rfl rfl rfl ?_
    refine g_sipush (n := 124) (v := 145) hX dX8_row_121 rfl rfl ?_
    refine g_callV0 (n := 127) (As := [.int 145]) (rest := []) hX hE hU hY dX8_row_124 rfl yv_X8_u1 um_X8_138 (m_u1 _ _ K am A (ap (ap (ap (ap (ap σ bWords) (bPush ((pr r).2.1))) (bLoad ((pr r).2.1))) (bLoad ((pr r).2.2))) ([88 + (4 * ((pr r).1))])) 145 (hr.le (by decide))) ⟨rfl, rfl⟩ (rm_le hRm rfl rfl) rfl (ci := 10) (q0 := 0) rfl rfl rfl rfl (Nat.le_of_ble_eq_true rfl) ⟨Nat.zero_le _, Nat.zero_le _⟩ (fun v0 w0 hq0 => ?_)
    obtain ⟨rfl, rfl⟩ := hq0
    show G Γ (mW K am A (ap (ap (ap (ap (ap (ap σ bWords) (bPush ((pr r).2.1))) (bLoad ((pr r).2.1))) (bLoad ((pr r).2.2))) ([88 + (4 * ((pr r).1))])) ([145]))) 0 0 127 [(9, .int (nI (bg pr f l2 (r)))), (8, .int ((pr r).2.2)), (7, .int ((pr r).2.1)), (6, .int ((pr r).1)), (5, .int (nI (60 * p + r))), (0, .ref am), (1, .int (nI p)), (2, .int (nI r)), (3, .int (nI f)), (4, .int (nI l2))] []
    have hr : Lo (ap (ap (ap (ap (ap (ap σ bWords) (bPush ((pr r).2.1))) (bLoad ((pr r).2.1))) (bLoad ((pr r).2.2))) ([88 + (4 * ((pr r).1))])) ([145])) 1 := hr.app (Nat.le_of_ble_eq_true rfl)
    refine g_aload_n (n := 128) hX dX8_row_127 rfl rfl rfl ?_
    refine g_bipush (n := 130) (v := 84) hX dX8_row_128 rfl rfl ?_
    refine g_callV0 (n := 133) (As := [.int 84]) (rest := []) hX hE hU hY dX8_row_130 rfl yv_X8_u1 um_X8_138 (m_u1 _ _ K am A (ap (ap (ap (ap (ap (ap σ bWords) (bPush ((pr r).2.1))) (bLoad ((pr r).2.1))) (bLoad ((pr r).2.2))) ([88 + (4 * ((pr r).1))])) ([145])) 84 (hr.le (by decide))) ⟨rfl, rfl⟩ (rm_le hRm rfl rfl) rfl (ci := 10) (q0 := 0) rfl rfl rfl rfl (Nat.le_of_ble_eq_true rfl) ⟨Nat.zero_le _, Nat.zero_le _⟩ (fun v0 w0 hq0 => ?_)
    obtain ⟨rfl, rfl⟩ := hq0
    show G Γ (mW K am A (ap (ap (ap (ap (ap (ap (ap σ bWords) (bPush ((pr r).2.1))) (bLoad ((pr r).2.1))) (bLoad ((pr r).2.2))) ([88 + (4 * ((pr r).1))])) ([145])) ([84]))) 0 0 133 [(9, .int (nI (bg pr f l2 (r)))), (8, .int ((pr r).2.2)), (7, .int ((pr r).2.1)), (6, .int ((pr r).1)), (5, .int (nI (60 * p + r))), (0, .ref am), (1, .int (nI p)), (2, .int (nI r)), (3, .int (nI f)), (4, .int (nI l2))] []
    have hr : Lo (ap (ap (ap (ap (ap (ap (ap σ bWords) (bPush ((pr r).2.1))) (bLoad ((pr r).2.1))) (bLoad ((pr r).2.2))) ([88 + (4 * ((pr r).1))])) ([145])) ([84])) 0 := hr.app (Nat.le_of_ble_eq_true rfl)
    refine g_goto (n := 340) hX dX8_row_133 (by decide) ?_
    exact g_vret hX hR dX8_row_340 ⟨rfl, by rw [bRow, if_neg (by rw [e]; decide), if_neg (by rw [e]; decide), if_neg (by rw [e]; decide), if_neg (by rw [e]; decide), if_neg (by rw [e]; decide), if_neg (by rw [e]; decide), if_neg (by rw [e]; decide), if_neg (by rw [e]; decide), if_neg (by rw [e]; decide)] <;> simp only [ap_ap]⟩
  · refine g_bipush (n := 2) (v := 60) hX dX8_row_0 rfl rfl ?_
    refine g_iload_n (n := 3) hX dX8_row_2 rfl rfl rfl ?_
    refine g_imul (n := 4) (v := nI (60 * p)) hX dX8_row_3 rfl (pk_mul 60 p) ?_
    refine g_iload_n (n := 5) hX dX8_row_4 rfl rfl rfl ?_
    refine g_iadd (n := 6) (v := nI (60 * p + r)) hX dX8_row_5 rfl (nI_add _ _) ?_
    refine g_istore (lv' := [(5, .int (nI (60 * p + r))), (0, .ref am), (1, .int (nI p)), (2, .int (nI r)), (3, .int (nI f)), (4, .int (nI l2))]) (n := 8) hX dX8_row_6 rfl (by rw [hnL]; rfl) rfl ?_
    refine g_aload_n (n := 9) hX dX8_row_8 rfl rfl rfl ?_
    refine g_mget (n := 12) 6 (v := .ref (A 2)) hX hU dX8_row_9 rfl uf_X8_16 rfl rfl rfl ?_
    refine g_iload (n := 14) hX dX8_row_12 rfl rfl ?_
    refine g_mild (n := 15) 2 (v := (pr r).1) hX hY dX8_row_14 rfl rfl rfl (vp_in_nI (show 60 * p + r < mN 2 by show 60 * p + r < 793; omega) (by decide)) (by rw [nI_clamp (by omega), ← hpr]; rfl) ?_
    refine g_istore (lv' := [(6, .int ((pr r).1)), (5, .int (nI (60 * p + r))), (0, .ref am), (1, .int (nI p)), (2, .int (nI r)), (3, .int (nI f)), (4, .int (nI l2))]) (n := 17) hX dX8_row_15 rfl (by rw [hnL]; rfl) rfl ?_
    refine g_aload_n (n := 18) hX dX8_row_17 rfl rfl rfl ?_
    refine g_mget (n := 21) 7 (v := .ref (A 3)) hX hU dX8_row_18 rfl uf_X8_19 rfl rfl rfl ?_
    refine g_iload (n := 23) hX dX8_row_21 rfl rfl ?_
    refine g_mild (n := 24) 3 (v := (pr r).2.1) hX hY dX8_row_23 rfl rfl rfl (vp_in_nI (show 60 * p + r < mN 3 by show 60 * p + r < 793; omega) (by decide)) (by rw [nI_clamp (by omega), ← hpr]; rfl) ?_
    refine g_istore (lv' := [(7, .int ((pr r).2.1)), (6, .int ((pr r).1)), (5, .int (nI (60 * p + r))), (0, .ref am), (1, .int (nI p)), (2, .int (nI r)), (3, .int (nI f)), (4, .int (nI l2))]) (n := 26) hX dX8_row_24 rfl (by rw [hnL]; rfl) rfl ?_
    refine g_aload_n (n := 27) hX dX8_row_26 rfl rfl rfl ?_
    refine g_mget (n := 30) 8 (v := .ref (A 4)) hX hU dX8_row_27 rfl uf_X8_22 rfl rfl rfl ?_
    refine g_iload (n := 32) hX dX8_row_30 rfl rfl ?_
    refine g_mild (n := 33) 4 (v := (pr r).2.2) hX hY dX8_row_32 rfl rfl rfl (vp_in_nI (show 60 * p + r < mN 4 by show 60 * p + r < 793; omega) (by decide)) (by rw [nI_clamp (by omega), ← hpr]; rfl) ?_
    refine g_istore (lv' := [(8, .int ((pr r).2.2)), (7, .int ((pr r).2.1)), (6, .int ((pr r).1)), (5, .int (nI (60 * p + r))), (0, .ref am), (1, .int (nI p)), (2, .int (nI r)), (3, .int (nI f)), (4, .int (nI l2))]) (n := 35) hX dX8_row_33 rfl (by rw [hnL]; rfl) rfl ?_
    refine g_aload_n (n := 36) hX dX8_row_35 rfl rfl rfl ?_
    refine g_iload_n (n := 37) hX dX8_row_36 rfl rfl rfl ?_
    refine g_iload_n (n := 38) hX dX8_row_37 rfl rfl rfl ?_
    refine g_iload_n (n := 39) hX dX8_row_38 rfl rfl rfl ?_
    refine g_iload (n := 41) hX dX8_row_39 rfl rfl ?_
    refine g_callV0 (n := 44) (As := [.int (nI p), .int (nI r), .int (nI f), .int (nI l2)]) (rest := []) hX hE hU hY dX8_row_41 rfl yv_X8_begins um_X8_213 (mr_begins _ _ K am A σ pr p (r) f l2 hpr hp h1 hr1 (by omega) h4 h5 ho) ⟨rfl, rfl⟩ (rm_le hRm rfl rfl) rfl (ci := 10) (q0 := 0) rfl rfl rfl rfl (Nat.le_of_ble_eq_true rfl) ⟨Nat.zero_le _, Nat.zero_le _⟩ (fun v0 w0 hq0 => ?_)
    obtain ⟨rfl, rfl⟩ := hq0
    show G Γ (mW K am A σ) 0 0 44 [(8, .int ((pr r).2.2)), (7, .int ((pr r).2.1)), (6, .int ((pr r).1)), (5, .int (nI (60 * p + r))), (0, .ref am), (1, .int (nI p)), (2, .int (nI r)), (3, .int (nI f)), (4, .int (nI l2))] [.int (nI (bg pr f l2 (r)))]
    refine g_istore (lv' := [(9, .int (nI (bg pr f l2 (r)))), (8, .int ((pr r).2.2)), (7, .int ((pr r).2.1)), (6, .int ((pr r).1)), (5, .int (nI (60 * p + r))), (0, .ref am), (1, .int (nI p)), (2, .int (nI r)), (3, .int (nI f)), (4, .int (nI l2))]) (n := 46) hX dX8_row_44 rfl (by rw [hnL]; rfl) rfl ?_
    refine g_iload (n := 48) hX dX8_row_46 rfl rfl ?_
    refine g_bipush (n := 50) (v := 7) hX dX8_row_48 rfl rfl ?_
    refine g_icmp_ge (n := 53) (tgt := 136) hX dX8_row_50 rfl (by decide) (fun c50 => absurd c50 (by rw [e] <;> decide)) (fun c50 => ?_)
    refine g_aload_n (n := 54) hX dX8_row_53 rfl rfl rfl ?_
    refine g_callV0 (n := 57) (As := []) (rest := []) hX hE hU hY dX8_row_54 rfl yv_X8_words um_X8_207 (m_words _ _ K am A σ  (hr.le (by decide))) ⟨rfl, rfl⟩ (rm_le hRm rfl rfl) rfl (ci := 10) (q0 := 0) rfl rfl rfl rfl (Nat.le_of_ble_eq_true rfl) ⟨Nat.zero_le _, Nat.zero_le _⟩ (fun v0 w0 hq0 => ?_)
    obtain ⟨rfl, rfl⟩ := hq0
    show G Γ (mW K am A (ap σ bWords)) 0 0 57 [(9, .int (nI (bg pr f l2 (r)))), (8, .int ((pr r).2.2)), (7, .int ((pr r).2.1)), (6, .int ((pr r).1)), (5, .int (nI (60 * p + r))), (0, .ref am), (1, .int (nI p)), (2, .int (nI r)), (3, .int (nI f)), (4, .int (nI l2))] []
    have hr : Lo (ap σ bWords) 17 := hr.app (Nat.le_of_ble_eq_true rfl)
    refine g_aload_n (n := 58) hX dX8_row_57 rfl rfl rfl ?_
    refine g_iload (n := 60) hX dX8_row_58 rfl rfl ?_
    refine g_callV0 (n := 63) (As := [.int ((pr r).2.1)]) (rest := []) hX hE hU hY dX8_row_60 rfl yv_X8_push um_X8_210 (m_push _ _ K am A (ap σ bWords) ((pr r).2.1) (hr.le (by decide))) ⟨rfl, rfl⟩ (rm_le hRm rfl rfl) rfl (ci := 10) (q0 := 0) rfl rfl rfl rfl (Nat.le_of_ble_eq_true rfl) ⟨Nat.zero_le _, Nat.zero_le _⟩ (fun v0 w0 hq0 => ?_)
    obtain ⟨rfl, rfl⟩ := hq0
    show G Γ (mW K am A (ap (ap σ bWords) (bPush ((pr r).2.1)))) 0 0 63 [(9, .int (nI (bg pr f l2 (r)))), (8, .int ((pr r).2.2)), (7, .int ((pr r).2.1)), (6, .int ((pr r).1)), (5, .int (nI (60 * p + r))), (0, .ref am), (1, .int (nI p)), (2, .int (nI r)), (3, .int (nI f)), (4, .int (nI l2))] []
    have hr : Lo (ap (ap σ bWords) (bPush ((pr r).2.1))) 15 := hr.app (Nat.le_of_ble_eq_true rfl)
    refine g_iload (n := 65) hX dX8_row_63 rfl rfl ?_
    refine g_if_ne (n := 68) (tgt := 74) hX dX8_row_65 rfl (by decide) (fun c65 => ?_) (fun c65 => absurd c65 (by rw [e] <;> decide))
    refine g_iload (n := 76) hX dX8_row_74 rfl rfl ?_
    refine g_iconst (n := 77) (v := 1) hX dX8_row_76 rfl rfl ?_
    refine g_icmp_le (n := 80) (tgt := 86) hX dX8_row_77 rfl (by decide) (fun c77 => absurd c77 (by rw [e] <;> decide)) (fun c77 => ?_)
    refine g_aload_n (n := 81) hX dX8_row_80 rfl rfl rfl ?_
    refine g_iload (n := 83) hX dX8_row_81 rfl rfl ?_
    refine g_callV0 (n := 86) (As := [.int ((pr r).2.1)]) (rest := []) hX hE hU hY dX8_row_83 rfl yv_X8_load um_X8_217 (m_load _ _ K am A (ap (ap σ bWords) (bPush ((pr r).2.1))) ((pr r).2.1) (hr.le (by decide))) ⟨rfl, rfl⟩ (rm_le hRm rfl rfl) rfl (ci := 10) (q0 := 0) rfl rfl rfl rfl (Nat.le_of_ble_eq_true rfl) ⟨Nat.zero_le _, Nat.zero_le _⟩ (fun v0 w0 hq0 => ?_)
    obtain ⟨rfl, rfl⟩ := hq0
    show G Γ (mW K am A (ap (ap (ap σ bWords) (bPush ((pr r).2.1))) (bLoad ((pr r).2.1)))) 0 0 86 [(9, .int (nI (bg pr f l2 (r)))), (8, .int ((pr r).2.2)), (7, .int ((pr r).2.1)), (6, .int ((pr r).1)), (5, .int (nI (60 * p + r))), (0, .ref am), (1, .int (nI p)), (2, .int (nI r)), (3, .int (nI f)), (4, .int (nI l2))] []
    have hr : Lo (ap (ap (ap σ bWords) (bPush ((pr r).2.1))) (bLoad ((pr r).2.1))) 9 := hr.app (Nat.le_of_ble_eq_true rfl)
    refine g_iload (n := 88) hX dX8_row_86 rfl rfl ?_
    refine g_if_le (n := 91) (tgt := 97) hX dX8_row_88 rfl (by decide) (fun c88 => absurd c88 (by rw [e] <;> decide)) (fun c88 => ?_)
    refine g_aload_n (n := 92) hX dX8_row_91 rfl rfl rfl ?_
    refine g_iload (n := 94) hX dX8_row_92 rfl rfl ?_
    refine g_callV0 (n := 97) (As := [.int ((pr r).2.2)]) (rest := []) hX hE hU hY dX8_row_94 rfl yv_X8_load um_X8_217 (m_load _ _ K am A (ap (ap (ap σ bWords) (bPush ((pr r).2.1))) (bLoad ((pr r).2.1))) ((pr r).2.2) (hr.le (by decide))) ⟨rfl, rfl⟩ (rm_le hRm rfl rfl) rfl (ci := 10) (q0 := 0) rfl rfl rfl rfl (Nat.le_of_ble_eq_true rfl) ⟨Nat.zero_le _, Nat.zero_le _⟩ (fun v0 w0 hq0 => ?_)
    obtain ⟨rfl, rfl⟩ := hq0
    show G Γ (mW K am A (ap (ap (ap (ap σ bWords) (bPush ((pr r).2.1))) (bLoad ((pr r).2.1))) (bLoad ((pr r).2.2)))) 0 0 97 [(9, .int (nI (bg pr f l2 (r)))), (8, .int ((pr r).2.2)), (7, .int ((pr r).2.1)), (6, .int ((pr r).1)), (5, .int (nI (60 * p + r))), (0, .ref am), (1, .int (nI p)), (2, .int (nI r)), (3, .int (nI f)), (4, .int (nI l2))] []
    have hr : Lo (ap (ap (ap (ap σ bWords) (bPush ((pr r).2.1))) (bLoad ((pr r).2.1))) (bLoad ((pr r).2.2))) 3 := hr.app (Nat.le_of_ble_eq_true rfl)
    refine g_iload (n := 99) hX dX8_row_97 rfl rfl ?_
    refine g_iconst (n := 100) (v := 1) hX dX8_row_99 rfl rfl ?_
    refine g_icmp_le (n := 103) (tgt := 114) hX dX8_row_100 rfl (by decide) (fun c100 => absurd c100 (by rw [e] <;> decide)) (fun c100 => ?_)
    refine g_aload_n (n := 104) hX dX8_row_103 rfl rfl rfl ?_
    refine g_bipush (n := 106) (v := 88) hX dX8_row_104 rfl rfl ?_
    refine g_iconst (n := 107) (v := 4) hX dX8_row_106 rfl rfl ?_
    refine g_iload (n := 109) hX dX8_row_107 rfl rfl ?_
    refine g_imul (n := 110) (v := 4 * ((pr r).1)) hX dX8_row_109 rfl rfl ?_
    refine g_iadd (n := 111) (v := 88 + (4 * ((pr r).1))) hX dX8_row_110 rfl rfl ?_
    refine g_callV0 (n := 114) (As := [.int (88 + (4 * ((pr r).1)))]) (rest := []) hX hE hU hY dX8_row_111 rfl yv_X8_u1 um_X8_138 (m_u1 _ _ K am A (ap (ap (ap (ap σ bWords) (bPush ((pr r).2.1))) (bLoad ((pr r).2.1))) (bLoad ((pr r).2.2))) (88 + (4 * ((pr r).1))) (hr.le (by decide))) ⟨rfl, rfl⟩ (rm_le hRm rfl rfl) rfl (ci := 10) (q0 := 0) rfl rfl rfl rfl (Nat.le_of_ble_eq_true rfl) ⟨Nat.zero_le _, Nat.zero_le _⟩ (fun v0 w0 hq0 => ?_)
    obtain ⟨rfl, rfl⟩ := hq0
    show G Γ (mW K am A (ap (ap (ap (ap (ap σ bWords) (bPush ((pr r).2.1))) (bLoad ((pr r).2.1))) (bLoad ((pr r).2.2))) ([88 + (4 * ((pr r).1))]))) 0 0 114 [(9, .int (nI (bg pr f l2 (r)))), (8, .int ((pr r).2.2)), (7, .int ((pr r).2.1)), (6, .int ((pr r).1)), (5, .int (nI (60 * p + r))), (0, .ref am), (1, .int (nI p)), (2, .int (nI r)), (3, .int (nI f)), (4, .int (nI l2))] []
    have hr : Lo (ap (ap (ap (ap (ap σ bWords) (bPush ((pr r).2.1))) (bLoad ((pr r).2.1))) (bLoad ((pr r).2.2))) ([88 + (4 * ((pr r).1))])) 2 := hr.app (Nat.le_of_ble_eq_true rfl)
    refine g_iload (n := 116) hX dX8_row_114 rfl rfl ?_
    refine g_iconst (n := 117) (v := 1) hX dX8_row_116 rfl rfl ?_
    refine g_icmp_le (n := 120) (tgt := 127) hX dX8_row_117 rfl (by decide) (fun c117 => absurd c117 (by rw [e] <;> decide)) (fun c117 => ?_)
    refine g_aload_n (n := 121) hX dX8_row_120 rfl rfl rfl ?_
    refine g_sipush (n := 124) (v := 145) hX dX8_row_121 rfl rfl ?_
    refine g_callV0 (n := 127) (As := [.int 145]) (rest := []) hX hE hU hY dX8_row_124 rfl yv_X8_u1 um_X8_138 (m_u1 _ _ K am A (ap (ap (ap (ap (ap σ bWords) (bPush ((pr r).2.1))) (bLoad ((pr r).2.1))) (bLoad ((pr r).2.2))) ([88 + (4 * ((pr r).1))])) 145 (hr.le (by decide))) ⟨rfl, rfl⟩ (rm_le hRm rfl rfl) rfl (ci := 10) (q0 := 0) rfl rfl rfl rfl (Nat.le_of_ble_eq_true rfl) ⟨Nat.zero_le _, Nat.zero_le _⟩ (fun v0 w0 hq0 => ?_)
    obtain ⟨rfl, rfl⟩ := hq0
    show G Γ (mW K am A (ap (ap (ap (ap (ap (ap σ bWords) (bPush ((pr r).2.1))) (bLoad ((pr r).2.1))) (bLoad ((pr r).2.2))) ([88 + (4 * ((pr r).1))])) ([145]))) 0 0 127 [(9, .int (nI (bg pr f l2 (r)))), (8, .int ((pr r).2.2)), (7, .int ((pr r).2.1)), (6, .int ((pr r).1)), (5, .int (nI (60 * p + r))), (0, .ref am), (1, .int (nI p)), (2, .int (nI r)), (3, .int (nI f)), (4, .int (nI l2))] []
    have hr : Lo (ap (ap (ap (ap (ap (ap σ bWords) (bPush ((pr r).2.1))) (bLoad ((pr r).2.1))) (bLoad ((pr r).2.2))) ([88 + (4 * ((pr r).1))])) ([145])) 1 := hr.app (Nat.le_of_ble_eq_true rfl)
    refine g_aload_n (n := 128) hX dX8_row_127 rfl rfl rfl ?_
    refine g_bipush (n := 130) (v := 84) hX dX8_row_128 rfl rfl ?_
    refine g_callV0 (n := 133) (As := [.int 84]) (rest := []) hX hE hU hY dX8_row_130 rfl yv_X8_u1 um_X8_138 (m_u1 _ _ K am A (ap (ap (ap (ap (ap (ap σ bWords) (bPush ((pr r).2.1))) (bLoad ((pr r).2.1))) (bLoad ((pr r).2.2))) ([88 + (4 * ((pr r).1))])) ([145])) 84 (hr.le (by decide))) ⟨rfl, rfl⟩ (rm_le hRm rfl rfl) rfl (ci := 10) (q0 := 0) rfl rfl rfl rfl (Nat.le_of_ble_eq_true rfl) ⟨Nat.zero_le _, Nat.zero_le _⟩ (fun v0 w0 hq0 => ?_)
    obtain ⟨rfl, rfl⟩ := hq0
    show G Γ (mW K am A (ap (ap (ap (ap (ap (ap (ap σ bWords) (bPush ((pr r).2.1))) (bLoad ((pr r).2.1))) (bLoad ((pr r).2.2))) ([88 + (4 * ((pr r).1))])) ([145])) ([84]))) 0 0 133 [(9, .int (nI (bg pr f l2 (r)))), (8, .int ((pr r).2.2)), (7, .int ((pr r).2.1)), (6, .int ((pr r).1)), (5, .int (nI (60 * p + r))), (0, .ref am), (1, .int (nI p)), (2, .int (nI r)), (3, .int (nI f)), (4, .int (nI l2))] []
    have hr : Lo (ap (ap (ap (ap (ap (ap (ap σ bWords) (bPush ((pr r).2.1))) (bLoad ((pr r).2.1))) (bLoad ((pr r).2.2))) ([88 + (4 * ((pr r).1))])) ([145])) ([84])) 0 := hr.app (Nat.le_of_ble_eq_true rfl)
    refine g_goto (n := 340) hX dX8_row_133 (by decide) ?_
    exact g_vret hX hR dX8_row_340 ⟨rfl, by rw [bRow, if_neg (by rw [e]; decide), if_neg (by rw [e]; decide), if_neg (by rw [e]; decide), if_neg (by rw [e]; decide), if_neg (by rw [e]; decide), if_neg (by rw [e]; decide), if_neg (by rw [e]; decide), if_neg (by rw [e]; decide), if_neg (by rw [e]; decide)] <;> simp only [ap_ap]⟩
  · refine g_bipush (n := 2) (v := 60) hX dX8_row_0 rfl rfl ?_
    refine g_iload_n (n := 3) hX dX8_row_2 rfl rfl rfl ?_
    refine g_imul (n := 4) (v := nI (60 * p)) hX dX8_row_3 rfl (pk_mul 60 p) ?_
    refine g_iload_n (n := 5) hX dX8_row_4 rfl rfl rfl ?_
    refine g_iadd (n := 6) (v := nI (60 * p + r)) hX dX8_row_5 rfl (nI_add _ _) ?_
    refine g_istore (lv' := [(5, .int (nI (60 * p + r))), (0, .ref am), (1, .int (nI p)), (2, .int (nI r)), (3, .int (nI f)), (4, .int (nI l2))]) (n := 8) hX dX8_row_6 rfl (by rw [hnL]; rfl) rfl ?_
    refine g_aload_n (n := 9) hX dX8_row_8 rfl rfl rfl ?_
    refine g_mget (n := 12) 6 (v := .ref (A 2)) hX hU dX8_row_9 rfl uf_X8_16 rfl rfl rfl ?_
    refine g_iload (n := 14) hX dX8_row_12 rfl rfl ?_
    refine g_mild (n := 15) 2 (v := (pr r).1) hX hY dX8_row_14 rfl rfl rfl (vp_in_nI (show 60 * p + r < mN 2 by show 60 * p + r < 793; omega) (by decide)) (by rw [nI_clamp (by omega), ← hpr]; rfl) ?_
    refine g_istore (lv' := [(6, .int ((pr r).1)), (5, .int (nI (60 * p + r))), (0, .ref am), (1, .int (nI p)), (2, .int (nI r)), (3, .int (nI f)), (4, .int (nI l2))]) (n := 17) hX dX8_row_15 rfl (by rw [hnL]; rfl) rfl ?_
    refine g_aload_n (n := 18) hX dX8_row_17 rfl rfl rfl ?_
    refine g_mget (n := 21) 7 (v := .ref (A 3)) hX hU dX8_row_18 rfl uf_X8_19 rfl rfl rfl ?_
    refine g_iload (n := 23) hX dX8_row_21 rfl rfl ?_
    refine g_mild (n := 24) 3 (v := (pr r).2.1) hX hY dX8_row_23 rfl rfl rfl (vp_in_nI (show 60 * p + r < mN 3 by show 60 * p + r < 793; omega) (by decide)) (by rw [nI_clamp (by omega), ← hpr]; rfl) ?_
    refine g_istore (lv' := [(7, .int ((pr r).2.1)), (6, .int ((pr r).1)), (5, .int (nI (60 * p + r))), (0, .ref am), (1, .int (nI p)), (2, .int (nI r)), (3, .int (nI f)), (4, .int (nI l2))]) (n := 26) hX dX8_row_24 rfl (by rw [hnL]; rfl) rfl ?_
    refine g_aload_n (n := 27) hX dX8_row_26 rfl rfl rfl ?_
    refine g_mget (n := 30) 8 (v := .ref (A 4)) hX hU dX8_row_27 rfl uf_X8_22 rfl rfl rfl ?_
    refine g_iload (n := 32) hX dX8_row_30 rfl rfl ?_
    refine g_mild (n := 33) 4 (v := (pr r).2.2) hX hY dX8_row_32 rfl rfl rfl (vp_in_nI (show 60 * p + r < mN 4 by show 60 * p + r < 793; omega) (by decide)) (by rw [nI_clamp (by omega), ← hpr]; rfl) ?_
    refine g_istore (lv' := [(8, .int ((pr r).2.2)), (7, .int ((pr r).2.1)), (6, .int ((pr r).1)), (5, .int (nI (60 * p + r))), (0, .ref am), (1, .int (nI p)), (2, .int (nI r)), (3, .int (nI f)), (4, .int (nI l2))]) (n := 35) hX dX8_row_33 rfl (by rw [hnL]; rfl) rfl ?_
    refine g_aload_n (n := 36) hX dX8_row_35 rfl rfl rfl ?_
    refine g_iload_n (n := 37) hX dX8_row_36 rfl rfl rfl ?_
    refine g_iload_n (n := 38) hX dX8_row_37 rfl rfl rfl ?_
    refine g_iload_n (n := 39) hX dX8_row_38 rfl rfl rfl ?_
    refine g_iload (n := 41) hX dX8_row_39 rfl rfl ?_
    refine g_callV0 (n := 44) (As := [.int (nI p), .int (nI r), .int (nI f), .int (nI l2)]) (rest := []) hX hE hU hY dX8_row_41 rfl yv_X8_begins um_X8_213 (mr_begins _ _ K am A σ pr p (r) f l2 hpr hp h1 hr1 (by omega) h4 h5 ho) ⟨rfl, rfl⟩ (rm_le hRm rfl rfl) rfl (ci := 10) (q0 := 0) rfl rfl rfl rfl (Nat.le_of_ble_eq_true rfl) ⟨Nat.zero_le _, Nat.zero_le _⟩ (fun v0 w0 hq0 => ?_)
    obtain ⟨rfl, rfl⟩ := hq0
    show G Γ (mW K am A σ) 0 0 44 [(8, .int ((pr r).2.2)), (7, .int ((pr r).2.1)), (6, .int ((pr r).1)), (5, .int (nI (60 * p + r))), (0, .ref am), (1, .int (nI p)), (2, .int (nI r)), (3, .int (nI f)), (4, .int (nI l2))] [.int (nI (bg pr f l2 (r)))]
    refine g_istore (lv' := [(9, .int (nI (bg pr f l2 (r)))), (8, .int ((pr r).2.2)), (7, .int ((pr r).2.1)), (6, .int ((pr r).1)), (5, .int (nI (60 * p + r))), (0, .ref am), (1, .int (nI p)), (2, .int (nI r)), (3, .int (nI f)), (4, .int (nI l2))]) (n := 46) hX dX8_row_44 rfl (by rw [hnL]; rfl) rfl ?_
    refine g_iload (n := 48) hX dX8_row_46 rfl rfl ?_
    refine g_bipush (n := 50) (v := 7) hX dX8_row_48 rfl rfl ?_
    refine g_icmp_ge (n := 53) (tgt := 136) hX dX8_row_50 rfl (by decide) (fun c50 => ?_) (fun c50 => absurd (by rw [e] <;> decide) c50)
    refine g_iload (n := 138) hX dX8_row_136 rfl rfl ?_
    refine g_bipush (n := 140) (v := 7) hX dX8_row_138 rfl rfl ?_
    refine g_icmp_ne (n := 143) (tgt := 168) hX dX8_row_140 rfl (by decide) (fun c140 => absurd (by rw [e] <;> decide) c140) (fun c140 => ?_)
    refine g_aload_n (n := 144) hX dX8_row_143 rfl rfl rfl ?_
    refine g_callV0 (n := 147) (As := []) (rest := []) hX hE hU hY dX8_row_144 rfl yv_X8_words um_X8_207 (m_words _ _ K am A σ  (hr.le (by decide))) ⟨rfl, rfl⟩ (rm_le hRm rfl rfl) rfl (ci := 10) (q0 := 0) rfl rfl rfl rfl (Nat.le_of_ble_eq_true rfl) ⟨Nat.zero_le _, Nat.zero_le _⟩ (fun v0 w0 hq0 => ?_)
    obtain ⟨rfl, rfl⟩ := hq0
    show G Γ (mW K am A (ap σ bWords)) 0 0 147 [(9, .int (nI (bg pr f l2 (r)))), (8, .int ((pr r).2.2)), (7, .int ((pr r).2.1)), (6, .int ((pr r).1)), (5, .int (nI (60 * p + r))), (0, .ref am), (1, .int (nI p)), (2, .int (nI r)), (3, .int (nI f)), (4, .int (nI l2))] []
    have hr : Lo (ap σ bWords) 17 := hr.app (Nat.le_of_ble_eq_true rfl)
    refine g_aload_n (n := 148) hX dX8_row_147 rfl rfl rfl ?_
    refine g_iload (n := 150) hX dX8_row_148 rfl rfl ?_
    refine g_callV0 (n := 153) (As := [.int ((pr r).2.1)]) (rest := []) hX hE hU hY dX8_row_150 rfl yv_X8_load um_X8_217 (m_load _ _ K am A (ap σ bWords) ((pr r).2.1) (hr.le (by decide))) ⟨rfl, rfl⟩ (rm_le hRm rfl rfl) rfl (ci := 10) (q0 := 0) rfl rfl rfl rfl (Nat.le_of_ble_eq_true rfl) ⟨Nat.zero_le _, Nat.zero_le _⟩ (fun v0 w0 hq0 => ?_)
    obtain ⟨rfl, rfl⟩ := hq0
    show G Γ (mW K am A (ap (ap σ bWords) (bLoad ((pr r).2.1)))) 0 0 153 [(9, .int (nI (bg pr f l2 (r)))), (8, .int ((pr r).2.2)), (7, .int ((pr r).2.1)), (6, .int ((pr r).1)), (5, .int (nI (60 * p + r))), (0, .ref am), (1, .int (nI p)), (2, .int (nI r)), (3, .int (nI f)), (4, .int (nI l2))] []
    have hr : Lo (ap (ap σ bWords) (bLoad ((pr r).2.1))) 11 := hr.app (Nat.le_of_ble_eq_true rfl)
    refine g_aload_n (n := 154) hX dX8_row_153 rfl rfl rfl ?_
    refine g_iload (n := 156) hX dX8_row_154 rfl rfl ?_
    refine g_callV0 (n := 159) (As := [.int ((pr r).2.2)]) (rest := []) hX hE hU hY dX8_row_156 rfl yv_X8_load um_X8_217 (m_load _ _ K am A (ap (ap σ bWords) (bLoad ((pr r).2.1))) ((pr r).2.2) (hr.le (by decide))) ⟨rfl, rfl⟩ (rm_le hRm rfl rfl) rfl (ci := 10) (q0 := 0) rfl rfl rfl rfl (Nat.le_of_ble_eq_true rfl) ⟨Nat.zero_le _, Nat.zero_le _⟩ (fun v0 w0 hq0 => ?_)
    obtain ⟨rfl, rfl⟩ := hq0
    show G Γ (mW K am A (ap (ap (ap σ bWords) (bLoad ((pr r).2.1))) (bLoad ((pr r).2.2)))) 0 0 159 [(9, .int (nI (bg pr f l2 (r)))), (8, .int ((pr r).2.2)), (7, .int ((pr r).2.1)), (6, .int ((pr r).1)), (5, .int (nI (60 * p + r))), (0, .ref am), (1, .int (nI p)), (2, .int (nI r)), (3, .int (nI f)), (4, .int (nI l2))] []
    have hr : Lo (ap (ap (ap σ bWords) (bLoad ((pr r).2.1))) (bLoad ((pr r).2.2))) 5 := hr.app (Nat.le_of_ble_eq_true rfl)
    refine g_aload_n (n := 160) hX dX8_row_159 rfl rfl rfl ?_
    refine g_bipush (n := 162) (v := 84) hX dX8_row_160 rfl rfl ?_
    refine g_callV0 (n := 165) (As := [.int 84]) (rest := []) hX hE hU hY dX8_row_162 rfl yv_X8_u1 um_X8_138 (m_u1 _ _ K am A (ap (ap (ap σ bWords) (bLoad ((pr r).2.1))) (bLoad ((pr r).2.2))) 84 (hr.le (by decide))) ⟨rfl, rfl⟩ (rm_le hRm rfl rfl) rfl (ci := 10) (q0 := 0) rfl rfl rfl rfl (Nat.le_of_ble_eq_true rfl) ⟨Nat.zero_le _, Nat.zero_le _⟩ (fun v0 w0 hq0 => ?_)
    obtain ⟨rfl, rfl⟩ := hq0
    show G Γ (mW K am A (ap (ap (ap (ap σ bWords) (bLoad ((pr r).2.1))) (bLoad ((pr r).2.2))) ([84]))) 0 0 165 [(9, .int (nI (bg pr f l2 (r)))), (8, .int ((pr r).2.2)), (7, .int ((pr r).2.1)), (6, .int ((pr r).1)), (5, .int (nI (60 * p + r))), (0, .ref am), (1, .int (nI p)), (2, .int (nI r)), (3, .int (nI f)), (4, .int (nI l2))] []
    have hr : Lo (ap (ap (ap (ap σ bWords) (bLoad ((pr r).2.1))) (bLoad ((pr r).2.2))) ([84])) 4 := hr.app (Nat.le_of_ble_eq_true rfl)
    refine g_goto (n := 340) hX dX8_row_165 (by decide) ?_
    exact g_vret hX hR dX8_row_340 ⟨rfl, by rw [bRow, if_neg (by rw [e]; decide), if_neg (by rw [e]; decide), if_pos e] <;> simp only [ap_ap]⟩
  · refine g_bipush (n := 2) (v := 60) hX dX8_row_0 rfl rfl ?_
    refine g_iload_n (n := 3) hX dX8_row_2 rfl rfl rfl ?_
    refine g_imul (n := 4) (v := nI (60 * p)) hX dX8_row_3 rfl (pk_mul 60 p) ?_
    refine g_iload_n (n := 5) hX dX8_row_4 rfl rfl rfl ?_
    refine g_iadd (n := 6) (v := nI (60 * p + r)) hX dX8_row_5 rfl (nI_add _ _) ?_
    refine g_istore (lv' := [(5, .int (nI (60 * p + r))), (0, .ref am), (1, .int (nI p)), (2, .int (nI r)), (3, .int (nI f)), (4, .int (nI l2))]) (n := 8) hX dX8_row_6 rfl (by rw [hnL]; rfl) rfl ?_
    refine g_aload_n (n := 9) hX dX8_row_8 rfl rfl rfl ?_
    refine g_mget (n := 12) 6 (v := .ref (A 2)) hX hU dX8_row_9 rfl uf_X8_16 rfl rfl rfl ?_
    refine g_iload (n := 14) hX dX8_row_12 rfl rfl ?_
    refine g_mild (n := 15) 2 (v := (pr r).1) hX hY dX8_row_14 rfl rfl rfl (vp_in_nI (show 60 * p + r < mN 2 by show 60 * p + r < 793; omega) (by decide)) (by rw [nI_clamp (by omega), ← hpr]; rfl) ?_
    refine g_istore (lv' := [(6, .int ((pr r).1)), (5, .int (nI (60 * p + r))), (0, .ref am), (1, .int (nI p)), (2, .int (nI r)), (3, .int (nI f)), (4, .int (nI l2))]) (n := 17) hX dX8_row_15 rfl (by rw [hnL]; rfl) rfl ?_
    refine g_aload_n (n := 18) hX dX8_row_17 rfl rfl rfl ?_
    refine g_mget (n := 21) 7 (v := .ref (A 3)) hX hU dX8_row_18 rfl uf_X8_19 rfl rfl rfl ?_
    refine g_iload (n := 23) hX dX8_row_21 rfl rfl ?_
    refine g_mild (n := 24) 3 (v := (pr r).2.1) hX hY dX8_row_23 rfl rfl rfl (vp_in_nI (show 60 * p + r < mN 3 by show 60 * p + r < 793; omega) (by decide)) (by rw [nI_clamp (by omega), ← hpr]; rfl) ?_
    refine g_istore (lv' := [(7, .int ((pr r).2.1)), (6, .int ((pr r).1)), (5, .int (nI (60 * p + r))), (0, .ref am), (1, .int (nI p)), (2, .int (nI r)), (3, .int (nI f)), (4, .int (nI l2))]) (n := 26) hX dX8_row_24 rfl (by rw [hnL]; rfl) rfl ?_
    refine g_aload_n (n := 27) hX dX8_row_26 rfl rfl rfl ?_
    refine g_mget (n := 30) 8 (v := .ref (A 4)) hX hU dX8_row_27 rfl uf_X8_22 rfl rfl rfl ?_
    refine g_iload (n := 32) hX dX8_row_30 rfl rfl ?_
    refine g_mild (n := 33) 4 (v := (pr r).2.2) hX hY dX8_row_32 rfl rfl rfl (vp_in_nI (show 60 * p + r < mN 4 by show 60 * p + r < 793; omega) (by decide)) (by rw [nI_clamp (by omega), ← hpr]; rfl) ?_
    refine g_istore (lv' := [(8, .int ((pr r).2.2)), (7, .int ((pr r).2.1)), (6, .int ((pr r).1)), (5, .int (nI (60 * p + r))), (0, .ref am), (1, .int (nI p)), (2, .int (nI r)), (3, .int (nI f)), (4, .int (nI l2))]) (n := 35) hX dX8_row_33 rfl (by rw [hnL]; rfl) rfl ?_
    refine g_aload_n (n := 36) hX dX8_row_35 rfl rfl rfl ?_
    refine g_iload_n (n := 37) hX dX8_row_36 rfl rfl rfl ?_
    refine g_iload_n (n := 38) hX dX8_row_37 rfl rfl rfl ?_
    refine g_iload_n (n := 39) hX dX8_row_38 rfl rfl rfl ?_
    refine g_iload (n := 41) hX dX8_row_39 rfl rfl ?_
    refine g_callV0 (n := 44) (As := [.int (nI p), .int (nI r), .int (nI f), .int (nI l2)]) (rest := []) hX hE hU hY dX8_row_41 rfl yv_X8_begins um_X8_213 (mr_begins _ _ K am A σ pr p (r) f l2 hpr hp h1 hr1 (by omega) h4 h5 ho) ⟨rfl, rfl⟩ (rm_le hRm rfl rfl) rfl (ci := 10) (q0 := 0) rfl rfl rfl rfl (Nat.le_of_ble_eq_true rfl) ⟨Nat.zero_le _, Nat.zero_le _⟩ (fun v0 w0 hq0 => ?_)
    obtain ⟨rfl, rfl⟩ := hq0
    show G Γ (mW K am A σ) 0 0 44 [(8, .int ((pr r).2.2)), (7, .int ((pr r).2.1)), (6, .int ((pr r).1)), (5, .int (nI (60 * p + r))), (0, .ref am), (1, .int (nI p)), (2, .int (nI r)), (3, .int (nI f)), (4, .int (nI l2))] [.int (nI (bg pr f l2 (r)))]
    refine g_istore (lv' := [(9, .int (nI (bg pr f l2 (r)))), (8, .int ((pr r).2.2)), (7, .int ((pr r).2.1)), (6, .int ((pr r).1)), (5, .int (nI (60 * p + r))), (0, .ref am), (1, .int (nI p)), (2, .int (nI r)), (3, .int (nI f)), (4, .int (nI l2))]) (n := 46) hX dX8_row_44 rfl (by rw [hnL]; rfl) rfl ?_
    refine g_iload (n := 48) hX dX8_row_46 rfl rfl ?_
    refine g_bipush (n := 50) (v := 7) hX dX8_row_48 rfl rfl ?_
    refine g_icmp_ge (n := 53) (tgt := 136) hX dX8_row_50 rfl (by decide) (fun c50 => ?_) (fun c50 => absurd (by rw [e] <;> decide) c50)
    refine g_iload (n := 138) hX dX8_row_136 rfl rfl ?_
    refine g_bipush (n := 140) (v := 7) hX dX8_row_138 rfl rfl ?_
    refine g_icmp_ne (n := 143) (tgt := 168) hX dX8_row_140 rfl (by decide) (fun c140 => ?_) (fun c140 => absurd c140 (by rw [e] <;> decide))
    refine g_iload (n := 170) hX dX8_row_168 rfl rfl ?_
    refine g_bipush (n := 172) (v := 8) hX dX8_row_170 rfl rfl ?_
    refine g_icmp_ne (n := 175) (tgt := 221) hX dX8_row_172 rfl (by decide) (fun c172 => absurd (by rw [e] <;> decide) c172) (fun c172 => ?_)
    refine g_aload_n (n := 176) hX dX8_row_175 rfl rfl rfl ?_
    refine g_iload (n := 178) hX dX8_row_176 rfl rfl ?_
    refine g_callV0 (n := 181) (As := [.int ((pr r).2.1)]) (rest := []) hX hE hU hY dX8_row_178 rfl yv_X8_load um_X8_217 (m_load _ _ K am A σ ((pr r).2.1) (hr.le (by decide))) ⟨rfl, rfl⟩ (rm_le hRm rfl rfl) rfl (ci := 10) (q0 := 0) rfl rfl rfl rfl (Nat.le_of_ble_eq_true rfl) ⟨Nat.zero_le _, Nat.zero_le _⟩ (fun v0 w0 hq0 => ?_)
    obtain ⟨rfl, rfl⟩ := hq0
    show G Γ (mW K am A (ap σ (bLoad ((pr r).2.1)))) 0 0 181 [(9, .int (nI (bg pr f l2 (r)))), (8, .int ((pr r).2.2)), (7, .int ((pr r).2.1)), (6, .int ((pr r).1)), (5, .int (nI (60 * p + r))), (0, .ref am), (1, .int (nI p)), (2, .int (nI r)), (3, .int (nI f)), (4, .int (nI l2))] []
    have hr : Lo (ap σ (bLoad ((pr r).2.1))) 14 := hr.app (Nat.le_of_ble_eq_true rfl)
    refine g_aload_n (n := 182) hX dX8_row_181 rfl rfl rfl ?_
    refine g_sipush (n := 185) (v := 154) hX dX8_row_182 rfl rfl ?_
    refine g_callV0 (n := 188) (As := [.int 154]) (rest := []) hX hE hU hY dX8_row_185 rfl yv_X8_u1 um_X8_138 (m_u1 _ _ K am A (ap σ (bLoad ((pr r).2.1))) 154 (hr.le (by decide))) ⟨rfl, rfl⟩ (rm_le hRm rfl rfl) rfl (ci := 10) (q0 := 0) rfl rfl rfl rfl (Nat.le_of_ble_eq_true rfl) ⟨Nat.zero_le _, Nat.zero_le _⟩ (fun v0 w0 hq0 => ?_)
    obtain ⟨rfl, rfl⟩ := hq0
    show G Γ (mW K am A (ap (ap σ (bLoad ((pr r).2.1))) ([154]))) 0 0 188 [(9, .int (nI (bg pr f l2 (r)))), (8, .int ((pr r).2.2)), (7, .int ((pr r).2.1)), (6, .int ((pr r).1)), (5, .int (nI (60 * p + r))), (0, .ref am), (1, .int (nI p)), (2, .int (nI r)), (3, .int (nI f)), (4, .int (nI l2))] []
    have hr : Lo (ap (ap σ (bLoad ((pr r).2.1))) ([154])) 13 := hr.app (Nat.le_of_ble_eq_true rfl)
    refine g_aload_n (n := 189) hX dX8_row_188 rfl rfl rfl ?_
    refine g_iconst (n := 190) (v := 3) hX dX8_row_189 rfl rfl ?_
    refine g_aload_n (n := 191) hX dX8_row_190 rfl rfl rfl ?_
    refine g_iload (n := 193) hX dX8_row_191 rfl rfl ?_
    refine g_iload_n (n := 194) hX dX8_row_193 rfl rfl rfl ?_
    refine g_iload (n := 196) hX dX8_row_194 rfl rfl ?_
    refine g_callV0 (n := 199) (As := [.int ((pr r).2.2), .int (nI f), .int (nI l2)]) (rest := [.int 3, .ref am]) hX hE hU hY dX8_row_196 rfl yv_X8_going um_X8_200 (m_going _ _ K am A (ap (ap σ (bLoad ((pr r).2.1))) ([154])) ((pr r).2.2) (nI f) (nI l2)) ⟨rfl, rfl⟩ (rm_le hRm rfl rfl) rfl (ci := 10) (q0 := 0) rfl rfl rfl rfl (Nat.le_of_ble_eq_true rfl) ⟨Nat.zero_le _, Nat.zero_le _⟩ (fun v0 w0 hq0 => ?_)
    obtain ⟨rfl, rfl⟩ := hq0
    show G Γ (mW K am A (ap (ap σ (bLoad ((pr r).2.1))) ([154]))) 0 0 199 [(9, .int (nI (bg pr f l2 (r)))), (8, .int ((pr r).2.2)), (7, .int ((pr r).2.1)), (6, .int ((pr r).1)), (5, .int (nI (60 * p + r))), (0, .ref am), (1, .int (nI p)), (2, .int (nI r)), (3, .int (nI f)), (4, .int (nI l2))] [.int (nI (goN ((pr r).2.2) (nI f) (nI l2))), .int 3, .ref am]
    refine g_iadd (n := 200) (v := nI (3 + goN (pr r).2.2 (nI f) (nI l2))) hX dX8_row_199 rfl (nI_add 3 _) ?_
    refine g_callV0 (n := 203) (As := [.int (nI (3 + goN (pr r).2.2 (nI f) (nI l2)))]) (rest := []) hX hE hU hY dX8_row_200 rfl yv_X8_u2 um_X8_142 (m_u2 _ _ K am A (ap (ap σ (bLoad ((pr r).2.1))) ([154])) (nI (3 + goN (pr r).2.2 (nI f) (nI l2))) (hr.le (by decide))) ⟨rfl, rfl⟩ (rm_le hRm rfl rfl) rfl (ci := 10) (q0 := 0) rfl rfl rfl rfl (Nat.le_of_ble_eq_true rfl) ⟨Nat.zero_le _, Nat.zero_le _⟩ (fun v0 w0 hq0 => ?_)
    obtain ⟨rfl, rfl⟩ := hq0
    show G Γ (mW K am A (ap (ap (ap σ (bLoad ((pr r).2.1))) ([154])) (b2 (nI (3 + goN (pr r).2.2 (nI f) (nI l2)))))) 0 0 203 [(9, .int (nI (bg pr f l2 (r)))), (8, .int ((pr r).2.2)), (7, .int ((pr r).2.1)), (6, .int ((pr r).1)), (5, .int (nI (60 * p + r))), (0, .ref am), (1, .int (nI p)), (2, .int (nI r)), (3, .int (nI f)), (4, .int (nI l2))] []
    have hr : Lo (ap (ap (ap σ (bLoad ((pr r).2.1))) ([154])) (b2 (nI (3 + goN (pr r).2.2 (nI f) (nI l2))))) 11 := hr.app (Nat.le_of_ble_eq_true rfl)
    refine g_aload_n (n := 204) hX dX8_row_203 rfl rfl rfl ?_
    refine g_iload_n (n := 205) hX dX8_row_204 rfl rfl rfl ?_
    refine g_iload (n := 207) hX dX8_row_205 rfl rfl ?_
    refine g_iload_n (n := 208) hX dX8_row_207 rfl rfl rfl ?_
    refine g_iload (n := 210) hX dX8_row_208 rfl rfl ?_
    refine g_iload (n := 212) hX dX8_row_210 rfl rfl ?_
    refine g_bipush (n := 214) (v := 9) hX dX8_row_212 rfl rfl ?_
    refine g_iadd (n := 215) (v := nI (bg pr f l2 r + 9)) hX dX8_row_214 rfl (nI_add _ 9) ?_
    refine g_callV0 (n := 218) (As := [.int (nI p), .int ((pr r).2.2), .int (nI f), .int (nI l2), .int (nI (bg pr f l2 r + 9))]) (rest := []) hX hE hU hY dX8_row_215 rfl yv_X8_goes um_X8_220 (m_goes _ _ K am A (ap (ap (ap σ (bLoad ((pr r).2.1))) ([154])) (b2 (nI (3 + goN (pr r).2.2 (nI f) (nI l2))))) pr p f l2 (bg pr f l2 r + 9) ((pr r).2.2) (by simp only [prO_ap]; exact hpr) hp h1 h4 h5 ho (hr.le (by decide))) ⟨rfl, rfl⟩ (rm_le hRm rfl rfl) rfl (ci := 10) (q0 := 0) rfl rfl rfl rfl (Nat.le_of_ble_eq_true rfl) ⟨Nat.zero_le _, Nat.zero_le _⟩ (fun v0 w0 hq0 => ?_)
    obtain ⟨rfl, rfl⟩ := hq0
    show G Γ (mW K am A (ap (ap (ap (ap σ (bLoad ((pr r).2.1))) ([154])) (b2 (nI (3 + goN (pr r).2.2 (nI f) (nI l2))))) (bGo pr f l2 ((pr r).2.2) (bg pr f l2 r + 9)))) 0 0 218 [(9, .int (nI (bg pr f l2 (r)))), (8, .int ((pr r).2.2)), (7, .int ((pr r).2.1)), (6, .int ((pr r).1)), (5, .int (nI (60 * p + r))), (0, .ref am), (1, .int (nI p)), (2, .int (nI r)), (3, .int (nI f)), (4, .int (nI l2))] []
    refine g_goto (n := 340) hX dX8_row_218 (by decide) ?_
    exact g_vret hX hR dX8_row_340 ⟨rfl, by rw [bRow, if_neg (by rw [e]; decide), if_neg (by rw [e]; decide), if_neg (by rw [e]; decide), if_pos e] <;> simp only [ap_ap]⟩
  · refine g_bipush (n := 2) (v := 60) hX dX8_row_0 rfl rfl ?_
    refine g_iload_n (n := 3) hX dX8_row_2 rfl rfl rfl ?_
    refine g_imul (n := 4) (v := nI (60 * p)) hX dX8_row_3 rfl (pk_mul 60 p) ?_
    refine g_iload_n (n := 5) hX dX8_row_4 rfl rfl rfl ?_
    refine g_iadd (n := 6) (v := nI (60 * p + r)) hX dX8_row_5 rfl (nI_add _ _) ?_
    refine g_istore (lv' := [(5, .int (nI (60 * p + r))), (0, .ref am), (1, .int (nI p)), (2, .int (nI r)), (3, .int (nI f)), (4, .int (nI l2))]) (n := 8) hX dX8_row_6 rfl (by rw [hnL]; rfl) rfl ?_
    refine g_aload_n (n := 9) hX dX8_row_8 rfl rfl rfl ?_
    refine g_mget (n := 12) 6 (v := .ref (A 2)) hX hU dX8_row_9 rfl uf_X8_16 rfl rfl rfl ?_
    refine g_iload (n := 14) hX dX8_row_12 rfl rfl ?_
    refine g_mild (n := 15) 2 (v := (pr r).1) hX hY dX8_row_14 rfl rfl rfl (vp_in_nI (show 60 * p + r < mN 2 by show 60 * p + r < 793; omega) (by decide)) (by rw [nI_clamp (by omega), ← hpr]; rfl) ?_
    refine g_istore (lv' := [(6, .int ((pr r).1)), (5, .int (nI (60 * p + r))), (0, .ref am), (1, .int (nI p)), (2, .int (nI r)), (3, .int (nI f)), (4, .int (nI l2))]) (n := 17) hX dX8_row_15 rfl (by rw [hnL]; rfl) rfl ?_
    refine g_aload_n (n := 18) hX dX8_row_17 rfl rfl rfl ?_
    refine g_mget (n := 21) 7 (v := .ref (A 3)) hX hU dX8_row_18 rfl uf_X8_19 rfl rfl rfl ?_
    refine g_iload (n := 23) hX dX8_row_21 rfl rfl ?_
    refine g_mild (n := 24) 3 (v := (pr r).2.1) hX hY dX8_row_23 rfl rfl rfl (vp_in_nI (show 60 * p + r < mN 3 by show 60 * p + r < 793; omega) (by decide)) (by rw [nI_clamp (by omega), ← hpr]; rfl) ?_
    refine g_istore (lv' := [(7, .int ((pr r).2.1)), (6, .int ((pr r).1)), (5, .int (nI (60 * p + r))), (0, .ref am), (1, .int (nI p)), (2, .int (nI r)), (3, .int (nI f)), (4, .int (nI l2))]) (n := 26) hX dX8_row_24 rfl (by rw [hnL]; rfl) rfl ?_
    refine g_aload_n (n := 27) hX dX8_row_26 rfl rfl rfl ?_
    refine g_mget (n := 30) 8 (v := .ref (A 4)) hX hU dX8_row_27 rfl uf_X8_22 rfl rfl rfl ?_
    refine g_iload (n := 32) hX dX8_row_30 rfl rfl ?_
    refine g_mild (n := 33) 4 (v := (pr r).2.2) hX hY dX8_row_32 rfl rfl rfl (vp_in_nI (show 60 * p + r < mN 4 by show 60 * p + r < 793; omega) (by decide)) (by rw [nI_clamp (by omega), ← hpr]; rfl) ?_
    refine g_istore (lv' := [(8, .int ((pr r).2.2)), (7, .int ((pr r).2.1)), (6, .int ((pr r).1)), (5, .int (nI (60 * p + r))), (0, .ref am), (1, .int (nI p)), (2, .int (nI r)), (3, .int (nI f)), (4, .int (nI l2))]) (n := 35) hX dX8_row_33 rfl (by rw [hnL]; rfl) rfl ?_
    refine g_aload_n (n := 36) hX dX8_row_35 rfl rfl rfl ?_
    refine g_iload_n (n := 37) hX dX8_row_36 rfl rfl rfl ?_
    refine g_iload_n (n := 38) hX dX8_row_37 rfl rfl rfl ?_
    refine g_iload_n (n := 39) hX dX8_row_38 rfl rfl rfl ?_
    refine g_iload (n := 41) hX dX8_row_39 rfl rfl ?_
    refine g_callV0 (n := 44) (As := [.int (nI p), .int (nI r), .int (nI f), .int (nI l2)]) (rest := []) hX hE hU hY dX8_row_41 rfl yv_X8_begins um_X8_213 (mr_begins _ _ K am A σ pr p (r) f l2 hpr hp h1 hr1 (by omega) h4 h5 ho) ⟨rfl, rfl⟩ (rm_le hRm rfl rfl) rfl (ci := 10) (q0 := 0) rfl rfl rfl rfl (Nat.le_of_ble_eq_true rfl) ⟨Nat.zero_le _, Nat.zero_le _⟩ (fun v0 w0 hq0 => ?_)
    obtain ⟨rfl, rfl⟩ := hq0
    show G Γ (mW K am A σ) 0 0 44 [(8, .int ((pr r).2.2)), (7, .int ((pr r).2.1)), (6, .int ((pr r).1)), (5, .int (nI (60 * p + r))), (0, .ref am), (1, .int (nI p)), (2, .int (nI r)), (3, .int (nI f)), (4, .int (nI l2))] [.int (nI (bg pr f l2 (r)))]
    refine g_istore (lv' := [(9, .int (nI (bg pr f l2 (r)))), (8, .int ((pr r).2.2)), (7, .int ((pr r).2.1)), (6, .int ((pr r).1)), (5, .int (nI (60 * p + r))), (0, .ref am), (1, .int (nI p)), (2, .int (nI r)), (3, .int (nI f)), (4, .int (nI l2))]) (n := 46) hX dX8_row_44 rfl (by rw [hnL]; rfl) rfl ?_
    refine g_iload (n := 48) hX dX8_row_46 rfl rfl ?_
    refine g_bipush (n := 50) (v := 7) hX dX8_row_48 rfl rfl ?_
    refine g_icmp_ge (n := 53) (tgt := 136) hX dX8_row_50 rfl (by decide) (fun c50 => ?_) (fun c50 => absurd (by rw [e] <;> decide) c50)
    refine g_iload (n := 138) hX dX8_row_136 rfl rfl ?_
    refine g_bipush (n := 140) (v := 7) hX dX8_row_138 rfl rfl ?_
    refine g_icmp_ne (n := 143) (tgt := 168) hX dX8_row_140 rfl (by decide) (fun c140 => ?_) (fun c140 => absurd c140 (by rw [e] <;> decide))
    refine g_iload (n := 170) hX dX8_row_168 rfl rfl ?_
    refine g_bipush (n := 172) (v := 8) hX dX8_row_170 rfl rfl ?_
    refine g_icmp_ne (n := 175) (tgt := 221) hX dX8_row_172 rfl (by decide) (fun c172 => ?_) (fun c172 => absurd c172 (by rw [e] <;> decide))
    refine g_iload (n := 223) hX dX8_row_221 rfl rfl ?_
    refine g_bipush (n := 225) (v := 9) hX dX8_row_223 rfl rfl ?_
    refine g_icmp_ne (n := 228) (tgt := 243) hX dX8_row_225 rfl (by decide) (fun c225 => absurd (by rw [e] <;> decide) c225) (fun c225 => ?_)
    refine g_aload_n (n := 229) hX dX8_row_228 rfl rfl rfl ?_
    refine g_iload_n (n := 230) hX dX8_row_229 rfl rfl rfl ?_
    refine g_iload (n := 232) hX dX8_row_230 rfl rfl ?_
    refine g_iload_n (n := 233) hX dX8_row_232 rfl rfl rfl ?_
    refine g_iload (n := 235) hX dX8_row_233 rfl rfl ?_
    refine g_iload (n := 237) hX dX8_row_235 rfl rfl ?_
    refine g_callV0 (n := 240) (As := [.int (nI p), .int ((pr r).2.2), .int (nI f), .int (nI l2), .int (nI (bg pr f l2 (r)))]) (rest := []) hX hE hU hY dX8_row_237 rfl yv_X8_goes um_X8_220 (m_goes _ _ K am A σ pr p f l2 (bg pr f l2 r) ((pr r).2.2) hpr hp h1 h4 h5 ho (hr.le (by decide))) ⟨rfl, rfl⟩ (rm_le hRm rfl rfl) rfl (ci := 10) (q0 := 0) rfl rfl rfl rfl (Nat.le_of_ble_eq_true rfl) ⟨Nat.zero_le _, Nat.zero_le _⟩ (fun v0 w0 hq0 => ?_)
    obtain ⟨rfl, rfl⟩ := hq0
    show G Γ (mW K am A (ap σ (bGo pr f l2 ((pr r).2.2) (bg pr f l2 r)))) 0 0 240 [(9, .int (nI (bg pr f l2 (r)))), (8, .int ((pr r).2.2)), (7, .int ((pr r).2.1)), (6, .int ((pr r).1)), (5, .int (nI (60 * p + r))), (0, .ref am), (1, .int (nI p)), (2, .int (nI r)), (3, .int (nI f)), (4, .int (nI l2))] []
    refine g_goto (n := 340) hX dX8_row_240 (by decide) ?_
    exact g_vret hX hR dX8_row_340 ⟨rfl, by rw [bRow, if_neg (by rw [e]; decide), if_neg (by rw [e]; decide), if_neg (by rw [e]; decide), if_neg (by rw [e]; decide), if_pos e] <;> simp only [ap_ap]⟩
  · refine g_bipush (n := 2) (v := 60) hX dX8_row_0 rfl rfl ?_
    refine g_iload_n (n := 3) hX dX8_row_2 rfl rfl rfl ?_
    refine g_imul (n := 4) (v := nI (60 * p)) hX dX8_row_3 rfl (pk_mul 60 p) ?_
    refine g_iload_n (n := 5) hX dX8_row_4 rfl rfl rfl ?_
    refine g_iadd (n := 6) (v := nI (60 * p + r)) hX dX8_row_5 rfl (nI_add _ _) ?_
    refine g_istore (lv' := [(5, .int (nI (60 * p + r))), (0, .ref am), (1, .int (nI p)), (2, .int (nI r)), (3, .int (nI f)), (4, .int (nI l2))]) (n := 8) hX dX8_row_6 rfl (by rw [hnL]; rfl) rfl ?_
    refine g_aload_n (n := 9) hX dX8_row_8 rfl rfl rfl ?_
    refine g_mget (n := 12) 6 (v := .ref (A 2)) hX hU dX8_row_9 rfl uf_X8_16 rfl rfl rfl ?_
    refine g_iload (n := 14) hX dX8_row_12 rfl rfl ?_
    refine g_mild (n := 15) 2 (v := (pr r).1) hX hY dX8_row_14 rfl rfl rfl (vp_in_nI (show 60 * p + r < mN 2 by show 60 * p + r < 793; omega) (by decide)) (by rw [nI_clamp (by omega), ← hpr]; rfl) ?_
    refine g_istore (lv' := [(6, .int ((pr r).1)), (5, .int (nI (60 * p + r))), (0, .ref am), (1, .int (nI p)), (2, .int (nI r)), (3, .int (nI f)), (4, .int (nI l2))]) (n := 17) hX dX8_row_15 rfl (by rw [hnL]; rfl) rfl ?_
    refine g_aload_n (n := 18) hX dX8_row_17 rfl rfl rfl ?_
    refine g_mget (n := 21) 7 (v := .ref (A 3)) hX hU dX8_row_18 rfl uf_X8_19 rfl rfl rfl ?_
    refine g_iload (n := 23) hX dX8_row_21 rfl rfl ?_
    refine g_mild (n := 24) 3 (v := (pr r).2.1) hX hY dX8_row_23 rfl rfl rfl (vp_in_nI (show 60 * p + r < mN 3 by show 60 * p + r < 793; omega) (by decide)) (by rw [nI_clamp (by omega), ← hpr]; rfl) ?_
    refine g_istore (lv' := [(7, .int ((pr r).2.1)), (6, .int ((pr r).1)), (5, .int (nI (60 * p + r))), (0, .ref am), (1, .int (nI p)), (2, .int (nI r)), (3, .int (nI f)), (4, .int (nI l2))]) (n := 26) hX dX8_row_24 rfl (by rw [hnL]; rfl) rfl ?_
    refine g_aload_n (n := 27) hX dX8_row_26 rfl rfl rfl ?_
    refine g_mget (n := 30) 8 (v := .ref (A 4)) hX hU dX8_row_27 rfl uf_X8_22 rfl rfl rfl ?_
    refine g_iload (n := 32) hX dX8_row_30 rfl rfl ?_
    refine g_mild (n := 33) 4 (v := (pr r).2.2) hX hY dX8_row_32 rfl rfl rfl (vp_in_nI (show 60 * p + r < mN 4 by show 60 * p + r < 793; omega) (by decide)) (by rw [nI_clamp (by omega), ← hpr]; rfl) ?_
    refine g_istore (lv' := [(8, .int ((pr r).2.2)), (7, .int ((pr r).2.1)), (6, .int ((pr r).1)), (5, .int (nI (60 * p + r))), (0, .ref am), (1, .int (nI p)), (2, .int (nI r)), (3, .int (nI f)), (4, .int (nI l2))]) (n := 35) hX dX8_row_33 rfl (by rw [hnL]; rfl) rfl ?_
    refine g_aload_n (n := 36) hX dX8_row_35 rfl rfl rfl ?_
    refine g_iload_n (n := 37) hX dX8_row_36 rfl rfl rfl ?_
    refine g_iload_n (n := 38) hX dX8_row_37 rfl rfl rfl ?_
    refine g_iload_n (n := 39) hX dX8_row_38 rfl rfl rfl ?_
    refine g_iload (n := 41) hX dX8_row_39 rfl rfl ?_
    refine g_callV0 (n := 44) (As := [.int (nI p), .int (nI r), .int (nI f), .int (nI l2)]) (rest := []) hX hE hU hY dX8_row_41 rfl yv_X8_begins um_X8_213 (mr_begins _ _ K am A σ pr p (r) f l2 hpr hp h1 hr1 (by omega) h4 h5 ho) ⟨rfl, rfl⟩ (rm_le hRm rfl rfl) rfl (ci := 10) (q0 := 0) rfl rfl rfl rfl (Nat.le_of_ble_eq_true rfl) ⟨Nat.zero_le _, Nat.zero_le _⟩ (fun v0 w0 hq0 => ?_)
    obtain ⟨rfl, rfl⟩ := hq0
    show G Γ (mW K am A σ) 0 0 44 [(8, .int ((pr r).2.2)), (7, .int ((pr r).2.1)), (6, .int ((pr r).1)), (5, .int (nI (60 * p + r))), (0, .ref am), (1, .int (nI p)), (2, .int (nI r)), (3, .int (nI f)), (4, .int (nI l2))] [.int (nI (bg pr f l2 (r)))]
    refine g_istore (lv' := [(9, .int (nI (bg pr f l2 (r)))), (8, .int ((pr r).2.2)), (7, .int ((pr r).2.1)), (6, .int ((pr r).1)), (5, .int (nI (60 * p + r))), (0, .ref am), (1, .int (nI p)), (2, .int (nI r)), (3, .int (nI f)), (4, .int (nI l2))]) (n := 46) hX dX8_row_44 rfl (by rw [hnL]; rfl) rfl ?_
    refine g_iload (n := 48) hX dX8_row_46 rfl rfl ?_
    refine g_bipush (n := 50) (v := 7) hX dX8_row_48 rfl rfl ?_
    refine g_icmp_ge (n := 53) (tgt := 136) hX dX8_row_50 rfl (by decide) (fun c50 => ?_) (fun c50 => absurd (by rw [e] <;> decide) c50)
    refine g_iload (n := 138) hX dX8_row_136 rfl rfl ?_
    refine g_bipush (n := 140) (v := 7) hX dX8_row_138 rfl rfl ?_
    refine g_icmp_ne (n := 143) (tgt := 168) hX dX8_row_140 rfl (by decide) (fun c140 => ?_) (fun c140 => absurd c140 (by rw [e] <;> decide))
    refine g_iload (n := 170) hX dX8_row_168 rfl rfl ?_
    refine g_bipush (n := 172) (v := 8) hX dX8_row_170 rfl rfl ?_
    refine g_icmp_ne (n := 175) (tgt := 221) hX dX8_row_172 rfl (by decide) (fun c172 => ?_) (fun c172 => absurd c172 (by rw [e] <;> decide))
    refine g_iload (n := 223) hX dX8_row_221 rfl rfl ?_
    refine g_bipush (n := 225) (v := 9) hX dX8_row_223 rfl rfl ?_
    refine g_icmp_ne (n := 228) (tgt := 243) hX dX8_row_225 rfl (by decide) (fun c225 => ?_) (fun c225 => absurd c225 (by rw [e] <;> decide))
    refine g_iload (n := 245) hX dX8_row_243 rfl rfl ?_
    refine g_bipush (n := 247) (v := 13) hX dX8_row_245 rfl rfl ?_
    refine g_icmp_ge (n := 250) (tgt := 296) hX dX8_row_247 rfl (by decide) (fun c247 => absurd c247 (by rw [e] <;> decide)) (fun c247 => ?_)
    refine g_aload_n (n := 251) hX dX8_row_250 rfl rfl rfl ?_
    refine g_iload (n := 253) hX dX8_row_251 rfl rfl ?_
    refine g_callV0 (n := 256) (As := [.int ((pr r).2.1)]) (rest := []) hX hE hU hY dX8_row_253 rfl yv_X8_push um_X8_210 (m_push _ _ K am A σ ((pr r).2.1) (hr.le (by decide))) ⟨rfl, rfl⟩ (rm_le hRm rfl rfl) rfl (ci := 10) (q0 := 0) rfl rfl rfl rfl (Nat.le_of_ble_eq_true rfl) ⟨Nat.zero_le _, Nat.zero_le _⟩ (fun v0 w0 hq0 => ?_)
    obtain ⟨rfl, rfl⟩ := hq0
    show G Γ (mW K am A (ap σ (bPush ((pr r).2.1)))) 0 0 256 [(9, .int (nI (bg pr f l2 (r)))), (8, .int ((pr r).2.2)), (7, .int ((pr r).2.1)), (6, .int ((pr r).1)), (5, .int (nI (60 * p + r))), (0, .ref am), (1, .int (nI p)), (2, .int (nI r)), (3, .int (nI f)), (4, .int (nI l2))] []
    have hr : Lo (ap σ (bPush ((pr r).2.1))) 18 := hr.app (Nat.le_of_ble_eq_true rfl)
    refine g_aload_n (n := 257) hX dX8_row_256 rfl rfl rfl ?_
    refine g_sipush (n := 260) (v := 184) hX dX8_row_257 rfl rfl ?_
    refine g_callV0 (n := 263) (As := [.int 184]) (rest := []) hX hE hU hY dX8_row_260 rfl yv_X8_u1 um_X8_138 (m_u1 _ _ K am A (ap σ (bPush ((pr r).2.1))) 184 (hr.le (by decide))) ⟨rfl, rfl⟩ (rm_le hRm rfl rfl) rfl (ci := 10) (q0 := 0) rfl rfl rfl rfl (Nat.le_of_ble_eq_true rfl) ⟨Nat.zero_le _, Nat.zero_le _⟩ (fun v0 w0 hq0 => ?_)
    obtain ⟨rfl, rfl⟩ := hq0
    show G Γ (mW K am A (ap (ap σ (bPush ((pr r).2.1))) ([184]))) 0 0 263 [(9, .int (nI (bg pr f l2 (r)))), (8, .int ((pr r).2.2)), (7, .int ((pr r).2.1)), (6, .int ((pr r).1)), (5, .int (nI (60 * p + r))), (0, .ref am), (1, .int (nI p)), (2, .int (nI r)), (3, .int (nI f)), (4, .int (nI l2))] []
    have hr : Lo (ap (ap σ (bPush ((pr r).2.1))) ([184])) 17 := hr.app (Nat.le_of_ble_eq_true rfl)
    refine g_aload_n (n := 264) hX dX8_row_263 rfl rfl rfl ?_
    refine g_iload (n := 266) hX dX8_row_264 rfl rfl ?_
    refine g_bipush (n := 268) (v := 10) hX dX8_row_266 rfl rfl ?_
    refine g_icmp_ne (n := 271) (tgt := 276) hX dX8_row_268 rfl (by decide) (fun c268 => absurd (by rw [e] <;> decide) c268) (fun c268 => ?_)
    refine g_bipush (n := 273) (v := 14) hX dX8_row_271 rfl rfl ?_
    refine g_goto (n := 290) hX dX8_row_273 (by decide) ?_
    refine g_callV0 (n := 293) (As := [.int 14]) (rest := []) hX hE hU hY dX8_row_290 rfl yv_X8_u2 um_X8_142 (m_u2 _ _ K am A (ap (ap σ (bPush ((pr r).2.1))) ([184])) 14 (hr.le (by decide))) ⟨rfl, rfl⟩ (rm_le hRm rfl rfl) rfl (ci := 10) (q0 := 0) rfl rfl rfl rfl (Nat.le_of_ble_eq_true rfl) ⟨Nat.zero_le _, Nat.zero_le _⟩ (fun v0 w0 hq0 => ?_)
    obtain ⟨rfl, rfl⟩ := hq0
    show G Γ (mW K am A (ap (ap (ap σ (bPush ((pr r).2.1))) ([184])) (b2 14))) 0 0 293 [(9, .int (nI (bg pr f l2 (r)))), (8, .int ((pr r).2.2)), (7, .int ((pr r).2.1)), (6, .int ((pr r).1)), (5, .int (nI (60 * p + r))), (0, .ref am), (1, .int (nI p)), (2, .int (nI r)), (3, .int (nI f)), (4, .int (nI l2))] []
    have hr : Lo (ap (ap (ap σ (bPush ((pr r).2.1))) ([184])) (b2 14)) 15 := hr.app (Nat.le_of_ble_eq_true rfl)
    refine g_goto (n := 340) hX dX8_row_293 (by decide) ?_
    exact g_vret hX hR dX8_row_340 ⟨rfl, by rw [bRow, if_neg (by rw [e]; decide), if_neg (by rw [e]; decide), if_neg (by rw [e]; decide), if_neg (by rw [e]; decide), if_neg (by rw [e]; decide), if_pos e] <;> simp only [ap_ap]⟩
  · refine g_bipush (n := 2) (v := 60) hX dX8_row_0 rfl rfl ?_
    refine g_iload_n (n := 3) hX dX8_row_2 rfl rfl rfl ?_
    refine g_imul (n := 4) (v := nI (60 * p)) hX dX8_row_3 rfl (pk_mul 60 p) ?_
    refine g_iload_n (n := 5) hX dX8_row_4 rfl rfl rfl ?_
    refine g_iadd (n := 6) (v := nI (60 * p + r)) hX dX8_row_5 rfl (nI_add _ _) ?_
    refine g_istore (lv' := [(5, .int (nI (60 * p + r))), (0, .ref am), (1, .int (nI p)), (2, .int (nI r)), (3, .int (nI f)), (4, .int (nI l2))]) (n := 8) hX dX8_row_6 rfl (by rw [hnL]; rfl) rfl ?_
    refine g_aload_n (n := 9) hX dX8_row_8 rfl rfl rfl ?_
    refine g_mget (n := 12) 6 (v := .ref (A 2)) hX hU dX8_row_9 rfl uf_X8_16 rfl rfl rfl ?_
    refine g_iload (n := 14) hX dX8_row_12 rfl rfl ?_
    refine g_mild (n := 15) 2 (v := (pr r).1) hX hY dX8_row_14 rfl rfl rfl (vp_in_nI (show 60 * p + r < mN 2 by show 60 * p + r < 793; omega) (by decide)) (by rw [nI_clamp (by omega), ← hpr]; rfl) ?_
    refine g_istore (lv' := [(6, .int ((pr r).1)), (5, .int (nI (60 * p + r))), (0, .ref am), (1, .int (nI p)), (2, .int (nI r)), (3, .int (nI f)), (4, .int (nI l2))]) (n := 17) hX dX8_row_15 rfl (by rw [hnL]; rfl) rfl ?_
    refine g_aload_n (n := 18) hX dX8_row_17 rfl rfl rfl ?_
    refine g_mget (n := 21) 7 (v := .ref (A 3)) hX hU dX8_row_18 rfl uf_X8_19 rfl rfl rfl ?_
    refine g_iload (n := 23) hX dX8_row_21 rfl rfl ?_
    refine g_mild (n := 24) 3 (v := (pr r).2.1) hX hY dX8_row_23 rfl rfl rfl (vp_in_nI (show 60 * p + r < mN 3 by show 60 * p + r < 793; omega) (by decide)) (by rw [nI_clamp (by omega), ← hpr]; rfl) ?_
    refine g_istore (lv' := [(7, .int ((pr r).2.1)), (6, .int ((pr r).1)), (5, .int (nI (60 * p + r))), (0, .ref am), (1, .int (nI p)), (2, .int (nI r)), (3, .int (nI f)), (4, .int (nI l2))]) (n := 26) hX dX8_row_24 rfl (by rw [hnL]; rfl) rfl ?_
    refine g_aload_n (n := 27) hX dX8_row_26 rfl rfl rfl ?_
    refine g_mget (n := 30) 8 (v := .ref (A 4)) hX hU dX8_row_27 rfl uf_X8_22 rfl rfl rfl ?_
    refine g_iload (n := 32) hX dX8_row_30 rfl rfl ?_
    refine g_mild (n := 33) 4 (v := (pr r).2.2) hX hY dX8_row_32 rfl rfl rfl (vp_in_nI (show 60 * p + r < mN 4 by show 60 * p + r < 793; omega) (by decide)) (by rw [nI_clamp (by omega), ← hpr]; rfl) ?_
    refine g_istore (lv' := [(8, .int ((pr r).2.2)), (7, .int ((pr r).2.1)), (6, .int ((pr r).1)), (5, .int (nI (60 * p + r))), (0, .ref am), (1, .int (nI p)), (2, .int (nI r)), (3, .int (nI f)), (4, .int (nI l2))]) (n := 35) hX dX8_row_33 rfl (by rw [hnL]; rfl) rfl ?_
    refine g_aload_n (n := 36) hX dX8_row_35 rfl rfl rfl ?_
    refine g_iload_n (n := 37) hX dX8_row_36 rfl rfl rfl ?_
    refine g_iload_n (n := 38) hX dX8_row_37 rfl rfl rfl ?_
    refine g_iload_n (n := 39) hX dX8_row_38 rfl rfl rfl ?_
    refine g_iload (n := 41) hX dX8_row_39 rfl rfl ?_
    refine g_callV0 (n := 44) (As := [.int (nI p), .int (nI r), .int (nI f), .int (nI l2)]) (rest := []) hX hE hU hY dX8_row_41 rfl yv_X8_begins um_X8_213 (mr_begins _ _ K am A σ pr p (r) f l2 hpr hp h1 hr1 (by omega) h4 h5 ho) ⟨rfl, rfl⟩ (rm_le hRm rfl rfl) rfl (ci := 10) (q0 := 0) rfl rfl rfl rfl (Nat.le_of_ble_eq_true rfl) ⟨Nat.zero_le _, Nat.zero_le _⟩ (fun v0 w0 hq0 => ?_)
    obtain ⟨rfl, rfl⟩ := hq0
    show G Γ (mW K am A σ) 0 0 44 [(8, .int ((pr r).2.2)), (7, .int ((pr r).2.1)), (6, .int ((pr r).1)), (5, .int (nI (60 * p + r))), (0, .ref am), (1, .int (nI p)), (2, .int (nI r)), (3, .int (nI f)), (4, .int (nI l2))] [.int (nI (bg pr f l2 (r)))]
    refine g_istore (lv' := [(9, .int (nI (bg pr f l2 (r)))), (8, .int ((pr r).2.2)), (7, .int ((pr r).2.1)), (6, .int ((pr r).1)), (5, .int (nI (60 * p + r))), (0, .ref am), (1, .int (nI p)), (2, .int (nI r)), (3, .int (nI f)), (4, .int (nI l2))]) (n := 46) hX dX8_row_44 rfl (by rw [hnL]; rfl) rfl ?_
    refine g_iload (n := 48) hX dX8_row_46 rfl rfl ?_
    refine g_bipush (n := 50) (v := 7) hX dX8_row_48 rfl rfl ?_
    refine g_icmp_ge (n := 53) (tgt := 136) hX dX8_row_50 rfl (by decide) (fun c50 => ?_) (fun c50 => absurd (by rw [e] <;> decide) c50)
    refine g_iload (n := 138) hX dX8_row_136 rfl rfl ?_
    refine g_bipush (n := 140) (v := 7) hX dX8_row_138 rfl rfl ?_
    refine g_icmp_ne (n := 143) (tgt := 168) hX dX8_row_140 rfl (by decide) (fun c140 => ?_) (fun c140 => absurd c140 (by rw [e] <;> decide))
    refine g_iload (n := 170) hX dX8_row_168 rfl rfl ?_
    refine g_bipush (n := 172) (v := 8) hX dX8_row_170 rfl rfl ?_
    refine g_icmp_ne (n := 175) (tgt := 221) hX dX8_row_172 rfl (by decide) (fun c172 => ?_) (fun c172 => absurd c172 (by rw [e] <;> decide))
    refine g_iload (n := 223) hX dX8_row_221 rfl rfl ?_
    refine g_bipush (n := 225) (v := 9) hX dX8_row_223 rfl rfl ?_
    refine g_icmp_ne (n := 228) (tgt := 243) hX dX8_row_225 rfl (by decide) (fun c225 => ?_) (fun c225 => absurd c225 (by rw [e] <;> decide))
    refine g_iload (n := 245) hX dX8_row_243 rfl rfl ?_
    refine g_bipush (n := 247) (v := 13) hX dX8_row_245 rfl rfl ?_
    refine g_icmp_ge (n := 250) (tgt := 296) hX dX8_row_247 rfl (by decide) (fun c247 => absurd c247 (by rw [e] <;> decide)) (fun c247 => ?_)
    refine g_aload_n (n := 251) hX dX8_row_250 rfl rfl rfl ?_
    refine g_iload (n := 253) hX dX8_row_251 rfl rfl ?_
    refine g_callV0 (n := 256) (As := [.int ((pr r).2.1)]) (rest := []) hX hE hU hY dX8_row_253 rfl yv_X8_push um_X8_210 (m_push _ _ K am A σ ((pr r).2.1) (hr.le (by decide))) ⟨rfl, rfl⟩ (rm_le hRm rfl rfl) rfl (ci := 10) (q0 := 0) rfl rfl rfl rfl (Nat.le_of_ble_eq_true rfl) ⟨Nat.zero_le _, Nat.zero_le _⟩ (fun v0 w0 hq0 => ?_)
    obtain ⟨rfl, rfl⟩ := hq0
    show G Γ (mW K am A (ap σ (bPush ((pr r).2.1)))) 0 0 256 [(9, .int (nI (bg pr f l2 (r)))), (8, .int ((pr r).2.2)), (7, .int ((pr r).2.1)), (6, .int ((pr r).1)), (5, .int (nI (60 * p + r))), (0, .ref am), (1, .int (nI p)), (2, .int (nI r)), (3, .int (nI f)), (4, .int (nI l2))] []
    have hr : Lo (ap σ (bPush ((pr r).2.1))) 18 := hr.app (Nat.le_of_ble_eq_true rfl)
    refine g_aload_n (n := 257) hX dX8_row_256 rfl rfl rfl ?_
    refine g_sipush (n := 260) (v := 184) hX dX8_row_257 rfl rfl ?_
    refine g_callV0 (n := 263) (As := [.int 184]) (rest := []) hX hE hU hY dX8_row_260 rfl yv_X8_u1 um_X8_138 (m_u1 _ _ K am A (ap σ (bPush ((pr r).2.1))) 184 (hr.le (by decide))) ⟨rfl, rfl⟩ (rm_le hRm rfl rfl) rfl (ci := 10) (q0 := 0) rfl rfl rfl rfl (Nat.le_of_ble_eq_true rfl) ⟨Nat.zero_le _, Nat.zero_le _⟩ (fun v0 w0 hq0 => ?_)
    obtain ⟨rfl, rfl⟩ := hq0
    show G Γ (mW K am A (ap (ap σ (bPush ((pr r).2.1))) ([184]))) 0 0 263 [(9, .int (nI (bg pr f l2 (r)))), (8, .int ((pr r).2.2)), (7, .int ((pr r).2.1)), (6, .int ((pr r).1)), (5, .int (nI (60 * p + r))), (0, .ref am), (1, .int (nI p)), (2, .int (nI r)), (3, .int (nI f)), (4, .int (nI l2))] []
    have hr : Lo (ap (ap σ (bPush ((pr r).2.1))) ([184])) 17 := hr.app (Nat.le_of_ble_eq_true rfl)
    refine g_aload_n (n := 264) hX dX8_row_263 rfl rfl rfl ?_
    refine g_iload (n := 266) hX dX8_row_264 rfl rfl ?_
    refine g_bipush (n := 268) (v := 10) hX dX8_row_266 rfl rfl ?_
    refine g_icmp_ne (n := 271) (tgt := 276) hX dX8_row_268 rfl (by decide) (fun c268 => ?_) (fun c268 => absurd c268 (by rw [e] <;> decide))
    refine g_iload (n := 278) hX dX8_row_276 rfl rfl ?_
    refine g_bipush (n := 280) (v := 11) hX dX8_row_278 rfl rfl ?_
    refine g_icmp_ne (n := 283) (tgt := 288) hX dX8_row_280 rfl (by decide) (fun c280 => absurd (by rw [e] <;> decide) c280) (fun c280 => ?_)
    refine g_bipush (n := 285) (v := 17) hX dX8_row_283 rfl rfl ?_
    refine g_goto (n := 290) hX dX8_row_285 (by decide) ?_
    refine g_callV0 (n := 293) (As := [.int 17]) (rest := []) hX hE hU hY dX8_row_290 rfl yv_X8_u2 um_X8_142 (m_u2 _ _ K am A (ap (ap σ (bPush ((pr r).2.1))) ([184])) 17 (hr.le (by decide))) ⟨rfl, rfl⟩ (rm_le hRm rfl rfl) rfl (ci := 10) (q0 := 0) rfl rfl rfl rfl (Nat.le_of_ble_eq_true rfl) ⟨Nat.zero_le _, Nat.zero_le _⟩ (fun v0 w0 hq0 => ?_)
    obtain ⟨rfl, rfl⟩ := hq0
    show G Γ (mW K am A (ap (ap (ap σ (bPush ((pr r).2.1))) ([184])) (b2 17))) 0 0 293 [(9, .int (nI (bg pr f l2 (r)))), (8, .int ((pr r).2.2)), (7, .int ((pr r).2.1)), (6, .int ((pr r).1)), (5, .int (nI (60 * p + r))), (0, .ref am), (1, .int (nI p)), (2, .int (nI r)), (3, .int (nI f)), (4, .int (nI l2))] []
    have hr : Lo (ap (ap (ap σ (bPush ((pr r).2.1))) ([184])) (b2 17)) 15 := hr.app (Nat.le_of_ble_eq_true rfl)
    refine g_goto (n := 340) hX dX8_row_293 (by decide) ?_
    exact g_vret hX hR dX8_row_340 ⟨rfl, by rw [bRow, if_neg (by rw [e]; decide), if_neg (by rw [e]; decide), if_neg (by rw [e]; decide), if_neg (by rw [e]; decide), if_neg (by rw [e]; decide), if_neg (by rw [e]; decide), if_pos e] <;> simp only [ap_ap]⟩
  · refine g_bipush (n := 2) (v := 60) hX dX8_row_0 rfl rfl ?_
    refine g_iload_n (n := 3) hX dX8_row_2 rfl rfl rfl ?_
    refine g_imul (n := 4) (v := nI (60 * p)) hX dX8_row_3 rfl (pk_mul 60 p) ?_
    refine g_iload_n (n := 5) hX dX8_row_4 rfl rfl rfl ?_
    refine g_iadd (n := 6) (v := nI (60 * p + r)) hX dX8_row_5 rfl (nI_add _ _) ?_
    refine g_istore (lv' := [(5, .int (nI (60 * p + r))), (0, .ref am), (1, .int (nI p)), (2, .int (nI r)), (3, .int (nI f)), (4, .int (nI l2))]) (n := 8) hX dX8_row_6 rfl (by rw [hnL]; rfl) rfl ?_
    refine g_aload_n (n := 9) hX dX8_row_8 rfl rfl rfl ?_
    refine g_mget (n := 12) 6 (v := .ref (A 2)) hX hU dX8_row_9 rfl uf_X8_16 rfl rfl rfl ?_
    refine g_iload (n := 14) hX dX8_row_12 rfl rfl ?_
    refine g_mild (n := 15) 2 (v := (pr r).1) hX hY dX8_row_14 rfl rfl rfl (vp_in_nI (show 60 * p + r < mN 2 by show 60 * p + r < 793; omega) (by decide)) (by rw [nI_clamp (by omega), ← hpr]; rfl) ?_
    refine g_istore (lv' := [(6, .int ((pr r).1)), (5, .int (nI (60 * p + r))), (0, .ref am), (1, .int (nI p)), (2, .int (nI r)), (3, .int (nI f)), (4, .int (nI l2))]) (n := 17) hX dX8_row_15 rfl (by rw [hnL]; rfl) rfl ?_
    refine g_aload_n (n := 18) hX dX8_row_17 rfl rfl rfl ?_
    refine g_mget (n := 21) 7 (v := .ref (A 3)) hX hU dX8_row_18 rfl uf_X8_19 rfl rfl rfl ?_
    refine g_iload (n := 23) hX dX8_row_21 rfl rfl ?_
    refine g_mild (n := 24) 3 (v := (pr r).2.1) hX hY dX8_row_23 rfl rfl rfl (vp_in_nI (show 60 * p + r < mN 3 by show 60 * p + r < 793; omega) (by decide)) (by rw [nI_clamp (by omega), ← hpr]; rfl) ?_
    refine g_istore (lv' := [(7, .int ((pr r).2.1)), (6, .int ((pr r).1)), (5, .int (nI (60 * p + r))), (0, .ref am), (1, .int (nI p)), (2, .int (nI r)), (3, .int (nI f)), (4, .int (nI l2))]) (n := 26) hX dX8_row_24 rfl (by rw [hnL]; rfl) rfl ?_
    refine g_aload_n (n := 27) hX dX8_row_26 rfl rfl rfl ?_
    refine g_mget (n := 30) 8 (v := .ref (A 4)) hX hU dX8_row_27 rfl uf_X8_22 rfl rfl rfl ?_
    refine g_iload (n := 32) hX dX8_row_30 rfl rfl ?_
    refine g_mild (n := 33) 4 (v := (pr r).2.2) hX hY dX8_row_32 rfl rfl rfl (vp_in_nI (show 60 * p + r < mN 4 by show 60 * p + r < 793; omega) (by decide)) (by rw [nI_clamp (by omega), ← hpr]; rfl) ?_
    refine g_istore (lv' := [(8, .int ((pr r).2.2)), (7, .int ((pr r).2.1)), (6, .int ((pr r).1)), (5, .int (nI (60 * p + r))), (0, .ref am), (1, .int (nI p)), (2, .int (nI r)), (3, .int (nI f)), (4, .int (nI l2))]) (n := 35) hX dX8_row_33 rfl (by rw [hnL]; rfl) rfl ?_
    refine g_aload_n (n := 36) hX dX8_row_35 rfl rfl rfl ?_
    refine g_iload_n (n := 37) hX dX8_row_36 rfl rfl rfl ?_
    refine g_iload_n (n := 38) hX dX8_row_37 rfl rfl rfl ?_
    refine g_iload_n (n := 39) hX dX8_row_38 rfl rfl rfl ?_
    refine g_iload (n := 41) hX dX8_row_39 rfl rfl ?_
    refine g_callV0 (n := 44) (As := [.int (nI p), .int (nI r), .int (nI f), .int (nI l2)]) (rest := []) hX hE hU hY dX8_row_41 rfl yv_X8_begins um_X8_213 (mr_begins _ _ K am A σ pr p (r) f l2 hpr hp h1 hr1 (by omega) h4 h5 ho) ⟨rfl, rfl⟩ (rm_le hRm rfl rfl) rfl (ci := 10) (q0 := 0) rfl rfl rfl rfl (Nat.le_of_ble_eq_true rfl) ⟨Nat.zero_le _, Nat.zero_le _⟩ (fun v0 w0 hq0 => ?_)
    obtain ⟨rfl, rfl⟩ := hq0
    show G Γ (mW K am A σ) 0 0 44 [(8, .int ((pr r).2.2)), (7, .int ((pr r).2.1)), (6, .int ((pr r).1)), (5, .int (nI (60 * p + r))), (0, .ref am), (1, .int (nI p)), (2, .int (nI r)), (3, .int (nI f)), (4, .int (nI l2))] [.int (nI (bg pr f l2 (r)))]
    refine g_istore (lv' := [(9, .int (nI (bg pr f l2 (r)))), (8, .int ((pr r).2.2)), (7, .int ((pr r).2.1)), (6, .int ((pr r).1)), (5, .int (nI (60 * p + r))), (0, .ref am), (1, .int (nI p)), (2, .int (nI r)), (3, .int (nI f)), (4, .int (nI l2))]) (n := 46) hX dX8_row_44 rfl (by rw [hnL]; rfl) rfl ?_
    refine g_iload (n := 48) hX dX8_row_46 rfl rfl ?_
    refine g_bipush (n := 50) (v := 7) hX dX8_row_48 rfl rfl ?_
    refine g_icmp_ge (n := 53) (tgt := 136) hX dX8_row_50 rfl (by decide) (fun c50 => ?_) (fun c50 => absurd (by rw [e] <;> decide) c50)
    refine g_iload (n := 138) hX dX8_row_136 rfl rfl ?_
    refine g_bipush (n := 140) (v := 7) hX dX8_row_138 rfl rfl ?_
    refine g_icmp_ne (n := 143) (tgt := 168) hX dX8_row_140 rfl (by decide) (fun c140 => ?_) (fun c140 => absurd c140 (by rw [e] <;> decide))
    refine g_iload (n := 170) hX dX8_row_168 rfl rfl ?_
    refine g_bipush (n := 172) (v := 8) hX dX8_row_170 rfl rfl ?_
    refine g_icmp_ne (n := 175) (tgt := 221) hX dX8_row_172 rfl (by decide) (fun c172 => ?_) (fun c172 => absurd c172 (by rw [e] <;> decide))
    refine g_iload (n := 223) hX dX8_row_221 rfl rfl ?_
    refine g_bipush (n := 225) (v := 9) hX dX8_row_223 rfl rfl ?_
    refine g_icmp_ne (n := 228) (tgt := 243) hX dX8_row_225 rfl (by decide) (fun c225 => ?_) (fun c225 => absurd c225 (by rw [e] <;> decide))
    refine g_iload (n := 245) hX dX8_row_243 rfl rfl ?_
    refine g_bipush (n := 247) (v := 13) hX dX8_row_245 rfl rfl ?_
    refine g_icmp_ge (n := 250) (tgt := 296) hX dX8_row_247 rfl (by decide) (fun c247 => absurd c247 (by rw [e] <;> decide)) (fun c247 => ?_)
    refine g_aload_n (n := 251) hX dX8_row_250 rfl rfl rfl ?_
    refine g_iload (n := 253) hX dX8_row_251 rfl rfl ?_
    refine g_callV0 (n := 256) (As := [.int ((pr r).2.1)]) (rest := []) hX hE hU hY dX8_row_253 rfl yv_X8_push um_X8_210 (m_push _ _ K am A σ ((pr r).2.1) (hr.le (by decide))) ⟨rfl, rfl⟩ (rm_le hRm rfl rfl) rfl (ci := 10) (q0 := 0) rfl rfl rfl rfl (Nat.le_of_ble_eq_true rfl) ⟨Nat.zero_le _, Nat.zero_le _⟩ (fun v0 w0 hq0 => ?_)
    obtain ⟨rfl, rfl⟩ := hq0
    show G Γ (mW K am A (ap σ (bPush ((pr r).2.1)))) 0 0 256 [(9, .int (nI (bg pr f l2 (r)))), (8, .int ((pr r).2.2)), (7, .int ((pr r).2.1)), (6, .int ((pr r).1)), (5, .int (nI (60 * p + r))), (0, .ref am), (1, .int (nI p)), (2, .int (nI r)), (3, .int (nI f)), (4, .int (nI l2))] []
    have hr : Lo (ap σ (bPush ((pr r).2.1))) 18 := hr.app (Nat.le_of_ble_eq_true rfl)
    refine g_aload_n (n := 257) hX dX8_row_256 rfl rfl rfl ?_
    refine g_sipush (n := 260) (v := 184) hX dX8_row_257 rfl rfl ?_
    refine g_callV0 (n := 263) (As := [.int 184]) (rest := []) hX hE hU hY dX8_row_260 rfl yv_X8_u1 um_X8_138 (m_u1 _ _ K am A (ap σ (bPush ((pr r).2.1))) 184 (hr.le (by decide))) ⟨rfl, rfl⟩ (rm_le hRm rfl rfl) rfl (ci := 10) (q0 := 0) rfl rfl rfl rfl (Nat.le_of_ble_eq_true rfl) ⟨Nat.zero_le _, Nat.zero_le _⟩ (fun v0 w0 hq0 => ?_)
    obtain ⟨rfl, rfl⟩ := hq0
    show G Γ (mW K am A (ap (ap σ (bPush ((pr r).2.1))) ([184]))) 0 0 263 [(9, .int (nI (bg pr f l2 (r)))), (8, .int ((pr r).2.2)), (7, .int ((pr r).2.1)), (6, .int ((pr r).1)), (5, .int (nI (60 * p + r))), (0, .ref am), (1, .int (nI p)), (2, .int (nI r)), (3, .int (nI f)), (4, .int (nI l2))] []
    have hr : Lo (ap (ap σ (bPush ((pr r).2.1))) ([184])) 17 := hr.app (Nat.le_of_ble_eq_true rfl)
    refine g_aload_n (n := 264) hX dX8_row_263 rfl rfl rfl ?_
    refine g_iload (n := 266) hX dX8_row_264 rfl rfl ?_
    refine g_bipush (n := 268) (v := 10) hX dX8_row_266 rfl rfl ?_
    refine g_icmp_ne (n := 271) (tgt := 276) hX dX8_row_268 rfl (by decide) (fun c268 => ?_) (fun c268 => absurd c268 (by rw [e] <;> decide))
    refine g_iload (n := 278) hX dX8_row_276 rfl rfl ?_
    refine g_bipush (n := 280) (v := 11) hX dX8_row_278 rfl rfl ?_
    refine g_icmp_ne (n := 283) (tgt := 288) hX dX8_row_280 rfl (by decide) (fun c280 => ?_) (fun c280 => absurd c280 (by rw [e] <;> decide))
    refine g_bipush (n := 290) (v := 20) hX dX8_row_288 rfl rfl ?_
    refine g_callV0 (n := 293) (As := [.int 20]) (rest := []) hX hE hU hY dX8_row_290 rfl yv_X8_u2 um_X8_142 (m_u2 _ _ K am A (ap (ap σ (bPush ((pr r).2.1))) ([184])) 20 (hr.le (by decide))) ⟨rfl, rfl⟩ (rm_le hRm rfl rfl) rfl (ci := 10) (q0 := 0) rfl rfl rfl rfl (Nat.le_of_ble_eq_true rfl) ⟨Nat.zero_le _, Nat.zero_le _⟩ (fun v0 w0 hq0 => ?_)
    obtain ⟨rfl, rfl⟩ := hq0
    show G Γ (mW K am A (ap (ap (ap σ (bPush ((pr r).2.1))) ([184])) (b2 20))) 0 0 293 [(9, .int (nI (bg pr f l2 (r)))), (8, .int ((pr r).2.2)), (7, .int ((pr r).2.1)), (6, .int ((pr r).1)), (5, .int (nI (60 * p + r))), (0, .ref am), (1, .int (nI p)), (2, .int (nI r)), (3, .int (nI f)), (4, .int (nI l2))] []
    have hr : Lo (ap (ap (ap σ (bPush ((pr r).2.1))) ([184])) (b2 20)) 15 := hr.app (Nat.le_of_ble_eq_true rfl)
    refine g_goto (n := 340) hX dX8_row_293 (by decide) ?_
    exact g_vret hX hR dX8_row_340 ⟨rfl, by rw [bRow, if_neg (by rw [e]; decide), if_neg (by rw [e]; decide), if_neg (by rw [e]; decide), if_neg (by rw [e]; decide), if_neg (by rw [e]; decide), if_neg (by rw [e]; decide), if_neg (by rw [e]; decide), if_pos e] <;> simp only [ap_ap]⟩
  · refine g_bipush (n := 2) (v := 60) hX dX8_row_0 rfl rfl ?_
    refine g_iload_n (n := 3) hX dX8_row_2 rfl rfl rfl ?_
    refine g_imul (n := 4) (v := nI (60 * p)) hX dX8_row_3 rfl (pk_mul 60 p) ?_
    refine g_iload_n (n := 5) hX dX8_row_4 rfl rfl rfl ?_
    refine g_iadd (n := 6) (v := nI (60 * p + r)) hX dX8_row_5 rfl (nI_add _ _) ?_
    refine g_istore (lv' := [(5, .int (nI (60 * p + r))), (0, .ref am), (1, .int (nI p)), (2, .int (nI r)), (3, .int (nI f)), (4, .int (nI l2))]) (n := 8) hX dX8_row_6 rfl (by rw [hnL]; rfl) rfl ?_
    refine g_aload_n (n := 9) hX dX8_row_8 rfl rfl rfl ?_
    refine g_mget (n := 12) 6 (v := .ref (A 2)) hX hU dX8_row_9 rfl uf_X8_16 rfl rfl rfl ?_
    refine g_iload (n := 14) hX dX8_row_12 rfl rfl ?_
    refine g_mild (n := 15) 2 (v := (pr r).1) hX hY dX8_row_14 rfl rfl rfl (vp_in_nI (show 60 * p + r < mN 2 by show 60 * p + r < 793; omega) (by decide)) (by rw [nI_clamp (by omega), ← hpr]; rfl) ?_
    refine g_istore (lv' := [(6, .int ((pr r).1)), (5, .int (nI (60 * p + r))), (0, .ref am), (1, .int (nI p)), (2, .int (nI r)), (3, .int (nI f)), (4, .int (nI l2))]) (n := 17) hX dX8_row_15 rfl (by rw [hnL]; rfl) rfl ?_
    refine g_aload_n (n := 18) hX dX8_row_17 rfl rfl rfl ?_
    refine g_mget (n := 21) 7 (v := .ref (A 3)) hX hU dX8_row_18 rfl uf_X8_19 rfl rfl rfl ?_
    refine g_iload (n := 23) hX dX8_row_21 rfl rfl ?_
    refine g_mild (n := 24) 3 (v := (pr r).2.1) hX hY dX8_row_23 rfl rfl rfl (vp_in_nI (show 60 * p + r < mN 3 by show 60 * p + r < 793; omega) (by decide)) (by rw [nI_clamp (by omega), ← hpr]; rfl) ?_
    refine g_istore (lv' := [(7, .int ((pr r).2.1)), (6, .int ((pr r).1)), (5, .int (nI (60 * p + r))), (0, .ref am), (1, .int (nI p)), (2, .int (nI r)), (3, .int (nI f)), (4, .int (nI l2))]) (n := 26) hX dX8_row_24 rfl (by rw [hnL]; rfl) rfl ?_
    refine g_aload_n (n := 27) hX dX8_row_26 rfl rfl rfl ?_
    refine g_mget (n := 30) 8 (v := .ref (A 4)) hX hU dX8_row_27 rfl uf_X8_22 rfl rfl rfl ?_
    refine g_iload (n := 32) hX dX8_row_30 rfl rfl ?_
    refine g_mild (n := 33) 4 (v := (pr r).2.2) hX hY dX8_row_32 rfl rfl rfl (vp_in_nI (show 60 * p + r < mN 4 by show 60 * p + r < 793; omega) (by decide)) (by rw [nI_clamp (by omega), ← hpr]; rfl) ?_
    refine g_istore (lv' := [(8, .int ((pr r).2.2)), (7, .int ((pr r).2.1)), (6, .int ((pr r).1)), (5, .int (nI (60 * p + r))), (0, .ref am), (1, .int (nI p)), (2, .int (nI r)), (3, .int (nI f)), (4, .int (nI l2))]) (n := 35) hX dX8_row_33 rfl (by rw [hnL]; rfl) rfl ?_
    refine g_aload_n (n := 36) hX dX8_row_35 rfl rfl rfl ?_
    refine g_iload_n (n := 37) hX dX8_row_36 rfl rfl rfl ?_
    refine g_iload_n (n := 38) hX dX8_row_37 rfl rfl rfl ?_
    refine g_iload_n (n := 39) hX dX8_row_38 rfl rfl rfl ?_
    refine g_iload (n := 41) hX dX8_row_39 rfl rfl ?_
    refine g_callV0 (n := 44) (As := [.int (nI p), .int (nI r), .int (nI f), .int (nI l2)]) (rest := []) hX hE hU hY dX8_row_41 rfl yv_X8_begins um_X8_213 (mr_begins _ _ K am A σ pr p (r) f l2 hpr hp h1 hr1 (by omega) h4 h5 ho) ⟨rfl, rfl⟩ (rm_le hRm rfl rfl) rfl (ci := 10) (q0 := 0) rfl rfl rfl rfl (Nat.le_of_ble_eq_true rfl) ⟨Nat.zero_le _, Nat.zero_le _⟩ (fun v0 w0 hq0 => ?_)
    obtain ⟨rfl, rfl⟩ := hq0
    show G Γ (mW K am A σ) 0 0 44 [(8, .int ((pr r).2.2)), (7, .int ((pr r).2.1)), (6, .int ((pr r).1)), (5, .int (nI (60 * p + r))), (0, .ref am), (1, .int (nI p)), (2, .int (nI r)), (3, .int (nI f)), (4, .int (nI l2))] [.int (nI (bg pr f l2 (r)))]
    refine g_istore (lv' := [(9, .int (nI (bg pr f l2 (r)))), (8, .int ((pr r).2.2)), (7, .int ((pr r).2.1)), (6, .int ((pr r).1)), (5, .int (nI (60 * p + r))), (0, .ref am), (1, .int (nI p)), (2, .int (nI r)), (3, .int (nI f)), (4, .int (nI l2))]) (n := 46) hX dX8_row_44 rfl (by rw [hnL]; rfl) rfl ?_
    refine g_iload (n := 48) hX dX8_row_46 rfl rfl ?_
    refine g_bipush (n := 50) (v := 7) hX dX8_row_48 rfl rfl ?_
    refine g_icmp_ge (n := 53) (tgt := 136) hX dX8_row_50 rfl (by decide) (fun c50 => ?_) (fun c50 => absurd (by rw [e] <;> decide) c50)
    refine g_iload (n := 138) hX dX8_row_136 rfl rfl ?_
    refine g_bipush (n := 140) (v := 7) hX dX8_row_138 rfl rfl ?_
    refine g_icmp_ne (n := 143) (tgt := 168) hX dX8_row_140 rfl (by decide) (fun c140 => ?_) (fun c140 => absurd c140 (by rw [e] <;> decide))
    refine g_iload (n := 170) hX dX8_row_168 rfl rfl ?_
    refine g_bipush (n := 172) (v := 8) hX dX8_row_170 rfl rfl ?_
    refine g_icmp_ne (n := 175) (tgt := 221) hX dX8_row_172 rfl (by decide) (fun c172 => ?_) (fun c172 => absurd c172 (by rw [e] <;> decide))
    refine g_iload (n := 223) hX dX8_row_221 rfl rfl ?_
    refine g_bipush (n := 225) (v := 9) hX dX8_row_223 rfl rfl ?_
    refine g_icmp_ne (n := 228) (tgt := 243) hX dX8_row_225 rfl (by decide) (fun c225 => ?_) (fun c225 => absurd c225 (by rw [e] <;> decide))
    refine g_iload (n := 245) hX dX8_row_243 rfl rfl ?_
    refine g_bipush (n := 247) (v := 13) hX dX8_row_245 rfl rfl ?_
    refine g_icmp_ge (n := 250) (tgt := 296) hX dX8_row_247 rfl (by decide) (fun c247 => ?_) (fun c247 => absurd (by rw [e] <;> decide) c247)
    refine g_aload_n (n := 297) hX dX8_row_296 rfl rfl rfl ?_
    refine g_iload (n := 299) hX dX8_row_297 rfl rfl ?_
    refine g_callV0 (n := 302) (As := [.int ((pr r).2.1)]) (rest := []) hX hE hU hY dX8_row_299 rfl yv_X8_load um_X8_217 (m_load _ _ K am A σ ((pr r).2.1) (hr.le (by decide))) ⟨rfl, rfl⟩ (rm_le hRm rfl rfl) rfl (ci := 10) (q0 := 0) rfl rfl rfl rfl (Nat.le_of_ble_eq_true rfl) ⟨Nat.zero_le _, Nat.zero_le _⟩ (fun v0 w0 hq0 => ?_)
    obtain ⟨rfl, rfl⟩ := hq0
    show G Γ (mW K am A (ap σ (bLoad ((pr r).2.1)))) 0 0 302 [(9, .int (nI (bg pr f l2 (r)))), (8, .int ((pr r).2.2)), (7, .int ((pr r).2.1)), (6, .int ((pr r).1)), (5, .int (nI (60 * p + r))), (0, .ref am), (1, .int (nI p)), (2, .int (nI r)), (3, .int (nI f)), (4, .int (nI l2))] []
    have hr : Lo (ap σ (bLoad ((pr r).2.1))) 14 := hr.app (Nat.le_of_ble_eq_true rfl)
    refine g_aload_n (n := 303) hX dX8_row_302 rfl rfl rfl ?_
    refine g_iload (n := 305) hX dX8_row_303 rfl rfl ?_
    refine g_callV0 (n := 308) (As := [.int ((pr r).2.2)]) (rest := []) hX hE hU hY dX8_row_305 rfl yv_X8_push um_X8_210 (m_push _ _ K am A (ap σ (bLoad ((pr r).2.1))) ((pr r).2.2) (hr.le (by decide))) ⟨rfl, rfl⟩ (rm_le hRm rfl rfl) rfl (ci := 10) (q0 := 0) rfl rfl rfl rfl (Nat.le_of_ble_eq_true rfl) ⟨Nat.zero_le _, Nat.zero_le _⟩ (fun v0 w0 hq0 => ?_)
    obtain ⟨rfl, rfl⟩ := hq0
    show G Γ (mW K am A (ap (ap σ (bLoad ((pr r).2.1))) (bPush ((pr r).2.2)))) 0 0 308 [(9, .int (nI (bg pr f l2 (r)))), (8, .int ((pr r).2.2)), (7, .int ((pr r).2.1)), (6, .int ((pr r).1)), (5, .int (nI (60 * p + r))), (0, .ref am), (1, .int (nI p)), (2, .int (nI r)), (3, .int (nI f)), (4, .int (nI l2))] []
    have hr : Lo (ap (ap σ (bLoad ((pr r).2.1))) (bPush ((pr r).2.2))) 12 := hr.app (Nat.le_of_ble_eq_true rfl)
    refine g_aload_n (n := 309) hX dX8_row_308 rfl rfl rfl ?_
    refine g_sipush (n := 312) (v := 164) hX dX8_row_309 rfl rfl ?_
    refine g_callV0 (n := 315) (As := [.int 164]) (rest := []) hX hE hU hY dX8_row_312 rfl yv_X8_u1 um_X8_138 (m_u1 _ _ K am A (ap (ap σ (bLoad ((pr r).2.1))) (bPush ((pr r).2.2))) 164 (hr.le (by decide))) ⟨rfl, rfl⟩ (rm_le hRm rfl rfl) rfl (ci := 10) (q0 := 0) rfl rfl rfl rfl (Nat.le_of_ble_eq_true rfl) ⟨Nat.zero_le _, Nat.zero_le _⟩ (fun v0 w0 hq0 => ?_)
    obtain ⟨rfl, rfl⟩ := hq0
    show G Γ (mW K am A (ap (ap (ap σ (bLoad ((pr r).2.1))) (bPush ((pr r).2.2))) ([164]))) 0 0 315 [(9, .int (nI (bg pr f l2 (r)))), (8, .int ((pr r).2.2)), (7, .int ((pr r).2.1)), (6, .int ((pr r).1)), (5, .int (nI (60 * p + r))), (0, .ref am), (1, .int (nI p)), (2, .int (nI r)), (3, .int (nI f)), (4, .int (nI l2))] []
    have hr : Lo (ap (ap (ap σ (bLoad ((pr r).2.1))) (bPush ((pr r).2.2))) ([164])) 11 := hr.app (Nat.le_of_ble_eq_true rfl)
    refine g_aload_n (n := 316) hX dX8_row_315 rfl rfl rfl ?_
    refine g_bipush (n := 318) (v := 8) hX dX8_row_316 rfl rfl ?_
    refine g_callV0 (n := 321) (As := [.int 8]) (rest := []) hX hE hU hY dX8_row_318 rfl yv_X8_u2 um_X8_142 (m_u2 _ _ K am A (ap (ap (ap σ (bLoad ((pr r).2.1))) (bPush ((pr r).2.2))) ([164])) 8 (hr.le (by decide))) ⟨rfl, rfl⟩ (rm_le hRm rfl rfl) rfl (ci := 10) (q0 := 0) rfl rfl rfl rfl (Nat.le_of_ble_eq_true rfl) ⟨Nat.zero_le _, Nat.zero_le _⟩ (fun v0 w0 hq0 => ?_)
    obtain ⟨rfl, rfl⟩ := hq0
    show G Γ (mW K am A (ap (ap (ap (ap σ (bLoad ((pr r).2.1))) (bPush ((pr r).2.2))) ([164])) (b2 8))) 0 0 321 [(9, .int (nI (bg pr f l2 (r)))), (8, .int ((pr r).2.2)), (7, .int ((pr r).2.1)), (6, .int ((pr r).1)), (5, .int (nI (60 * p + r))), (0, .ref am), (1, .int (nI p)), (2, .int (nI r)), (3, .int (nI f)), (4, .int (nI l2))] []
    have hr : Lo (ap (ap (ap (ap σ (bLoad ((pr r).2.1))) (bPush ((pr r).2.2))) ([164])) (b2 8)) 9 := hr.app (Nat.le_of_ble_eq_true rfl)
    refine g_aload_n (n := 322) hX dX8_row_321 rfl rfl rfl ?_
    refine g_iload (n := 324) hX dX8_row_322 rfl rfl ?_
    refine g_callV0 (n := 327) (As := [.int ((pr r).2.1)]) (rest := []) hX hE hU hY dX8_row_324 rfl yv_X8_push um_X8_210 (m_push _ _ K am A (ap (ap (ap (ap σ (bLoad ((pr r).2.1))) (bPush ((pr r).2.2))) ([164])) (b2 8)) ((pr r).2.1) (hr.le (by decide))) ⟨rfl, rfl⟩ (rm_le hRm rfl rfl) rfl (ci := 10) (q0 := 0) rfl rfl rfl rfl (Nat.le_of_ble_eq_true rfl) ⟨Nat.zero_le _, Nat.zero_le _⟩ (fun v0 w0 hq0 => ?_)
    obtain ⟨rfl, rfl⟩ := hq0
    show G Γ (mW K am A (ap (ap (ap (ap (ap σ (bLoad ((pr r).2.1))) (bPush ((pr r).2.2))) ([164])) (b2 8)) (bPush ((pr r).2.1)))) 0 0 327 [(9, .int (nI (bg pr f l2 (r)))), (8, .int ((pr r).2.2)), (7, .int ((pr r).2.1)), (6, .int ((pr r).1)), (5, .int (nI (60 * p + r))), (0, .ref am), (1, .int (nI p)), (2, .int (nI r)), (3, .int (nI f)), (4, .int (nI l2))] []
    have hr : Lo (ap (ap (ap (ap (ap σ (bLoad ((pr r).2.1))) (bPush ((pr r).2.2))) ([164])) (b2 8)) (bPush ((pr r).2.1))) 7 := hr.app (Nat.le_of_ble_eq_true rfl)
    refine g_aload_n (n := 328) hX dX8_row_327 rfl rfl rfl ?_
    refine g_sipush (n := 331) (v := 184) hX dX8_row_328 rfl rfl ?_
    refine g_callV0 (n := 334) (As := [.int 184]) (rest := []) hX hE hU hY dX8_row_331 rfl yv_X8_u1 um_X8_138 (m_u1 _ _ K am A (ap (ap (ap (ap (ap σ (bLoad ((pr r).2.1))) (bPush ((pr r).2.2))) ([164])) (b2 8)) (bPush ((pr r).2.1))) 184 (hr.le (by decide))) ⟨rfl, rfl⟩ (rm_le hRm rfl rfl) rfl (ci := 10) (q0 := 0) rfl rfl rfl rfl (Nat.le_of_ble_eq_true rfl) ⟨Nat.zero_le _, Nat.zero_le _⟩ (fun v0 w0 hq0 => ?_)
    obtain ⟨rfl, rfl⟩ := hq0
    show G Γ (mW K am A (ap (ap (ap (ap (ap (ap σ (bLoad ((pr r).2.1))) (bPush ((pr r).2.2))) ([164])) (b2 8)) (bPush ((pr r).2.1))) ([184]))) 0 0 334 [(9, .int (nI (bg pr f l2 (r)))), (8, .int ((pr r).2.2)), (7, .int ((pr r).2.1)), (6, .int ((pr r).1)), (5, .int (nI (60 * p + r))), (0, .ref am), (1, .int (nI p)), (2, .int (nI r)), (3, .int (nI f)), (4, .int (nI l2))] []
    have hr : Lo (ap (ap (ap (ap (ap (ap σ (bLoad ((pr r).2.1))) (bPush ((pr r).2.2))) ([164])) (b2 8)) (bPush ((pr r).2.1))) ([184])) 6 := hr.app (Nat.le_of_ble_eq_true rfl)
    refine g_aload_n (n := 335) hX dX8_row_334 rfl rfl rfl ?_
    refine g_bipush (n := 337) (v := 23) hX dX8_row_335 rfl rfl ?_
    refine g_callV0 (n := 340) (As := [.int 23]) (rest := []) hX hE hU hY dX8_row_337 rfl yv_X8_u2 um_X8_142 (m_u2 _ _ K am A (ap (ap (ap (ap (ap (ap σ (bLoad ((pr r).2.1))) (bPush ((pr r).2.2))) ([164])) (b2 8)) (bPush ((pr r).2.1))) ([184])) 23 (hr.le (by decide))) ⟨rfl, rfl⟩ (rm_le hRm rfl rfl) rfl (ci := 10) (q0 := 0) rfl rfl rfl rfl (Nat.le_of_ble_eq_true rfl) ⟨Nat.zero_le _, Nat.zero_le _⟩ (fun v0 w0 hq0 => ?_)
    obtain ⟨rfl, rfl⟩ := hq0
    show G Γ (mW K am A (ap (ap (ap (ap (ap (ap (ap σ (bLoad ((pr r).2.1))) (bPush ((pr r).2.2))) ([164])) (b2 8)) (bPush ((pr r).2.1))) ([184])) (b2 23))) 0 0 340 [(9, .int (nI (bg pr f l2 (r)))), (8, .int ((pr r).2.2)), (7, .int ((pr r).2.1)), (6, .int ((pr r).1)), (5, .int (nI (60 * p + r))), (0, .ref am), (1, .int (nI p)), (2, .int (nI r)), (3, .int (nI f)), (4, .int (nI l2))] []
    have hr : Lo (ap (ap (ap (ap (ap (ap (ap σ (bLoad ((pr r).2.1))) (bPush ((pr r).2.2))) ([164])) (b2 8)) (bPush ((pr r).2.1))) ([184])) (b2 23)) 4 := hr.app (Nat.le_of_ble_eq_true rfl)
    exact g_vret hX hR dX8_row_340 ⟨rfl, by rw [bRow, if_neg (by rw [e]; decide), if_neg (by rw [e]; decide), if_neg (by rw [e]; decide), if_neg (by rw [e]; decide), if_neg (by rw [e]; decide), if_neg (by rw [e]; decide), if_neg (by rw [e]; decide), if_neg (by rw [e]; decide), if_pos e] <;> simp only [ap_ap]⟩

