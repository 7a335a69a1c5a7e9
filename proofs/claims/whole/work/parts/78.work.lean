theorem va_up_id {α : Type} (f : Nat → α) (a : Nat) : va_up f a (f a) = f := by
  funext i
  by_cases e : i = a
  · rw [e, va_up_self]
  · rw [va_up_ne _ _ e]
theorem vB_at {g : Nat → Int32} {z n : Nat} (h : n < z) (hz : z ≤ 100) : vB g z (nI n) = g n := by
  unfold vB
  rw [if_pos ⟨nI_pos' (by omega), nI_lt h (by omega)⟩, nI_clamp (by omega)]
theorem stB_at {g : Nat → Int32} {z n : Nat} (h : n < z) (hz : z ≤ 100) (v : Int32) : stB g z (nI n) v = (0, upd g n v.toInt8.toInt32) := by
  unfold stB
  rw [if_pos ⟨nI_pos' (by omega), nI_lt h (by omega)⟩, nI_clamp (by omega)]
/-- a row that works on the bytes, here and there -/
def WSim (g : Nat → Int32) (z u p : Nat) (σ : MS) (a : Int32 × (Nat → Int32)) (y : Int32 × MS) : Prop := a.1 = y.1 ∧ ((y.2 = σ ∧ a.2 = g) ∨ ∃ (i : Nat) (v : Int32), i < z ∧ y.2 = sA σ 20 (wk u p i) v ∧ a.2 = upd g i v)
theorem WS_set {g : Nat → Int32} {z u p n : Nat} {σ : MS} (h : n < z) (hz : z ≤ 100) (v : Int32) : WSim g z u p σ (stB g z (nI n) v) (0, sA σ 20 (wk u p n) v.toInt8.toInt32) := by
  rw [stB_at h hz]
  exact ⟨rfl, Or.inr ⟨n, _, h, rfl, rfl⟩⟩
theorem WS_no {g : Nat → Int32} {z u p : Nat} {σ : MS} (k : Int32) : WSim g z u p σ (k, g) (k, σ) := ⟨rfl, Or.inl ⟨rfl, rfl⟩⟩
theorem wk_sim {g : Nat → Int32} {z u p : Nat} {σ : MS} {o a b : Int32} (hz : z ≤ 100) (e0 : σ.1 0 p = nI z) (hg : ∀ i, i < z → g i = σ.1 20 (wk u p i)) (hV : rowV z o a b) (ho : o ≠ 8 ∧ o ≠ 9 ∧ o ≠ 10 ∧ o ≠ 11 ∧ o ≠ 12) : WSim g z u p σ (wkF g z o a b) (S_stepO σ u p o a b) := by
  rcases op_cs hV.1 with rfl | rfl | rfl | rfl | rfl | rfl | rfl | rfl | rfl | rfl | rfl | rfl | rfl | rfl
  · obtain ⟨n, rfl, hn⟩ := hV.2.1 (Or.inl rfl)
    have en : (nI n).toNatClampNeg = n := nI_clamp (by omega)
    show WSim g z u p σ (stB g z (nI n) b) (0, sA σ 20 (wk u p (nI n).toNatClampNeg) b.toInt8.toInt32)
    rw [en]
    exact WS_set hn hz b
  · obtain ⟨n, rfl, hn⟩ := hV.2.1 (Or.inr (Or.inr (Or.inr ⟨by decide, by decide⟩)))
    obtain ⟨m, rfl, hm⟩ := hV.2.2.1 ⟨by decide, by decide⟩
    have en : (nI n).toNatClampNeg = n := nI_clamp (by omega)
    have em : (nI m).toNatClampNeg = m := nI_clamp (by omega)
    show WSim g z u p σ (stB g z (nI n) (vB g z (nI m))) (0, sA σ 20 (wk u p (nI n).toNatClampNeg) (σ.1 20 (wk u p (nI m).toNatClampNeg)).toInt8.toInt32)
    rw [en, em, vB_at hm hz, hg m hm]
    exact WS_set hn hz _
  · obtain ⟨n, rfl, hn⟩ := hV.2.1 (Or.inr (Or.inr (Or.inr ⟨by decide, by decide⟩)))
    obtain ⟨m, rfl, hm⟩ := hV.2.2.1 ⟨by decide, by decide⟩
    have en : (nI n).toNatClampNeg = n := nI_clamp (by omega)
    have em : (nI m).toNatClampNeg = m := nI_clamp (by omega)
    show WSim g z u p σ (stB g z (nI n) (vB g z (nI n) + vB g z (nI m))) (0, sA σ 20 (wk u p (nI n).toNatClampNeg) (σ.1 20 (wk u p (nI n).toNatClampNeg) + σ.1 20 (wk u p (nI m).toNatClampNeg)).toInt8.toInt32)
    rw [en, em, vB_at hm hz, vB_at hn hz, hg m hm, hg n hn]
    exact WS_set hn hz _
  · obtain ⟨n, rfl, hn⟩ := hV.2.1 (Or.inr (Or.inr (Or.inr ⟨by decide, by decide⟩)))
    obtain ⟨m, rfl, hm⟩ := hV.2.2.1 ⟨by decide, by decide⟩
    have en : (nI n).toNatClampNeg = n := nI_clamp (by omega)
    have em : (nI m).toNatClampNeg = m := nI_clamp (by omega)
    show WSim g z u p σ (stB g z (nI n) (vB g z (nI n) - vB g z (nI m))) (0, sA σ 20 (wk u p (nI n).toNatClampNeg) (σ.1 20 (wk u p (nI n).toNatClampNeg) - σ.1 20 (wk u p (nI m).toNatClampNeg)).toInt8.toInt32)
    rw [en, em, vB_at hm hz, vB_at hn hz, hg m hm, hg n hn]
    exact WS_set hn hz _
  · obtain ⟨n, rfl, hn⟩ := hV.2.1 (Or.inr (Or.inr (Or.inr ⟨by decide, by decide⟩)))
    obtain ⟨m, rfl, hm⟩ := hV.2.2.1 ⟨by decide, by decide⟩
    have en : (nI n).toNatClampNeg = n := nI_clamp (by omega)
    have em : (nI m).toNatClampNeg = m := nI_clamp (by omega)
    show WSim g z u p σ (stB g z (nI n) (vB g z (nI n) * vB g z (nI m))) (0, sA σ 20 (wk u p (nI n).toNatClampNeg) (σ.1 20 (wk u p (nI n).toNatClampNeg) * σ.1 20 (wk u p (nI m).toNatClampNeg)).toInt8.toInt32)
    rw [en, em, vB_at hm hz, vB_at hn hz, hg m hm, hg n hn]
    exact WS_set hn hz _
  · obtain ⟨n, rfl, hn⟩ := hV.2.1 (Or.inr (Or.inr (Or.inr ⟨by decide, by decide⟩)))
    obtain ⟨m, rfl, hm⟩ := hV.2.2.1 ⟨by decide, by decide⟩
    have en : (nI n).toNatClampNeg = n := nI_clamp (by omega)
    have em : (nI m).toNatClampNeg = m := nI_clamp (by omega)
    show WSim g z u p σ (if vB g z (nI m) = 0 then (1, g) else stB g z (nI n) (vB g z (nI n) / vB g z (nI m))) (if σ.1 20 (wk u p (nI m).toNatClampNeg) = 0 then (1, σ) else (0, sA σ 20 (wk u p (nI n).toNatClampNeg) (σ.1 20 (wk u p (nI n).toNatClampNeg) / σ.1 20 (wk u p (nI m).toNatClampNeg)).toInt8.toInt32))
    rw [en, em, vB_at hm hz, vB_at hn hz, hg m hm, hg n hn]
    by_cases h0 : σ.1 20 (wk u p m) = 0
    · rw [if_pos h0, if_pos h0]; exact WS_no 1
    · rw [if_neg h0, if_neg h0]; exact WS_set hn hz _
  · obtain ⟨n, rfl, hn⟩ := hV.2.1 (Or.inr (Or.inr (Or.inr ⟨by decide, by decide⟩)))
    obtain ⟨m, rfl, hm⟩ := hV.2.2.1 ⟨by decide, by decide⟩
    have en : (nI n).toNatClampNeg = n := nI_clamp (by omega)
    have em : (nI m).toNatClampNeg = m := nI_clamp (by omega)
    show WSim g z u p σ (if vB g z (nI m) = 0 then (1, g) else stB g z (nI n) (vB g z (nI n) - vB g z (nI n) / vB g z (nI m) * vB g z (nI m))) (if σ.1 20 (wk u p (nI m).toNatClampNeg) = 0 then (1, σ) else (0, sA σ 20 (wk u p (nI n).toNatClampNeg) (σ.1 20 (wk u p (nI n).toNatClampNeg) - σ.1 20 (wk u p (nI n).toNatClampNeg) / σ.1 20 (wk u p (nI m).toNatClampNeg) * σ.1 20 (wk u p (nI m).toNatClampNeg)).toInt8.toInt32))
    rw [en, em, vB_at hm hz, vB_at hn hz, hg m hm, hg n hn]
    by_cases h0 : σ.1 20 (wk u p m) = 0
    · rw [if_pos h0, if_pos h0]; exact WS_no 1
    · rw [if_neg h0, if_neg h0]; exact WS_set hn hz _
  · obtain ⟨n, rfl, hn⟩ := hV.2.1 (Or.inr (Or.inr (Or.inr ⟨by decide, by decide⟩)))
    obtain ⟨m, rfl, hm⟩ := hV.2.2.1 ⟨by decide, by decide⟩
    have en : (nI n).toNatClampNeg = n := nI_clamp (by omega)
    have em : (nI m).toNatClampNeg = m := nI_clamp (by omega)
    show WSim g z u p σ (stB g z (vB g z (nI n)) (vB g z (nI m))) (if σ.1 20 (wk u p (nI n).toNatClampNeg) < 0 then (2, σ) else if σ.1 20 (wk u p (nI n).toNatClampNeg) < σ.1 0 p then (0, sA σ 20 (wk u p (σ.1 20 (wk u p (nI n).toNatClampNeg)).toNatClampNeg) (σ.1 20 (wk u p (nI m).toNatClampNeg)).toInt8.toInt32) else (2, σ))
    rw [en, em, vB_at hm hz, vB_at hn hz, hg m hm, hg n hn, e0]
    obtain ⟨x, hx⟩ : ∃ x, σ.1 20 (wk u p n) = x := ⟨_, rfl⟩
    rw [hx]
    by_cases h0 : x < 0
    · rw [if_pos h0]
      unfold stB
      rw [if_neg (fun h9 => absurd h0 (Int32.not_lt.mpr h9.1))]
      exact WS_no 2
    · rw [if_neg h0]
      by_cases h1 : x < nI z
      · rw [if_pos h1]
        obtain ⟨j, hj, rfl⟩ := nI_of h0
        have hjz : j < z := (nI_ltI hj (by omega)).mp h1
        rw [nI_clamp hj]
        exact WS_set hjz hz _
      · rw [if_neg h1]
        unfold stB
        rw [if_neg (fun h9 => h1 h9.2)]
        exact WS_no 2
  · exact absurd rfl (ho.1)
  · exact absurd rfl (ho.2.1)
  · exact absurd rfl (ho.2.2.1)
  · exact absurd rfl (ho.2.2.2.1)
  · exact absurd rfl (ho.2.2.2.2)
  · obtain ⟨n, rfl, hn⟩ := hV.2.1 (Or.inr (Or.inl rfl))
    have en : (nI n).toNatClampNeg = n := nI_clamp (by omega)
    show WSim g z u p σ (if vB g z (nI n) ≤ b then (0, g) else (4, g)) (if σ.1 20 (wk u p (nI n).toNatClampNeg) ≤ b then (0, σ) else (4, σ))
    rw [en, vB_at hn hz, hg n hn]
    by_cases h0 : σ.1 20 (wk u p n) ≤ b
    · rw [if_pos h0, if_pos h0]; exact WS_no 0
    · rw [if_neg h0, if_neg h0]; exact WS_no 4

theorem gWs_id (g : GX) (c : Nat) : gWs g c (gW g c) = g := by
  unfold gWs
  rw [show va_up g.2.2.2.2.1 c (gW g c) = g.2.2.2.2.1 from va_up_id _ _]
theorem r_work (l : Launch) (D : va_G) {K : Nat → ClassId} {L : List Nat} {f : Nat → va_E} {ad : AD} {κ : TG} {g : GX} {σ : MS} (hP : PX K L f ad κ g σ) (hI : Inv σ) {u c : Nat} (hL : Lk g σ u) (hu1 : 1 ≤ u) (hu2 : u ≤ nF σ 2) (hc1 : 1 ≤ c) (hc2 : c ≤ nF σ 3) (h6 : nA σ 6 c = u) (hl : nA σ 14 (13 * u + nA σ 7 c) = c) (hs : ¬ σ.1 10 c = 0) {r : Nat} (hr1 : 1 ≤ r) (hr2 : r ≤ nA σ 8 c) (ho : (prO σ (nA σ 7 c) r).1 ≠ 8 ∧ (prO σ (nA σ 7 c) r).1 ≠ 9 ∧ (prO σ (nA σ 7 c) r).1 ≠ 10 ∧ (prO σ (nA σ 7 c) r).1 ≠ 11 ∧ (prO σ (nA σ 7 c) r).1 ≠ 12) : Mc l yX2_work (wM yX2_work cX2_work 4 (some .int)) (rmL 2 0 0) D (yY K) [.ref (ad 15 c 0), .ref (ad 11 (nA σ 7 c) r)] (va_pl L f) (fun v w => v = some (.int (S_step σ c r).1) ∧ ∃ f1 g1, w = va_pl L f1 ∧ PX K L f1 ad κ g1 (S_step σ c r).2 ∧ Lk g1 (S_step σ c r).2 u ∧ gfl g1 = gfl g ∧ geb g1 = geb g) 0 0 := by
  have hcl := hI.cls c hc1 hc2
  have hc40 := hI.nc.2
  have hp12 := hI.np.2
  have hz := hI.sz (p := nA σ 7 c) (by omega)
  have h11 := px11 hP _ hcl.2.1.1 hcl.2.1.2 r hr1 (by omega)
  have hV := (hI.prog _ hcl.2.1.1 hcl.2.1.2).2.2 r hr1 (by omega)
  have hW := (hL.2.2.1 c hc1 hc2 (by rw [h6]; exact hl)).2 hs
  have hS := wk_sim (g := gW g c) (u := u) (p := nA σ 7 c) hz.2 hz.1 (fun i hi => by rw [hW i hi, h6]) hV ho
  refine Mc.imp (x_work l D K L f (σ.1 2 (60 * nA σ 7 c + r)) (σ.1 3 (60 * nA σ 7 c + r)) (σ.1 4 (60 * nA σ 7 c + r)) (ad 15 c 0) (nA σ 0 (nA σ 7 c)) (ad 11 (nA σ 7 c) r) (gW g c) (ad 12 (nA σ 6 c) 0) (ad 9 (nA σ 7 c) 0) (ad 16 c 0) (if gfa g c = true then some (ad 17 c 0) else none) (nI c) (nI (nA σ 8 c)) (gsd g c) (σ.1 11 c) (σ.1 9 c) (px15 hP c hc1 hc2).1 (px15 hP c hc1 hc2).2.2 (px16 hP c hc1 hc2).1 (px16 hP c hc1 hc2).2.2 h11.1 h11.2.2 hz.2) (fun v w h => ?_)
  obtain ⟨rfl, f1, rfl, rfl⟩ := h
  have hst : S_step σ c r = S_stepO σ u (nA σ 7 c) (σ.1 2 (60 * nA σ 7 c + r)) (σ.1 3 (60 * nA σ 7 c + r)) (σ.1 4 (60 * nA σ 7 c + r)) := by unfold S_step; rw [h6]; rfl
  have hS : WSim (gW g c) (nA σ 0 (nA σ 7 c)) u (nA σ 7 c) σ (wkF (gW g c) (nA σ 0 (nA σ 7 c)) (σ.1 2 (60 * nA σ 7 c + r)) (σ.1 3 (60 * nA σ 7 c + r)) (σ.1 4 (60 * nA σ 7 c + r))) (S_step σ c r) := by rw [hst]; exact hS
  obtain ⟨k, hk⟩ : ∃ k, wkF (gW g c) (nA σ 0 (nA σ 7 c)) (σ.1 2 (60 * nA σ 7 c + r)) (σ.1 3 (60 * nA σ 7 c + r)) (σ.1 4 (60 * nA σ 7 c + r)) = k := ⟨_, rfl⟩
  obtain ⟨y, hy⟩ : ∃ y, S_step σ c r = y := ⟨_, rfl⟩
  rw [hk, hy] at hS
  rw [hk, hy]
  obtain ⟨e1, h | ⟨i, x, hi, e2, e3⟩⟩ := hS
  · refine ⟨by rw [e1], _, gWs g c k.2, rfl, ?_, ?_, rfl, rfl⟩
    · rw [h.1]; exact PX_work hP hc1 hc2 k.2
    · rw [h.1, h.2, gWs_id]; exact hL
  · refine ⟨by rw [e1], _, gWs g c k.2, rfl, ?_, ?_, rfl, rfl⟩
    · rw [e2]; exact PX_kept (PX_work hP hc1 hc2 k.2) (j := 20) (by decide) _ _
    · rw [e2, e3]
      have h9 := Lk_byte hI hL hc1 hc2 (by rw [h6]; exact hl) hi x
      rw [h6] at h9
      exact h9
theorem PX_zW {K : Nat → ClassId} {L : List Nat} {f : Nat → va_E} {ad : AD} {κ : TG} {g : GX} {σ : MS} (hP : PX K L f ad κ g σ) (b : Nat) : ∀ k : Nat, PX K L f ad κ g (zW σ b k)
  | 0 => hP
  | k + 1 => PX_kept (PX_zW hP b k) (j := 20) (by decide) _ _
theorem fl_z {g : Nat → Int32} {z i : Nat} (h : i < z) : fl g 0 z i = 0 := if_pos h
theorem r_start (l : Launch) (D : va_G) {K : Nat → ClassId} {L : List Nat} {f : Nat → va_E} {ad : AD} {κ : TG} {g : GX} {σ : MS} (hP : PX K L f ad κ g σ) (hI : Inv σ) {u c : Nat} (hL : Lk g σ u) (hu1 : 1 ≤ u) (hu2 : u ≤ nF σ 2) (hc1 : 1 ≤ c) (hc2 : c ≤ nF σ 3) (h6 : nA σ 6 c = u) (hl : nA σ 14 (13 * u + nA σ 7 c) = c) : Mc l yX2_start (wM yX2_start cX2_start 1 (some .boolean)) (rmL 1 0 0) D (yY K) [.ref (ad 15 c 0)] (va_pl L f) (fun v w => ((S_enter σ c).1 = 0 ∧ v = some (.int 1) ∧ ∃ f1 g1, w = va_pl L f1 ∧ PX K L f1 ad κ g1 (S_enter σ c).2 ∧ Lk g1 (S_enter σ c).2 u ∧ gfl g1 = gfl g ∧ geb g1 = geb g) ∨ (¬ σ.1 5 (nA σ 7 c) = 0 ∧ σ.1 10 c = 0 ∧ v = some (.int 0) ∧ ∃ f1 g1, w = va_pl L f1 ∧ PX K L f1 ad κ g1 (sA σ 11 c 1) ∧ Lk g1 (sA σ 11 c 1) u ∧ gfl g1 = gfl g ∧ geb g1 = geb g)) 0 0 := by
  have hcl := hI.cls c hc1 hc2
  have hc40 := hI.nc.2
  have hp12 := hI.np.2
  have hz := hI.sz (p := nA σ 7 c) (by omega)
  have hsd := (hL.2.2.1 c hc1 hc2 (by rw [h6]; exact hl)).1
  have h9 := px9 hP _ hcl.2.1.1 hcl.2.1.2
  refine Mc.imp (x_start l D K L f (ad 15 c 0) (nA σ 0 (nA σ 7 c)) (ad 10 (nA σ 7 c) 0) (gW g c) (ad 12 (nA σ 6 c) 0) (ad 9 (nA σ 7 c) 0) (ad 16 c 0) (if gfa g c = true then some (ad 17 c 0) else none) (nI c) (nI (nA σ 8 c)) (gsd g c) (σ.1 11 c) (σ.1 9 c) (nI (nA σ 7 c)) (nI (nA σ 0 (nA σ 7 c))) (σ.1 5 (nA σ 7 c)) (nI (nA σ 1 (nA σ 7 c))) (px15 hP c hc1 hc2).1 (px15 hP c hc1 hc2).2.2 (px16 hP c hc1 hc2).1 (px16 hP c hc1 hc2).2.2 h9.1 h9.2.2 hz.2) (fun v w h => ?_)
  obtain ⟨rfl, f1, rfl, rfl⟩ := h
  rw [hsd]
  by_cases hs : σ.1 10 c = 0
  · by_cases h5 : σ.1 5 (nA σ 7 c) = 0
    · refine Or.inl ⟨ent_0 hs h5 ▸ rfl, by rw [bI_t (Or.inr h5)], _, gC (gWs g c (fl (gW g c) 0 (nA σ 0 (nA σ 7 c)))) c 1, rfl, ?_, ?_, rfl, rfl⟩
      · rw [ent_0 hs h5, if_pos hs, if_pos h5]
        have h1 := PX_cls (PX_work hP hc1 hc2 (fl (gW g c) 0 (nA σ 0 (nA σ 7 c)))) hc1 hc2 1 (σ.1 11 c) (σ.1 9 c)
        have e3 : sC2 σ c (σ.1 11 c) (σ.1 9 c) = σ := by unfold sC2; rw [sA_id, sA_id]
        rw [e3] at h1
        exact PX_kept (PX_zW (PX_c h1 (cor_push σ c)) _ 100) (j := 10) (by decide) c 1
      · rw [ent_0 hs h5]
        have h1 := Lk_start (Inv_cor2 hI (cor_push σ c)) (Lk_c hL (cor_push σ c)) hc1 hc2 (show nA σ 14 (13 * nA σ 6 c + nA σ 7 c) = c by rw [h6]; exact hl) (fl (gW g c) 0 (nA σ 0 (nA σ 7 c))) (fun i hi => fl_z hi)
        exact h1
    · refine Or.inr ⟨h5, hs, by rw [bI_f (fun h9 => h9.elim (fun h8 => h8 hs) h5)], _, g, rfl, ?_, ?_, rfl, rfl⟩
      · rw [if_pos hs, if_neg h5]
        have h1 := PX_cls hP hc1 hc2 (gsd g c) 1 (σ.1 9 c)
        have e2 : gC g c (gsd g c) = g := by
          unfold gC
          rw [show upd g.2.2.2.1 c (gsd g c) = g.2.2.2.1 from upd_id _ _]
        have e3 : sC2 σ c 1 (σ.1 9 c) = sA σ 11 c 1 := by unfold sC2; rw [sA_io σ c c 1 (show 9 ≠ 11 by decide)]
        rw [e2, e3] at h1
        rw [← hsd]
        exact h1
      · exact hL
  · refine Or.inl ⟨ent_s hs ▸ rfl, by rw [bI_t (Or.inl hs)], f, g, by rw [if_neg hs], ?_, ?_, rfl, rfl⟩
    · rw [ent_s hs]; exact PX_c hP (cor_push σ c)
    · rw [ent_s hs]; exact Lk_c hL (cor_push σ c)
