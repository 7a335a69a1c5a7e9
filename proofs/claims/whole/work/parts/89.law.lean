/-! the law: its world, its calls, its end -/
def lawW (K : Nat → ClassId) (wx : va_W) (am : Nat) (A : Nat → Nat) (σ : MS) (cel : Nat) (gl : Nat → Int64) : va_W := wx ++ (mW K am A σ ++ [(cel, .inl (K 7, 1, .inr (.inl gl)))])
section GLC
variable {Γ : gT} {K : Nat → ClassId} {L : List Nat} {f : Nat → va_E} {ad : AD} {κ : TG} {g : GX} {σ τ : MS} {am cel : Nat} {A : Nat → Nat} {gl : Nat → Int64} {kc ks pc n : Nat} {lv : List (Nat × Value)} {st : List Value} {cc : ByteArray} {Ts : List Cond} {own : String} {post : Option Value → va_W → Prop} {ret : Option FieldType} {y : MethodName} {bytes : ByteArray} {maxL index mc ms na : Nat} {rm : Room} {As rest : List Value}
theorem g_callX (h : gOk Γ cc Ts own) (hE : gEv Γ) (hU : ∀ w ∈ wU, w ∈ Ts) (hYY : gY Γ = yY K) (hdg : decode cc pc = .ok (.invokevirtual index, 3)) (hn : pc + 3 = n) (hy : yV y bytes maxL ret RX7 na) (hlk : Cond.methodLink own index y ∈ wU) (hQ : RX K L f ad κ g τ 0)
    (hM : Mc (gLa Γ) y (wM y bytes maxL ret) rm (gD Γ) (yY K) (.ref (ad 0 0 0) :: As) (va_pl L f) post mc ms) (hrm : rm.cells = mc ∧ rm.slots = ms) (hR : rm.frames + 1 ≤ (gRm Γ).frames ∧ 8 + (maxL + 11) + rm.locals ≤ (gRm Γ).locals) (hna : As.length = na)
    (hst : st = As.reverse ++ .ref (ad 0 0 0) :: rest) (hcat : (rest.map fun v => v.category).sum ≤ 8) (hcells : kc + mc ≤ (gRm Γ).cells ∧ ks + ms ≤ (gRm Γ).slots)
    (k : ∀ (v : Option Value) (w1 : va_W), post v w1 → G Γ (lawW K w1 am A σ cel gl) (kc + mc) (ks + ms) n lv (v.toList ++ rest)) : G Γ (lawW K (va_pl L f) am A σ cel gl) kc ks pc lv st := by
  obtain ⟨q0, hq0⟩ := p_at (f := f) (px0 hQ.1).1
  have hq1 : (va_pl L f)[q0]? = some (ad 0 0 0, .inr (9, [.ref (ad 1 0 0), .ref (ad 2 0 0), .ref (ad 3 0 0), .ref (ad 8 0 0), .int (nI (nF τ 2))])) := hq0.trans (congrArg (fun z => some (ad 0 0 0, z)) (px0 hQ.1).2.2)
  exact g_callV [] (mW K am A σ ++ [(cel, .inl (K 7, 1, .inr (.inl gl)))]) h hE hU hYY hdg hn hy hlk hM hrm hR hna hq1 rfl rfl hst hcat hcells k
theorem g_callM {V : Value} {wx : va_W} (h : gOk Γ cc Ts own) (hE : gEv Γ) (hU : ∀ w ∈ wU, w ∈ Ts) (hYY : gY Γ = yY K) (hdg : decode cc pc = .ok (.invokevirtual index, 3)) (hn : pc + 3 = n) (hy : yV y bytes maxL ret RX8 na) (hlk : Cond.methodLink own index y ∈ wU)
    (hM : Mc (gLa Γ) y (wM y bytes maxL ret) rm (gD Γ) (yY K) (.ref am :: As) (mW K am A σ) (fun v w => v = some V ∧ w = mW K am A τ) 0 0) (hrm : rm.cells = 0 ∧ rm.slots = 0) (hR : rm.frames + 1 ≤ (gRm Γ).frames ∧ 8 + (maxL + 11) + rm.locals ≤ (gRm Γ).locals) (hna : As.length = na)
    (hst : st = As.reverse ++ .ref am :: rest) (hcat : (rest.map fun v => v.category).sum ≤ 8) (hcells : kc ≤ (gRm Γ).cells ∧ ks ≤ (gRm Γ).slots)
    (k : G Γ (lawW K wx am A τ cel gl) kc ks n lv (V :: rest)) : G Γ (lawW K wx am A σ cel gl) kc ks pc lv st := by
  unfold lawW at k ⊢
  rw [← List.append_assoc] at k ⊢
  refine g_callV wx [(cel, .inl (K 7, 1, .inr (.inl gl)))] h hE hU hYY hdg hn hy hlk hM hrm hR hna (ci := 10) (q0 := 0) rfl rfl rfl hst hcat hcells (fun v w1 hp => ?_)
  obtain ⟨rfl, rfl⟩ := hp
  exact k
theorem g_callL {hh : List (Nat × Nat × Nat × Nat)} {V : Int32} {P : Nat → va_W → Int64 → Prop} (h : gOk Γ cc Ts own) (hE : gEv Γ) (hT : gTv Γ) (hU : ∀ w ∈ wU, w ∈ Ts) (hYY : gY Γ = yY K) (hdg : decode cc pc = .ok (.invokestatic index, 3)) (hn : pc + 3 = n) (hy : ySW y bytes maxL ret hh na) (hlk : Cond.methodLink own index y ∈ wU)
    (hM : McX (gLa Γ) y (wMW y bytes maxL ret hh) rm (gD Γ) (yY K) As (va_pl L f ++ mW K am A σ ++ [(cel, .inl (K 7, 1, .inr (.inl gl)))]) (fun v w => v = some (.int V) ∧ ∃ (w1 : va_W) (gl1 : Nat → Int64), w = w1 ++ mW K am A σ ++ [(cel, .inl (K 7, 1, .inr (.inl gl1)))] ∧ RW K (ad 0 0 0) τ w1 ∧ (V = 0 → P 0 w1 (gl1 0))) (fun _ _ => False) mc ms) (hrm : rm.cells = mc ∧ rm.slots = ms) (hR : rm.frames + 1 ≤ (gRm Γ).frames ∧ 8 + (maxL + 11) + rm.locals ≤ (gRm Γ).locals) (hna : As.length = na)
    (hst : st = As.reverse ++ rest) (hcat : (rest.map fun v => v.category).sum ≤ 8) (hcells : kc + mc ≤ (gRm Γ).cells ∧ ks + ms ≤ (gRm Γ).slots)
    (k : ∀ (w1 : va_W) (gl1 : Nat → Int64), RW K (ad 0 0 0) τ w1 → (V = 0 → P 0 w1 (gl1 0)) → G Γ (lawW K w1 am A σ cel gl1) (kc + mc) (ks + ms) n lv (.int V :: rest)) : G Γ (lawW K (va_pl L f) am A σ cel gl) kc ks pc lv st := by
  unfold lawW at k ⊢
  rw [← List.append_assoc]
  refine gx_callS h hE hT hU hYY hdg hn hy hlk hM hrm hR hna hst hcat hcells (fun v w1 hp => ?_)
  obtain ⟨rfl, w2, gl1, rfl, hW, hv⟩ := hp
  have := k w2 gl1 hW hv
  rw [← List.append_assoc] at this
  exact this
theorem g_lldW {wx : va_W} {v : Int64} (h : gOk Γ cc Ts own) (hY : gY Γ = yY K) (hdg : decode cc pc = .ok (.laload, 1)) (hn : pc + 1 = n) (hv : gl 0 = v) (k : G Γ (lawW K wx am A σ cel gl) kc ks n lv (.long v :: st)) : G Γ (lawW K wx am A σ cel gl) kc ks pc lv (.int 0 :: .ref cel :: st) := by
  unfold lawW at k ⊢
  rw [← List.append_assoc] at k ⊢
  exact g_lld h hY hdg hn hv k
end GLC
theorem run_H2 {σ : MS} (hI : Inv σ) {uu pp : Int32} {n : Nat} (hn : 2011 ≤ n) : ∀ u p : Nat, uu = nI u → pp = nI p → 1 ≤ u → u ≤ 8 → 1 ≤ p → p ≤ 12 → σ.1 12 u = 0 → 0 < nA σ 14 (13 * u + p) → σ.1 6 (nA σ 14 (13 * u + p)) = nI u ∧ (∃ pq, σ.1 7 (nA σ 14 (13 * u + p)) = nI pq ∧ 1 ≤ pq ∧ pq ≤ 12) ∧ RA u (S_enter (runBeg σ u) (nA σ 14 (13 * u + p))) ∧ doneD 0 (itD u 0 n (S_enter (runBeg σ u) (nA σ 14 (13 * u + p)))) ∧ ((itD u 0 n (S_enter (runBeg σ u) (nA σ 14 (13 * u + p)))).1 = 5 → ∃ d c : Nat, (itD u 0 n (S_enter (runBeg σ u) (nA σ 14 (13 * u + p)))).2.2 26 = nI (d + 1) ∧ d ≤ 11 ∧ (itD u 0 n (S_enter (runBeg σ u) (nA σ 14 (13 * u + p)))).2.1 22 d = nI c ∧ c ≤ 40) := by
  intro u p e1 e2 hu1 hu8 hp1 hp12 h12 hl
  have hcl := (hI.lat u p hu1 hu8 hp1 hp12).resolve_left (by omega)
  have h2 := (hI.cls _ (show 1 ≤ nA σ 14 (13 * u + p) by omega) hcl.1).1.2
  rw [hcl.2.1] at h2
  exact run_H hI hn (show 1 ≤ nI u ∧ nI u ≤ σ.2 2 from by rw [hI.nu.1]; exact rI_in hu1 h2 (by have := hI.nu.2; omega)) u p rfl e2 hu1 hu8 hp1 hp12 h12 hl
set_option maxHeartbeats 4000000 in
set_option maxRecDepth 100000 in
theorem lp_law {Γ : gT} {K : Nat → ClassId} (hX : gOk Γ code wU RL) (hE : gEv Γ) (hT : gTv Γ) (hstk : (gLa Γ).stackTraces = false) (hRm : gRm Γ = room_1) (hnL : gnL Γ = 8) (hY : gY Γ = yY K) (b N am cel ax : Nat) (A : Nat → Nat) (xs : Nat → Int32) (hSc : gSc Γ b N xs) (hN : N ≤ 3072) (hend : ∀ (ws : va_W) (kc ks : Nat) (lv : List (Nat × Value)), kc ≤ 601024 → ks ≤ 7293034 → G Γ ws kc ks 837 lv []) : ∀ (m j : Nat), j + m = 513 → ∀ (L : List Nat) (f : Nat → va_E) (ad : AD) (κ : TG) (g : GX) (σ : MS) (gl : Nat → Int64), RX K L f ad κ g σ 0 → ad 0 0 0 = ax → G Γ (lawW K (va_pl L f) am A σ cel gl) (36 + 80 * j) (20947 + 4360 * j) 23 [(4, .int (nI (6 * j))), (0, .ref b), (1, .ref ax), (2, .ref am), (3, .ref cel)] [] := by
  have hU : ∀ w ∈ wU, w ∈ wU := fun w h => h
  intro m
  induction m with
  | zero =>
    intro j hj L f ad κ g σ gl hQ eX
    have hj : j = 513 := hj
    by_cases h6 : 6 ≤ N
    · refine g_iload (n := 25) hX dL_law_23 rfl rfl ?_
      refine g_aload_n (n := 26) hX dL_law_25 rfl rfl rfl ?_
      refine g_sclen (n := 27) hX hSc dL_law_26 rfl ?_
      refine g_bipush (n := 29) (v := 6) hX dL_law_27 rfl rfl ?_
      refine g_isub (n := 30) (v := nI (N - 6)) hX dL_law_29 rfl (pk_sub (a := N) (b := 6) h6) ?_
      refine g_icmp_gt (n := 33) (tgt := 837) hX dL_law_30 rfl (by decide) (fun c30 => ?_) (fun c30 => absurd (nI_lt (a := N - 6) (b := 6 * j) (by omega) (by omega)) c30)
      exact hend _ _ _ _ (by omega) (by omega)
    · refine g_iload (n := 25) hX dL_law_23 rfl rfl ?_
      refine g_aload_n (n := 26) hX dL_law_25 rfl rfl rfl ?_
      refine g_sclen (n := 27) hX hSc dL_law_26 rfl ?_
      refine g_bipush (n := 29) (v := 6) hX dL_law_27 rfl rfl ?_
      refine g_isub (n := 30) (v := (nI N) - 6) hX dL_law_29 rfl rfl ?_
      refine g_icmp_gt (n := 33) (tgt := 837) hX dL_law_30 rfl (by decide) (fun c30 => ?_) (fun c30 => absurd (Int32.lt_of_lt_of_le (pk_sneg (a := N) (b := 6) (by decide) (by omega)) (nI_pos' (n := 6 * j) (by omega))) c30)
      exact hend _ _ _ _ (by omega) (by omega)
  | succ m ih =>
    intro j hj L f ad κ g σ gl hQ eX
    by_cases hgo : 6 * j + 6 ≤ N
    · subst eX
      have hI := hQ.2.2
      have htail : ∀ (L1 : List Nat) (f1 : Nat → va_E) (ad1 : AD) (κ1 : TG) (g1 : GX) (σ1 : MS) (gl1 : Nat → Int64), RX K L1 f1 ad1 κ1 g1 σ1 0 → ad1 0 0 0 = ad 0 0 0 → G Γ (lawW K (va_pl L1 f1) am A σ1 cel gl1) (36 + 80 * (j + 1)) (20947 + 4360 * (j + 1)) 831 [(4, .int (nI (6 * j))), (0, .ref b), (1, .ref (ad 0 0 0)), (2, .ref am), (3, .ref cel)] [] := by
        intro L1 f1 ad1 κ1 g1 σ1 gl1 hQ1 e1
        refine g_iinc (n := 834) (v := nI (6 * (j + 1))) (lv' := [(4, .int (nI (6 * (j + 1)))), (0, .ref b), (1, .ref (ad 0 0 0)), (2, .ref am), (3, .ref cel)]) hX dL_law_831 rfl rfl (nI_add (6 * j) 6) (by rw [hnL]; rfl) rfl ?_
        refine g_goto (n := 23) hX dL_law_834 (by decide) ?_
        refine g_pick (lv' := [(4, .int (nI (6 * (j + 1)))), (0, .ref b), (1, .ref (ad 0 0 0)), (2, .ref am), (3, .ref cel)]) [0, 1, 2, 3, 4] rfl ?_
        exact ih (j + 1) (by omega) L1 f1 ad1 κ1 g1 σ1 gl1 hQ1 e1
      obtain ⟨x0, hx0⟩ : ∃ x, xs (6 * j) = x := ⟨_, rfl⟩
      obtain ⟨x1, hx1⟩ : ∃ x, xs (6 * j + 1) = x := ⟨_, rfl⟩
      obtain ⟨x2, hx2⟩ : ∃ x, xs (6 * j + 2) = x := ⟨_, rfl⟩
      obtain ⟨x3, hx3⟩ : ∃ x, xs (6 * j + 3) = x := ⟨_, rfl⟩
      obtain ⟨x4, hx4⟩ : ∃ x, xs (6 * j + 4) = x := ⟨_, rfl⟩
      obtain ⟨x5, hx5⟩ : ∃ x, xs (6 * j + 5) = x := ⟨_, rfl⟩
      obtain ⟨M, hM⟩ : ∃ M : Nat, 2011 ≤ M := ⟨2011, Nat.le_refl _⟩
      rcases sw_split (x0 &&& 15) 0 14 with hsw | hsw
      · refine g_iload (n := 25) hX dL_law_23 rfl rfl ?_
        refine g_aload_n (n := 26) hX dL_law_25 rfl rfl rfl ?_
        refine g_sclen (n := 27) hX hSc dL_law_26 rfl ?_
        refine g_bipush (n := 29) (v := 6) hX dL_law_27 rfl rfl ?_
        refine g_isub (n := 30) (v := nI (N - 6)) hX dL_law_29 rfl (pk_sub (a := N) (b := 6) (by omega)) ?_
        refine g_icmp_gt (n := 33) (tgt := 837) hX dL_law_30 rfl (by decide) (fun c30 => absurd c30 (nI_nlt (a := N - 6) (b := 6 * j) (by omega) (by omega))) (fun c30 => ?_)
        refine g_aload_n (n := 34) hX dL_law_33 rfl rfl rfl ?_
        refine g_iload (n := 36) hX dL_law_34 rfl rfl ?_
        refine g_scl (n := 37) (v := x0) hX hSc dL_law_36 rfl (vp_in_nI (show 6 * j < N by omega) (by omega)) (by rw [nI_clamp (by omega)]; exact hx0) ?_
        refine g_bipush (n := 39) (v := 15) hX dL_law_37 rfl rfl ?_
        refine g_iand (n := 40) (v := x0 &&& 15) hX dL_law_39 rfl rfl ?_
        refine g_tableOut (n := 831) hX dL_law_40 hsw (by decide) ?_
        refine g_widen (kc' := 36 + 80 * (j + 1)) (ks' := 20947 + 4360 * (j + 1)) (by omega) (by omega) ?_
        exact htail L f ad κ g σ gl hQ rfl
      · obtain ⟨kz, hk1, hk2⟩ := hsw
        rcases (show kz = 0 ∨ kz = 1 ∨ kz = 2 ∨ kz = 3 ∨ kz = 4 ∨ kz = 5 ∨ kz = 6 ∨ kz = 7 ∨ kz = 8 ∨ kz = 9 ∨ kz = 10 ∨ kz = 11 ∨ kz = 12 ∨ kz = 13 ∨ kz = 14 by omega) with hkz | hkz | hkz | hkz | hkz | hkz | hkz | hkz | hkz | hkz | hkz | hkz | hkz | hkz | hkz
        · have ho : x0 &&& 15 = (0 : Int32) := sw_val (hkz ▸ hk1) (by decide)
          by_cases hz2 : x2 = 0
          · refine g_iload (n := 25) hX dL_law_23 rfl rfl ?_
            refine g_aload_n (n := 26) hX dL_law_25 rfl rfl rfl ?_
            refine g_sclen (n := 27) hX hSc dL_law_26 rfl ?_
            refine g_bipush (n := 29) (v := 6) hX dL_law_27 rfl rfl ?_
            refine g_isub (n := 30) (v := nI (N - 6)) hX dL_law_29 rfl (pk_sub (a := N) (b := 6) (by omega)) ?_
            refine g_icmp_gt (n := 33) (tgt := 837) hX dL_law_30 rfl (by decide) (fun c30 => absurd c30 (nI_nlt (a := N - 6) (b := 6 * j) (by omega) (by omega))) (fun c30 => ?_)
            refine g_aload_n (n := 34) hX dL_law_33 rfl rfl rfl ?_
            refine g_iload (n := 36) hX dL_law_34 rfl rfl ?_
            refine g_scl (n := 37) (v := x0) hX hSc dL_law_36 rfl (vp_in_nI (show 6 * j < N by omega) (by omega)) (by rw [nI_clamp (by omega)]; exact hx0) ?_
            refine g_bipush (n := 39) (v := 15) hX dL_law_37 rfl rfl ?_
            refine g_iand (n := 40) (v := x0 &&& 15) hX dL_law_39 rfl rfl ?_
            refine g_tableIn (n := 116) (off := 76) hX dL_law_40 (by rw [ho]; decide) (by rw [ho]; decide) (by rw [ho]; rfl) (by decide) ?_
            refine g_aload_n (n := 117) hX dL_law_116 rfl rfl rfl ?_
            refine g_aload_n (n := 118) hX dL_law_117 rfl rfl rfl ?_
            refine g_iload (n := 120) hX dL_law_118 rfl rfl ?_
            refine g_iconst (n := 121) (v := 1) hX dL_law_120 rfl rfl ?_
            refine g_iadd (n := 122) (v := nI (6 * j + 1)) hX dL_law_121 rfl (nI_add (6 * j) (1)) ?_
            refine g_scl (n := 123) (v := x1) hX hSc dL_law_122 rfl (vp_in_nI (show 6 * j + 1 < N by omega) (by omega)) (by rw [nI_clamp (by omega)]; exact hx1) ?_
            refine g_aload_n (n := 124) hX dL_law_123 rfl rfl rfl ?_
            refine g_iload (n := 126) hX dL_law_124 rfl rfl ?_
            refine g_iconst (n := 127) (v := 2) hX dL_law_126 rfl rfl ?_
            refine g_iadd (n := 128) (v := nI (6 * j + 2)) hX dL_law_127 rfl (nI_add (6 * j) (2)) ?_
            refine g_scl (n := 129) (v := x2) hX hSc dL_law_128 rfl (vp_in_nI (show 6 * j + 2 < N by omega) (by omega)) (by rw [nI_clamp (by omega)]; exact hx2) ?_
            refine g_if_eq (n := 132) (tgt := 136) hX dL_law_129 rfl (by decide) (fun c129 => ?_) (fun c129 => absurd hz2 c129)
            refine g_iconst (n := 137) (v := 0) hX dL_law_136 rfl rfl ?_
            refine g_callX (n := 140) (As := [.int x1, .int 0]) (rest := []) hX hE hU hY dL_law_137 rfl yv_X7_program um_L_31 hQ (F_program _ _ K L f ad κ g σ x1 0 hQ (Or.inl rfl)) ⟨rfl, rfl⟩ ⟨by rw [hRm]; exact Nat.le_of_ble_eq_true rfl, by rw [hRm]; exact Nat.le_of_ble_eq_true rfl⟩ rfl rfl (Nat.le_of_ble_eq_true rfl) ⟨by rw [hRm]; show 36 + 80 * j + 2 ≤ 601024; omega, by rw [hRm]; show 20947 + 4360 * j + 65 ≤ 7293034; omega⟩ (fun v0 w0 hq0 => ?_)
            obtain ⟨rfl, L1, f1, ad1, κ1, g1, rfl, e1, hQ1⟩ := hq0
            show G Γ (lawW K (va_pl L1 f1) am A σ cel gl) (36 + 80 * j + 2) (20947 + 4360 * j + 65) 140 [(4, .int (nI (6 * j))), (0, .ref b), (1, .ref (ad 0 0 0)), (2, .ref am), (3, .ref cel)] [.int ((S_program σ x1 0).1)]
            refine g_widen (kc' := 36 + 80 * (j + 1)) (ks' := 20947 + 4360 * (j + 1)) (by omega) (by omega) ?_
            refine g_aload_n (n := 141) hX dL_law_140 rfl rfl rfl ?_
            refine g_aload_n (n := 142) hX dL_law_141 rfl rfl rfl ?_
            refine g_iload (n := 144) hX dL_law_142 rfl rfl ?_
            refine g_iconst (n := 145) (v := 1) hX dL_law_144 rfl rfl ?_
            refine g_iadd (n := 146) (v := nI (6 * j + 1)) hX dL_law_145 rfl (nI_add (6 * j) (1)) ?_
            refine g_scl (n := 147) (v := x1) hX hSc dL_law_146 rfl (vp_in_nI (show 6 * j + 1 < N by omega) (by omega)) (by rw [nI_clamp (by omega)]; exact hx1) ?_
            refine g_aload_n (n := 148) hX dL_law_147 rfl rfl rfl ?_
            refine g_iload (n := 150) hX dL_law_148 rfl rfl ?_
            refine g_iconst (n := 151) (v := 2) hX dL_law_150 rfl rfl ?_
            refine g_iadd (n := 152) (v := nI (6 * j + 2)) hX dL_law_151 rfl (nI_add (6 * j) (2)) ?_
            refine g_scl (n := 153) (v := x2) hX hSc dL_law_152 rfl (vp_in_nI (show 6 * j + 2 < N by omega) (by omega)) (by rw [nI_clamp (by omega)]; exact hx2) ?_
            refine g_if_eq (n := 156) (tgt := 160) hX dL_law_153 rfl (by decide) (fun c153 => ?_) (fun c153 => absurd hz2 c153)
            refine g_iconst (n := 161) (v := 0) hX dL_law_160 rfl rfl ?_
            refine g_callM (n := 164) (As := [.int x1, .int 0]) (rest := [.int ((S_program σ x1 0).1)]) (V := .int ((S_program σ x1 0).1)) (τ := (S_program σ x1 0).2) hX hE hU hY dL_law_161 rfl yv_X8_program um_L_35 (m_program _ _ K am A σ x1 0 hI.1 (Or.inl rfl)) ⟨rfl, rfl⟩ ⟨by rw [hRm]; exact Nat.le_of_ble_eq_true rfl, by rw [hRm]; exact Nat.le_of_ble_eq_true rfl⟩ rfl rfl (Nat.le_of_ble_eq_true rfl) ⟨by rw [hRm]; show _ ≤ 601024; omega, by rw [hRm]; show _ ≤ 7293034; omega⟩ ?_
            show G Γ (lawW K (va_pl L1 f1) am A ((S_program σ x1 0).2) cel gl) (36 + 80 * (j + 1)) (20947 + 4360 * (j + 1)) 164 [(4, .int (nI (6 * j))), (0, .ref b), (1, .ref (ad 0 0 0)), (2, .ref am), (3, .ref cel)] [.int ((S_program σ x1 0).1), .int ((S_program σ x1 0).1)]
            refine g_icmp_eq (n := 167) (tgt := 831) hX dL_law_164 rfl (by decide) (fun c164 => ?_) (fun c164 => absurd rfl c164)
            refine g_pick (lv' := [(4, .int (nI (6 * j))), (0, .ref b), (1, .ref (ad 0 0 0)), (2, .ref am), (3, .ref cel)]) [0, 1, 2, 3, 4] rfl ?_
            exact htail L1 f1 ad1 κ1 g1 _ _ hQ1 e1
          · refine g_iload (n := 25) hX dL_law_23 rfl rfl ?_
            refine g_aload_n (n := 26) hX dL_law_25 rfl rfl rfl ?_
            refine g_sclen (n := 27) hX hSc dL_law_26 rfl ?_
            refine g_bipush (n := 29) (v := 6) hX dL_law_27 rfl rfl ?_
            refine g_isub (n := 30) (v := nI (N - 6)) hX dL_law_29 rfl (pk_sub (a := N) (b := 6) (by omega)) ?_
            refine g_icmp_gt (n := 33) (tgt := 837) hX dL_law_30 rfl (by decide) (fun c30 => absurd c30 (nI_nlt (a := N - 6) (b := 6 * j) (by omega) (by omega))) (fun c30 => ?_)
            refine g_aload_n (n := 34) hX dL_law_33 rfl rfl rfl ?_
            refine g_iload (n := 36) hX dL_law_34 rfl rfl ?_
            refine g_scl (n := 37) (v := x0) hX hSc dL_law_36 rfl (vp_in_nI (show 6 * j < N by omega) (by omega)) (by rw [nI_clamp (by omega)]; exact hx0) ?_
            refine g_bipush (n := 39) (v := 15) hX dL_law_37 rfl rfl ?_
            refine g_iand (n := 40) (v := x0 &&& 15) hX dL_law_39 rfl rfl ?_
            refine g_tableIn (n := 116) (off := 76) hX dL_law_40 (by rw [ho]; decide) (by rw [ho]; decide) (by rw [ho]; rfl) (by decide) ?_
            refine g_aload_n (n := 117) hX dL_law_116 rfl rfl rfl ?_
            refine g_aload_n (n := 118) hX dL_law_117 rfl rfl rfl ?_
            refine g_iload (n := 120) hX dL_law_118 rfl rfl ?_
            refine g_iconst (n := 121) (v := 1) hX dL_law_120 rfl rfl ?_
            refine g_iadd (n := 122) (v := nI (6 * j + 1)) hX dL_law_121 rfl (nI_add (6 * j) (1)) ?_
            refine g_scl (n := 123) (v := x1) hX hSc dL_law_122 rfl (vp_in_nI (show 6 * j + 1 < N by omega) (by omega)) (by rw [nI_clamp (by omega)]; exact hx1) ?_
            refine g_aload_n (n := 124) hX dL_law_123 rfl rfl rfl ?_
            refine g_iload (n := 126) hX dL_law_124 rfl rfl ?_
            refine g_iconst (n := 127) (v := 2) hX dL_law_126 rfl rfl ?_
            refine g_iadd (n := 128) (v := nI (6 * j + 2)) hX dL_law_127 rfl (nI_add (6 * j) (2)) ?_
            refine g_scl (n := 129) (v := x2) hX hSc dL_law_128 rfl (vp_in_nI (show 6 * j + 2 < N by omega) (by omega)) (by rw [nI_clamp (by omega)]; exact hx2) ?_
            refine g_if_eq (n := 132) (tgt := 136) hX dL_law_129 rfl (by decide) (fun c129 => absurd c129 hz2) (fun c129 => ?_)
            refine g_iconst (n := 133) (v := 1) hX dL_law_132 rfl rfl ?_
            refine g_goto (n := 137) hX dL_law_133 (by decide) ?_
            refine g_callX (n := 140) (As := [.int x1, .int 1]) (rest := []) hX hE hU hY dL_law_137 rfl yv_X7_program um_L_31 hQ (F_program _ _ K L f ad κ g σ x1 1 hQ (Or.inr rfl)) ⟨rfl, rfl⟩ ⟨by rw [hRm]; exact Nat.le_of_ble_eq_true rfl, by rw [hRm]; exact Nat.le_of_ble_eq_true rfl⟩ rfl rfl (Nat.le_of_ble_eq_true rfl) ⟨by rw [hRm]; show 36 + 80 * j + 2 ≤ 601024; omega, by rw [hRm]; show 20947 + 4360 * j + 65 ≤ 7293034; omega⟩ (fun v0 w0 hq0 => ?_)
            obtain ⟨rfl, L1, f1, ad1, κ1, g1, rfl, e1, hQ1⟩ := hq0
            show G Γ (lawW K (va_pl L1 f1) am A σ cel gl) (36 + 80 * j + 2) (20947 + 4360 * j + 65) 140 [(4, .int (nI (6 * j))), (0, .ref b), (1, .ref (ad 0 0 0)), (2, .ref am), (3, .ref cel)] [.int ((S_program σ x1 1).1)]
            refine g_widen (kc' := 36 + 80 * (j + 1)) (ks' := 20947 + 4360 * (j + 1)) (by omega) (by omega) ?_
            refine g_aload_n (n := 141) hX dL_law_140 rfl rfl rfl ?_
            refine g_aload_n (n := 142) hX dL_law_141 rfl rfl rfl ?_
            refine g_iload (n := 144) hX dL_law_142 rfl rfl ?_
            refine g_iconst (n := 145) (v := 1) hX dL_law_144 rfl rfl ?_
            refine g_iadd (n := 146) (v := nI (6 * j + 1)) hX dL_law_145 rfl (nI_add (6 * j) (1)) ?_
            refine g_scl (n := 147) (v := x1) hX hSc dL_law_146 rfl (vp_in_nI (show 6 * j + 1 < N by omega) (by omega)) (by rw [nI_clamp (by omega)]; exact hx1) ?_
            refine g_aload_n (n := 148) hX dL_law_147 rfl rfl rfl ?_
            refine g_iload (n := 150) hX dL_law_148 rfl rfl ?_
            refine g_iconst (n := 151) (v := 2) hX dL_law_150 rfl rfl ?_
            refine g_iadd (n := 152) (v := nI (6 * j + 2)) hX dL_law_151 rfl (nI_add (6 * j) (2)) ?_
            refine g_scl (n := 153) (v := x2) hX hSc dL_law_152 rfl (vp_in_nI (show 6 * j + 2 < N by omega) (by omega)) (by rw [nI_clamp (by omega)]; exact hx2) ?_
            refine g_if_eq (n := 156) (tgt := 160) hX dL_law_153 rfl (by decide) (fun c153 => absurd c153 hz2) (fun c153 => ?_)
            refine g_iconst (n := 157) (v := 1) hX dL_law_156 rfl rfl ?_
            refine g_goto (n := 161) hX dL_law_157 (by decide) ?_
            refine g_callM (n := 164) (As := [.int x1, .int 1]) (rest := [.int ((S_program σ x1 1).1)]) (V := .int ((S_program σ x1 1).1)) (τ := (S_program σ x1 1).2) hX hE hU hY dL_law_161 rfl yv_X8_program um_L_35 (m_program _ _ K am A σ x1 1 hI.1 (Or.inr rfl)) ⟨rfl, rfl⟩ ⟨by rw [hRm]; exact Nat.le_of_ble_eq_true rfl, by rw [hRm]; exact Nat.le_of_ble_eq_true rfl⟩ rfl rfl (Nat.le_of_ble_eq_true rfl) ⟨by rw [hRm]; show _ ≤ 601024; omega, by rw [hRm]; show _ ≤ 7293034; omega⟩ ?_
            show G Γ (lawW K (va_pl L1 f1) am A ((S_program σ x1 1).2) cel gl) (36 + 80 * (j + 1)) (20947 + 4360 * (j + 1)) 164 [(4, .int (nI (6 * j))), (0, .ref b), (1, .ref (ad 0 0 0)), (2, .ref am), (3, .ref cel)] [.int ((S_program σ x1 1).1), .int ((S_program σ x1 1).1)]
            refine g_icmp_eq (n := 167) (tgt := 831) hX dL_law_164 rfl (by decide) (fun c164 => ?_) (fun c164 => absurd rfl c164)
            refine g_pick (lv' := [(4, .int (nI (6 * j))), (0, .ref b), (1, .ref (ad 0 0 0)), (2, .ref am), (3, .ref cel)]) [0, 1, 2, 3, 4] rfl ?_
            exact htail L1 f1 ad1 κ1 g1 _ _ hQ1 e1
        · have ho : x0 &&& 15 = (1 : Int32) := sw_val (hkz ▸ hk1) (by decide)
          refine g_iload (n := 25) hX dL_law_23 rfl rfl ?_
          refine g_aload_n (n := 26) hX dL_law_25 rfl rfl rfl ?_
          refine g_sclen (n := 27) hX hSc dL_law_26 rfl ?_
          refine g_bipush (n := 29) (v := 6) hX dL_law_27 rfl rfl ?_
          refine g_isub (n := 30) (v := nI (N - 6)) hX dL_law_29 rfl (pk_sub (a := N) (b := 6) (by omega)) ?_
          refine g_icmp_gt (n := 33) (tgt := 837) hX dL_law_30 rfl (by decide) (fun c30 => absurd c30 (nI_nlt (a := N - 6) (b := 6 * j) (by omega) (by omega))) (fun c30 => ?_)
          refine g_aload_n (n := 34) hX dL_law_33 rfl rfl rfl ?_
          refine g_iload (n := 36) hX dL_law_34 rfl rfl ?_
          refine g_scl (n := 37) (v := x0) hX hSc dL_law_36 rfl (vp_in_nI (show 6 * j < N by omega) (by omega)) (by rw [nI_clamp (by omega)]; exact hx0) ?_
          refine g_bipush (n := 39) (v := 15) hX dL_law_37 rfl rfl ?_
          refine g_iand (n := 40) (v := x0 &&& 15) hX dL_law_39 rfl rfl ?_
          refine g_tableIn (n := 169) (off := 129) hX dL_law_40 (by rw [ho]; decide) (by rw [ho]; decide) (by rw [ho]; rfl) (by decide) ?_
          refine g_aload_n (n := 170) hX dL_law_169 rfl rfl rfl ?_
          refine g_aload_n (n := 171) hX dL_law_170 rfl rfl rfl ?_
          refine g_iload (n := 173) hX dL_law_171 rfl rfl ?_
          refine g_iconst (n := 174) (v := 1) hX dL_law_173 rfl rfl ?_
          refine g_iadd (n := 175) (v := nI (6 * j + 1)) hX dL_law_174 rfl (nI_add (6 * j) (1)) ?_
          refine g_scl (n := 176) (v := x1) hX hSc dL_law_175 rfl (vp_in_nI (show 6 * j + 1 < N by omega) (by omega)) (by rw [nI_clamp (by omega)]; exact hx1) ?_
          refine g_aload_n (n := 177) hX dL_law_176 rfl rfl rfl ?_
          refine g_iload (n := 179) hX dL_law_177 rfl rfl ?_
          refine g_iconst (n := 180) (v := 2) hX dL_law_179 rfl rfl ?_
          refine g_iadd (n := 181) (v := nI (6 * j + 2)) hX dL_law_180 rfl (nI_add (6 * j) (2)) ?_
          refine g_scl (n := 182) (v := x2) hX hSc dL_law_181 rfl (vp_in_nI (show 6 * j + 2 < N by omega) (by omega)) (by rw [nI_clamp (by omega)]; exact hx2) ?_
          refine g_aload_n (n := 183) hX dL_law_182 rfl rfl rfl ?_
          refine g_iload (n := 185) hX dL_law_183 rfl rfl ?_
          refine g_iconst (n := 186) (v := 3) hX dL_law_185 rfl rfl ?_
          refine g_iadd (n := 187) (v := nI (6 * j + 3)) hX dL_law_186 rfl (nI_add (6 * j) (3)) ?_
          refine g_scl (n := 188) (v := x3) hX hSc dL_law_187 rfl (vp_in_nI (show 6 * j + 3 < N by omega) (by omega)) (by rw [nI_clamp (by omega)]; exact hx3) ?_
          refine g_aload_n (n := 189) hX dL_law_188 rfl rfl rfl ?_
          refine g_iload (n := 191) hX dL_law_189 rfl rfl ?_
          refine g_iconst (n := 192) (v := 4) hX dL_law_191 rfl rfl ?_
          refine g_iadd (n := 193) (v := nI (6 * j + 4)) hX dL_law_192 rfl (nI_add (6 * j) (4)) ?_
          refine g_scl (n := 194) (v := x4) hX hSc dL_law_193 rfl (vp_in_nI (show 6 * j + 4 < N by omega) (by omega)) (by rw [nI_clamp (by omega)]; exact hx4) ?_
          refine g_callX (n := 197) (As := [.int x1, .int x2, .int x3, .int x4]) (rest := []) hX hE hU hY dL_law_194 rfl yv_X7_code um_L_36 hQ (F_code _ _ K L f ad κ g σ x1 x2 x3 x4 hQ) ⟨rfl, rfl⟩ ⟨by rw [hRm]; exact Nat.le_of_ble_eq_true rfl, by rw [hRm]; exact Nat.le_of_ble_eq_true rfl⟩ rfl rfl (Nat.le_of_ble_eq_true rfl) ⟨by rw [hRm]; show 36 + 80 * j + 1 ≤ 601024; omega, by rw [hRm]; show 20947 + 4360 * j + 3 ≤ 7293034; omega⟩ (fun v0 w0 hq0 => ?_)
          obtain ⟨rfl, L1, f1, ad1, κ1, g1, rfl, e1, hQ1⟩ := hq0
          show G Γ (lawW K (va_pl L1 f1) am A σ cel gl) (36 + 80 * j + 1) (20947 + 4360 * j + 3) 197 [(4, .int (nI (6 * j))), (0, .ref b), (1, .ref (ad 0 0 0)), (2, .ref am), (3, .ref cel)] [.int ((S_code σ x1 x2 x3 x4).1)]
          refine g_widen (kc' := 36 + 80 * (j + 1)) (ks' := 20947 + 4360 * (j + 1)) (by omega) (by omega) ?_
          refine g_aload_n (n := 198) hX dL_law_197 rfl rfl rfl ?_
          refine g_aload_n (n := 199) hX dL_law_198 rfl rfl rfl ?_
          refine g_iload (n := 201) hX dL_law_199 rfl rfl ?_
          refine g_iconst (n := 202) (v := 1) hX dL_law_201 rfl rfl ?_
          refine g_iadd (n := 203) (v := nI (6 * j + 1)) hX dL_law_202 rfl (nI_add (6 * j) (1)) ?_
          refine g_scl (n := 204) (v := x1) hX hSc dL_law_203 rfl (vp_in_nI (show 6 * j + 1 < N by omega) (by omega)) (by rw [nI_clamp (by omega)]; exact hx1) ?_
          refine g_aload_n (n := 205) hX dL_law_204 rfl rfl rfl ?_
          refine g_iload (n := 207) hX dL_law_205 rfl rfl ?_
          refine g_iconst (n := 208) (v := 2) hX dL_law_207 rfl rfl ?_
          refine g_iadd (n := 209) (v := nI (6 * j + 2)) hX dL_law_208 rfl (nI_add (6 * j) (2)) ?_
          refine g_scl (n := 210) (v := x2) hX hSc dL_law_209 rfl (vp_in_nI (show 6 * j + 2 < N by omega) (by omega)) (by rw [nI_clamp (by omega)]; exact hx2) ?_
          refine g_aload_n (n := 211) hX dL_law_210 rfl rfl rfl ?_
          refine g_iload (n := 213) hX dL_law_211 rfl rfl ?_
          refine g_iconst (n := 214) (v := 3) hX dL_law_213 rfl rfl ?_
          refine g_iadd (n := 215) (v := nI (6 * j + 3)) hX dL_law_214 rfl (nI_add (6 * j) (3)) ?_
          refine g_scl (n := 216) (v := x3) hX hSc dL_law_215 rfl (vp_in_nI (show 6 * j + 3 < N by omega) (by omega)) (by rw [nI_clamp (by omega)]; exact hx3) ?_
          refine g_aload_n (n := 217) hX dL_law_216 rfl rfl rfl ?_
          refine g_iload (n := 219) hX dL_law_217 rfl rfl ?_
          refine g_iconst (n := 220) (v := 4) hX dL_law_219 rfl rfl ?_
          refine g_iadd (n := 221) (v := nI (6 * j + 4)) hX dL_law_220 rfl (nI_add (6 * j) (4)) ?_
          refine g_scl (n := 222) (v := x4) hX hSc dL_law_221 rfl (vp_in_nI (show 6 * j + 4 < N by omega) (by omega)) (by rw [nI_clamp (by omega)]; exact hx4) ?_
          refine g_callM (n := 225) (As := [.int x1, .int x2, .int x3, .int x4]) (rest := [.int ((S_code σ x1 x2 x3 x4).1)]) (V := .int ((S_code σ x1 x2 x3 x4).1)) (τ := (S_code σ x1 x2 x3 x4).2) hX hE hU hY dL_law_222 rfl yv_X8_code um_L_40 (m_code _ _ K am A σ x1 x2 x3 x4 hI.1) ⟨rfl, rfl⟩ ⟨by rw [hRm]; exact Nat.le_of_ble_eq_true rfl, by rw [hRm]; exact Nat.le_of_ble_eq_true rfl⟩ rfl rfl (Nat.le_of_ble_eq_true rfl) ⟨by rw [hRm]; show _ ≤ 601024; omega, by rw [hRm]; show _ ≤ 7293034; omega⟩ ?_
          show G Γ (lawW K (va_pl L1 f1) am A ((S_code σ x1 x2 x3 x4).2) cel gl) (36 + 80 * (j + 1)) (20947 + 4360 * (j + 1)) 225 [(4, .int (nI (6 * j))), (0, .ref b), (1, .ref (ad 0 0 0)), (2, .ref am), (3, .ref cel)] [.int ((S_code σ x1 x2 x3 x4).1), .int ((S_code σ x1 x2 x3 x4).1)]
          refine g_icmp_eq (n := 228) (tgt := 831) hX dL_law_225 rfl (by decide) (fun c225 => ?_) (fun c225 => absurd rfl c225)
          refine g_pick (lv' := [(4, .int (nI (6 * j))), (0, .ref b), (1, .ref (ad 0 0 0)), (2, .ref am), (3, .ref cel)]) [0, 1, 2, 3, 4] rfl ?_
          exact htail L1 f1 ad1 κ1 g1 _ _ hQ1 e1
        · have ho : x0 &&& 15 = (2 : Int32) := sw_val (hkz ▸ hk1) (by decide)
          refine g_iload (n := 25) hX dL_law_23 rfl rfl ?_
          refine g_aload_n (n := 26) hX dL_law_25 rfl rfl rfl ?_
          refine g_sclen (n := 27) hX hSc dL_law_26 rfl ?_
          refine g_bipush (n := 29) (v := 6) hX dL_law_27 rfl rfl ?_
          refine g_isub (n := 30) (v := nI (N - 6)) hX dL_law_29 rfl (pk_sub (a := N) (b := 6) (by omega)) ?_
          refine g_icmp_gt (n := 33) (tgt := 837) hX dL_law_30 rfl (by decide) (fun c30 => absurd c30 (nI_nlt (a := N - 6) (b := 6 * j) (by omega) (by omega))) (fun c30 => ?_)
          refine g_aload_n (n := 34) hX dL_law_33 rfl rfl rfl ?_
          refine g_iload (n := 36) hX dL_law_34 rfl rfl ?_
          refine g_scl (n := 37) (v := x0) hX hSc dL_law_36 rfl (vp_in_nI (show 6 * j < N by omega) (by omega)) (by rw [nI_clamp (by omega)]; exact hx0) ?_
          refine g_bipush (n := 39) (v := 15) hX dL_law_37 rfl rfl ?_
          refine g_iand (n := 40) (v := x0 &&& 15) hX dL_law_39 rfl rfl ?_
          refine g_tableIn (n := 230) (off := 190) hX dL_law_40 (by rw [ho]; decide) (by rw [ho]; decide) (by rw [ho]; rfl) (by decide) ?_
          refine g_aload_n (n := 231) hX dL_law_230 rfl rfl rfl ?_
          refine g_callX (n := 234) (As := []) (rest := []) hX hE hU hY dL_law_231 rfl yv_X7_unit um_L_41 hQ (F_unit _ _ K L f ad κ g σ hQ) ⟨rfl, rfl⟩ ⟨by rw [hRm]; exact Nat.le_of_ble_eq_true rfl, by rw [hRm]; exact Nat.le_of_ble_eq_true rfl⟩ rfl rfl (Nat.le_of_ble_eq_true rfl) ⟨by rw [hRm]; show 36 + 80 * j + 3 ≤ 601024; omega, by rw [hRm]; show 20947 + 4360 * j + 121 ≤ 7293034; omega⟩ (fun v0 w0 hq0 => ?_)
          obtain ⟨rfl, L1, f1, ad1, κ1, g1, rfl, e1, hQ1⟩ := hq0
          show G Γ (lawW K (va_pl L1 f1) am A σ cel gl) (36 + 80 * j + 3) (20947 + 4360 * j + 121) 234 [(4, .int (nI (6 * j))), (0, .ref b), (1, .ref (ad 0 0 0)), (2, .ref am), (3, .ref cel)] [.int ((S_unit σ).1)]
          refine g_widen (kc' := 36 + 80 * (j + 1)) (ks' := 20947 + 4360 * (j + 1)) (by omega) (by omega) ?_
          refine g_aload_n (n := 235) hX dL_law_234 rfl rfl rfl ?_
          refine g_callM (n := 238) (As := []) (rest := [.int ((S_unit σ).1)]) (V := .int ((S_unit σ).1)) (τ := (S_unit σ).2) hX hE hU hY dL_law_235 rfl yv_X8_unit um_L_45 (m_unit _ _ K am A σ hI.1) ⟨rfl, rfl⟩ ⟨by rw [hRm]; exact Nat.le_of_ble_eq_true rfl, by rw [hRm]; exact Nat.le_of_ble_eq_true rfl⟩ rfl rfl (Nat.le_of_ble_eq_true rfl) ⟨by rw [hRm]; show _ ≤ 601024; omega, by rw [hRm]; show _ ≤ 7293034; omega⟩ ?_
          show G Γ (lawW K (va_pl L1 f1) am A ((S_unit σ).2) cel gl) (36 + 80 * (j + 1)) (20947 + 4360 * (j + 1)) 238 [(4, .int (nI (6 * j))), (0, .ref b), (1, .ref (ad 0 0 0)), (2, .ref am), (3, .ref cel)] [.int ((S_unit σ).1), .int ((S_unit σ).1)]
          refine g_icmp_eq (n := 241) (tgt := 831) hX dL_law_238 rfl (by decide) (fun c238 => ?_) (fun c238 => absurd rfl c238)
          refine g_pick (lv' := [(4, .int (nI (6 * j))), (0, .ref b), (1, .ref (ad 0 0 0)), (2, .ref am), (3, .ref cel)]) [0, 1, 2, 3, 4] rfl ?_
          exact htail L1 f1 ad1 κ1 g1 _ _ hQ1 e1
        · have ho : x0 &&& 15 = (3 : Int32) := sw_val (hkz ▸ hk1) (by decide)
          refine g_iload (n := 25) hX dL_law_23 rfl rfl ?_
          refine g_aload_n (n := 26) hX dL_law_25 rfl rfl rfl ?_
          refine g_sclen (n := 27) hX hSc dL_law_26 rfl ?_
          refine g_bipush (n := 29) (v := 6) hX dL_law_27 rfl rfl ?_
          refine g_isub (n := 30) (v := nI (N - 6)) hX dL_law_29 rfl (pk_sub (a := N) (b := 6) (by omega)) ?_
          refine g_icmp_gt (n := 33) (tgt := 837) hX dL_law_30 rfl (by decide) (fun c30 => absurd c30 (nI_nlt (a := N - 6) (b := 6 * j) (by omega) (by omega))) (fun c30 => ?_)
          refine g_aload_n (n := 34) hX dL_law_33 rfl rfl rfl ?_
          refine g_iload (n := 36) hX dL_law_34 rfl rfl ?_
          refine g_scl (n := 37) (v := x0) hX hSc dL_law_36 rfl (vp_in_nI (show 6 * j < N by omega) (by omega)) (by rw [nI_clamp (by omega)]; exact hx0) ?_
          refine g_bipush (n := 39) (v := 15) hX dL_law_37 rfl rfl ?_
          refine g_iand (n := 40) (v := x0 &&& 15) hX dL_law_39 rfl rfl ?_
          refine g_tableIn (n := 243) (off := 203) hX dL_law_40 (by rw [ho]; decide) (by rw [ho]; decide) (by rw [ho]; rfl) (by decide) ?_
          refine g_aload_n (n := 244) hX dL_law_243 rfl rfl rfl ?_
          refine g_aload_n (n := 245) hX dL_law_244 rfl rfl rfl ?_
          refine g_iload (n := 247) hX dL_law_245 rfl rfl ?_
          refine g_iconst (n := 248) (v := 1) hX dL_law_247 rfl rfl ?_
          refine g_iadd (n := 249) (v := nI (6 * j + 1)) hX dL_law_248 rfl (nI_add (6 * j) (1)) ?_
          refine g_scl (n := 250) (v := x1) hX hSc dL_law_249 rfl (vp_in_nI (show 6 * j + 1 < N by omega) (by omega)) (by rw [nI_clamp (by omega)]; exact hx1) ?_
          refine g_aload_n (n := 251) hX dL_law_250 rfl rfl rfl ?_
          refine g_iload (n := 253) hX dL_law_251 rfl rfl ?_
          refine g_iconst (n := 254) (v := 2) hX dL_law_253 rfl rfl ?_
          refine g_iadd (n := 255) (v := nI (6 * j + 2)) hX dL_law_254 rfl (nI_add (6 * j) (2)) ?_
          refine g_scl (n := 256) (v := x2) hX hSc dL_law_255 rfl (vp_in_nI (show 6 * j + 2 < N by omega) (by omega)) (by rw [nI_clamp (by omega)]; exact hx2) ?_
          refine g_callX (n := 259) (As := [.int x1, .int x2]) (rest := []) hX hE hU hY dL_law_256 rfl yv_X7_make um_L_46 hQ (F_make _ _ K L f ad κ g σ x1 x2 hQ) ⟨rfl, rfl⟩ ⟨by rw [hRm]; exact Nat.le_of_ble_eq_true rfl, by rw [hRm]; exact Nat.le_of_ble_eq_true rfl⟩ rfl rfl (Nat.le_of_ble_eq_true rfl) ⟨by rw [hRm]; show 36 + 80 * j + 2 ≤ 601024; omega, by rw [hRm]; show 20947 + 4360 * j + 109 ≤ 7293034; omega⟩ (fun v0 w0 hq0 => ?_)
          obtain ⟨rfl, L1, f1, ad1, κ1, g1, rfl, e1, hQ1⟩ := hq0
          show G Γ (lawW K (va_pl L1 f1) am A σ cel gl) (36 + 80 * j + 2) (20947 + 4360 * j + 109) 259 [(4, .int (nI (6 * j))), (0, .ref b), (1, .ref (ad 0 0 0)), (2, .ref am), (3, .ref cel)] [.int ((S_make σ x1 x2).1)]
          refine g_widen (kc' := 36 + 80 * (j + 1)) (ks' := 20947 + 4360 * (j + 1)) (by omega) (by omega) ?_
          refine g_aload_n (n := 260) hX dL_law_259 rfl rfl rfl ?_
          refine g_aload_n (n := 261) hX dL_law_260 rfl rfl rfl ?_
          refine g_iload (n := 263) hX dL_law_261 rfl rfl ?_
          refine g_iconst (n := 264) (v := 1) hX dL_law_263 rfl rfl ?_
          refine g_iadd (n := 265) (v := nI (6 * j + 1)) hX dL_law_264 rfl (nI_add (6 * j) (1)) ?_
          refine g_scl (n := 266) (v := x1) hX hSc dL_law_265 rfl (vp_in_nI (show 6 * j + 1 < N by omega) (by omega)) (by rw [nI_clamp (by omega)]; exact hx1) ?_
          refine g_aload_n (n := 267) hX dL_law_266 rfl rfl rfl ?_
          refine g_iload (n := 269) hX dL_law_267 rfl rfl ?_
          refine g_iconst (n := 270) (v := 2) hX dL_law_269 rfl rfl ?_
          refine g_iadd (n := 271) (v := nI (6 * j + 2)) hX dL_law_270 rfl (nI_add (6 * j) (2)) ?_
          refine g_scl (n := 272) (v := x2) hX hSc dL_law_271 rfl (vp_in_nI (show 6 * j + 2 < N by omega) (by omega)) (by rw [nI_clamp (by omega)]; exact hx2) ?_
          refine g_callM (n := 275) (As := [.int x1, .int x2]) (rest := [.int ((S_make σ x1 x2).1)]) (V := .int ((S_make σ x1 x2).1)) (τ := (S_make σ x1 x2).2) hX hE hU hY dL_law_272 rfl yv_X8_make um_L_50 (m_make _ _ K am A σ x1 x2 hI.1) ⟨rfl, rfl⟩ ⟨by rw [hRm]; exact Nat.le_of_ble_eq_true rfl, by rw [hRm]; exact Nat.le_of_ble_eq_true rfl⟩ rfl rfl (Nat.le_of_ble_eq_true rfl) ⟨by rw [hRm]; show _ ≤ 601024; omega, by rw [hRm]; show _ ≤ 7293034; omega⟩ ?_
          show G Γ (lawW K (va_pl L1 f1) am A ((S_make σ x1 x2).2) cel gl) (36 + 80 * (j + 1)) (20947 + 4360 * (j + 1)) 275 [(4, .int (nI (6 * j))), (0, .ref b), (1, .ref (ad 0 0 0)), (2, .ref am), (3, .ref cel)] [.int ((S_make σ x1 x2).1), .int ((S_make σ x1 x2).1)]
          refine g_icmp_eq (n := 278) (tgt := 831) hX dL_law_275 rfl (by decide) (fun c275 => ?_) (fun c275 => absurd rfl c275)
          refine g_pick (lv' := [(4, .int (nI (6 * j))), (0, .ref b), (1, .ref (ad 0 0 0)), (2, .ref am), (3, .ref cel)]) [0, 1, 2, 3, 4] rfl ?_
          exact htail L1 f1 ad1 κ1 g1 _ _ hQ1 e1
        · have ho : x0 &&& 15 = (4 : Int32) := sw_val (hkz ▸ hk1) (by decide)
          refine g_iload (n := 25) hX dL_law_23 rfl rfl ?_
          refine g_aload_n (n := 26) hX dL_law_25 rfl rfl rfl ?_
          refine g_sclen (n := 27) hX hSc dL_law_26 rfl ?_
          refine g_bipush (n := 29) (v := 6) hX dL_law_27 rfl rfl ?_
          refine g_isub (n := 30) (v := nI (N - 6)) hX dL_law_29 rfl (pk_sub (a := N) (b := 6) (by omega)) ?_
          refine g_icmp_gt (n := 33) (tgt := 837) hX dL_law_30 rfl (by decide) (fun c30 => absurd c30 (nI_nlt (a := N - 6) (b := 6 * j) (by omega) (by omega))) (fun c30 => ?_)
          refine g_aload_n (n := 34) hX dL_law_33 rfl rfl rfl ?_
          refine g_iload (n := 36) hX dL_law_34 rfl rfl ?_
          refine g_scl (n := 37) (v := x0) hX hSc dL_law_36 rfl (vp_in_nI (show 6 * j < N by omega) (by omega)) (by rw [nI_clamp (by omega)]; exact hx0) ?_
          refine g_bipush (n := 39) (v := 15) hX dL_law_37 rfl rfl ?_
          refine g_iand (n := 40) (v := x0 &&& 15) hX dL_law_39 rfl rfl ?_
          refine g_tableIn (n := 280) (off := 240) hX dL_law_40 (by rw [ho]; decide) (by rw [ho]; decide) (by rw [ho]; rfl) (by decide) ?_
          refine g_aload_n (n := 281) hX dL_law_280 rfl rfl rfl ?_
          refine g_aload_n (n := 282) hX dL_law_281 rfl rfl rfl ?_
          refine g_iload (n := 284) hX dL_law_282 rfl rfl ?_
          refine g_iconst (n := 285) (v := 1) hX dL_law_284 rfl rfl ?_
          refine g_iadd (n := 286) (v := nI (6 * j + 1)) hX dL_law_285 rfl (nI_add (6 * j) (1)) ?_
          refine g_scl (n := 287) (v := x1) hX hSc dL_law_286 rfl (vp_in_nI (show 6 * j + 1 < N by omega) (by omega)) (by rw [nI_clamp (by omega)]; exact hx1) ?_
          refine g_aload_n (n := 288) hX dL_law_287 rfl rfl rfl ?_
          refine g_iload (n := 290) hX dL_law_288 rfl rfl ?_
          refine g_iconst (n := 291) (v := 2) hX dL_law_290 rfl rfl ?_
          refine g_iadd (n := 292) (v := nI (6 * j + 2)) hX dL_law_291 rfl (nI_add (6 * j) (2)) ?_
          refine g_scl (n := 293) (v := x2) hX hSc dL_law_292 rfl (vp_in_nI (show 6 * j + 2 < N by omega) (by omega)) (by rw [nI_clamp (by omega)]; exact hx2) ?_
          refine g_callX (n := 296) (As := [.int x1, .int x2]) (rest := []) hX hE hU hY dL_law_293 rfl yv_X7_run um_L_51 hQ (F_run _ _ K L f ad κ g σ x1 x2 M hM hQ) ⟨rfl, rfl⟩ ⟨by rw [hRm]; exact Nat.le_of_ble_eq_true rfl, by rw [hRm]; exact Nat.le_of_ble_eq_true rfl⟩ rfl rfl (Nat.le_of_ble_eq_true rfl) ⟨by rw [hRm]; show 36 + 80 * j + 80 ≤ 601024; omega, by rw [hRm]; show 20947 + 4360 * j + 4360 ≤ 7293034; omega⟩ (fun v0 w0 hq0 => ?_)
          obtain ⟨rfl, L1, f1, ad1, κ1, g1, rfl, e1, hQ1⟩ := hq0
          show G Γ (lawW K (va_pl L1 f1) am A σ cel gl) (36 + 80 * j + 80) (20947 + 4360 * j + 4360) 296 [(4, .int (nI (6 * j))), (0, .ref b), (1, .ref (ad 0 0 0)), (2, .ref am), (3, .ref cel)] [.int ((S_run M σ x1 x2).1)]
          refine g_widen (kc' := 36 + 80 * (j + 1)) (ks' := 20947 + 4360 * (j + 1)) (by omega) (by omega) ?_
          refine g_aload_n (n := 297) hX dL_law_296 rfl rfl rfl ?_
          refine g_aload_n (n := 298) hX dL_law_297 rfl rfl rfl ?_
          refine g_iload (n := 300) hX dL_law_298 rfl rfl ?_
          refine g_iconst (n := 301) (v := 1) hX dL_law_300 rfl rfl ?_
          refine g_iadd (n := 302) (v := nI (6 * j + 1)) hX dL_law_301 rfl (nI_add (6 * j) (1)) ?_
          refine g_scl (n := 303) (v := x1) hX hSc dL_law_302 rfl (vp_in_nI (show 6 * j + 1 < N by omega) (by omega)) (by rw [nI_clamp (by omega)]; exact hx1) ?_
          refine g_aload_n (n := 304) hX dL_law_303 rfl rfl rfl ?_
          refine g_iload (n := 306) hX dL_law_304 rfl rfl ?_
          refine g_iconst (n := 307) (v := 2) hX dL_law_306 rfl rfl ?_
          refine g_iadd (n := 308) (v := nI (6 * j + 2)) hX dL_law_307 rfl (nI_add (6 * j) (2)) ?_
          refine g_scl (n := 309) (v := x2) hX hSc dL_law_308 rfl (vp_in_nI (show 6 * j + 2 < N by omega) (by omega)) (by rw [nI_clamp (by omega)]; exact hx2) ?_
          refine g_callM (n := 312) (As := [.int x1, .int x2]) (rest := [.int ((S_run M σ x1 x2).1)]) (V := .int ((S_run M σ x1 x2).1)) (τ := (S_run M σ x1 x2).2) hX hE hU hY dL_law_309 rfl yv_X8_run um_L_54 (m_run _ _ K am A σ x1 x2 M hI.1 (run_H2 hI hM)) ⟨rfl, rfl⟩ ⟨by rw [hRm]; exact Nat.le_of_ble_eq_true rfl, by rw [hRm]; exact Nat.le_of_ble_eq_true rfl⟩ rfl rfl (Nat.le_of_ble_eq_true rfl) ⟨by rw [hRm]; show _ ≤ 601024; omega, by rw [hRm]; show _ ≤ 7293034; omega⟩ ?_
          show G Γ (lawW K (va_pl L1 f1) am A ((S_run M σ x1 x2).2) cel gl) (36 + 80 * (j + 1)) (20947 + 4360 * (j + 1)) 312 [(4, .int (nI (6 * j))), (0, .ref b), (1, .ref (ad 0 0 0)), (2, .ref am), (3, .ref cel)] [.int ((S_run M σ x1 x2).1), .int ((S_run M σ x1 x2).1)]
          refine g_icmp_eq (n := 315) (tgt := 831) hX dL_law_312 rfl (by decide) (fun c312 => ?_) (fun c312 => absurd rfl c312)
          refine g_pick (lv' := [(4, .int (nI (6 * j))), (0, .ref b), (1, .ref (ad 0 0 0)), (2, .ref am), (3, .ref cel)]) [0, 1, 2, 3, 4] rfl ?_
          exact htail L1 f1 ad1 κ1 g1 _ _ hQ1 e1
        · have ho : x0 &&& 15 = (5 : Int32) := sw_val (hkz ▸ hk1) (by decide)
          by_cases hz2 : (S_at σ x1 x2 x3).2.2 0 = 0
          · refine g_iload (n := 25) hX dL_law_23 rfl rfl ?_
            refine g_aload_n (n := 26) hX dL_law_25 rfl rfl rfl ?_
            refine g_sclen (n := 27) hX hSc dL_law_26 rfl ?_
            refine g_bipush (n := 29) (v := 6) hX dL_law_27 rfl rfl ?_
            refine g_isub (n := 30) (v := nI (N - 6)) hX dL_law_29 rfl (pk_sub (a := N) (b := 6) (by omega)) ?_
            refine g_icmp_gt (n := 33) (tgt := 837) hX dL_law_30 rfl (by decide) (fun c30 => absurd c30 (nI_nlt (a := N - 6) (b := 6 * j) (by omega) (by omega))) (fun c30 => ?_)
            refine g_aload_n (n := 34) hX dL_law_33 rfl rfl rfl ?_
            refine g_iload (n := 36) hX dL_law_34 rfl rfl ?_
            refine g_scl (n := 37) (v := x0) hX hSc dL_law_36 rfl (vp_in_nI (show 6 * j < N by omega) (by omega)) (by rw [nI_clamp (by omega)]; exact hx0) ?_
            refine g_bipush (n := 39) (v := 15) hX dL_law_37 rfl rfl ?_
            refine g_iand (n := 40) (v := x0 &&& 15) hX dL_law_39 rfl rfl ?_
            refine g_tableIn (n := 317) (off := 277) hX dL_law_40 (by rw [ho]; decide) (by rw [ho]; decide) (by rw [ho]; rfl) (by decide) ?_
            refine g_aload_n (n := 318) hX dL_law_317 rfl rfl rfl ?_
            refine g_aload_n (n := 319) hX dL_law_318 rfl rfl rfl ?_
            refine g_iload (n := 321) hX dL_law_319 rfl rfl ?_
            refine g_iconst (n := 322) (v := 1) hX dL_law_321 rfl rfl ?_
            refine g_iadd (n := 323) (v := nI (6 * j + 1)) hX dL_law_322 rfl (nI_add (6 * j) (1)) ?_
            refine g_scl (n := 324) (v := x1) hX hSc dL_law_323 rfl (vp_in_nI (show 6 * j + 1 < N by omega) (by omega)) (by rw [nI_clamp (by omega)]; exact hx1) ?_
            refine g_aload_n (n := 325) hX dL_law_324 rfl rfl rfl ?_
            refine g_iload (n := 327) hX dL_law_325 rfl rfl ?_
            refine g_iconst (n := 328) (v := 2) hX dL_law_327 rfl rfl ?_
            refine g_iadd (n := 329) (v := nI (6 * j + 2)) hX dL_law_328 rfl (nI_add (6 * j) (2)) ?_
            refine g_scl (n := 330) (v := x2) hX hSc dL_law_329 rfl (vp_in_nI (show 6 * j + 2 < N by omega) (by omega)) (by rw [nI_clamp (by omega)]; exact hx2) ?_
            refine g_aload_n (n := 331) hX dL_law_330 rfl rfl rfl ?_
            refine g_iload (n := 333) hX dL_law_331 rfl rfl ?_
            refine g_iconst (n := 334) (v := 3) hX dL_law_333 rfl rfl ?_
            refine g_iadd (n := 335) (v := nI (6 * j + 3)) hX dL_law_334 rfl (nI_add (6 * j) (3)) ?_
            refine g_scl (n := 336) (v := x3) hX hSc dL_law_335 rfl (vp_in_nI (show 6 * j + 3 < N by omega) (by omega)) (by rw [nI_clamp (by omega)]; exact hx3) ?_
            refine g_aload_n (n := 337) hX dL_law_336 rfl rfl rfl ?_
            refine g_callL (n := 340) (As := [.ref (ad 0 0 0), .int x1, .int x2, .int x3, .ref cel]) (rest := []) (V := (S_at σ x1 x2 x3).2.2 0) (τ := (S_at σ x1 x2 x3).2) (P := fun _ _ z => z = (S_at σ x1 x2 x3).1.toInt64) hX hE hT hU hY dL_law_337 rfl ysw_at um_L_55 (L_at _ _ K hstk L f ad κ g σ (mW K am A σ) cel gl x1 x2 x3 hQ) ⟨rfl, rfl⟩ ⟨by rw [hRm]; exact Nat.le_of_ble_eq_true rfl, by rw [hRm]; exact Nat.le_of_ble_eq_true rfl⟩ rfl rfl (Nat.le_of_ble_eq_true rfl) ⟨by rw [hRm]; show 36 + 80 * j + 1 ≤ 601024; omega, by rw [hRm]; show 20947 + 4360 * j + 6 ≤ 7293034; omega⟩ (fun w0 gl1 hW0 hgl => ?_)
            obtain ⟨L1, f1, ad1, κ1, g1, rfl, e1, hQ1⟩ := hW0
            refine g_widen (kc' := 36 + 80 * (j + 1)) (ks' := 20947 + 4360 * (j + 1)) (by omega) (by omega) ?_
            refine g_istore (lv' := [(5, .int ((S_at σ x1 x2 x3).2.2 0)), (4, .int (nI (6 * j))), (0, .ref b), (1, .ref (ad 0 0 0)), (2, .ref am), (3, .ref cel)]) (n := 342) hX dL_law_340 rfl (by rw [hnL]; rfl) rfl ?_
            refine g_aload_n (n := 343) hX dL_law_342 rfl rfl rfl ?_
            refine g_aload_n (n := 344) hX dL_law_343 rfl rfl rfl ?_
            refine g_iload (n := 346) hX dL_law_344 rfl rfl ?_
            refine g_iconst (n := 347) (v := 1) hX dL_law_346 rfl rfl ?_
            refine g_iadd (n := 348) (v := nI (6 * j + 1)) hX dL_law_347 rfl (nI_add (6 * j) (1)) ?_
            refine g_scl (n := 349) (v := x1) hX hSc dL_law_348 rfl (vp_in_nI (show 6 * j + 1 < N by omega) (by omega)) (by rw [nI_clamp (by omega)]; exact hx1) ?_
            refine g_aload_n (n := 350) hX dL_law_349 rfl rfl rfl ?_
            refine g_iload (n := 352) hX dL_law_350 rfl rfl ?_
            refine g_iconst (n := 353) (v := 2) hX dL_law_352 rfl rfl ?_
            refine g_iadd (n := 354) (v := nI (6 * j + 2)) hX dL_law_353 rfl (nI_add (6 * j) (2)) ?_
            refine g_scl (n := 355) (v := x2) hX hSc dL_law_354 rfl (vp_in_nI (show 6 * j + 2 < N by omega) (by omega)) (by rw [nI_clamp (by omega)]; exact hx2) ?_
            refine g_aload_n (n := 356) hX dL_law_355 rfl rfl rfl ?_
            refine g_iload (n := 358) hX dL_law_356 rfl rfl ?_
            refine g_iconst (n := 359) (v := 3) hX dL_law_358 rfl rfl ?_
            refine g_iadd (n := 360) (v := nI (6 * j + 3)) hX dL_law_359 rfl (nI_add (6 * j) (3)) ?_
            refine g_scl (n := 361) (v := x3) hX hSc dL_law_360 rfl (vp_in_nI (show 6 * j + 3 < N by omega) (by omega)) (by rw [nI_clamp (by omega)]; exact hx3) ?_
            refine g_callM (n := 364) (As := [.int x1, .int x2, .int x3]) (rest := []) (V := .int ((S_at σ x1 x2 x3).1)) (τ := (S_at σ x1 x2 x3).2) hX hE hU hY dL_law_361 rfl yv_X8_at um_L_60 (m_at _ _ K am A σ x1 x2 x3 hI.1 hI.2.1) ⟨rfl, rfl⟩ ⟨by rw [hRm]; exact Nat.le_of_ble_eq_true rfl, by rw [hRm]; exact Nat.le_of_ble_eq_true rfl⟩ rfl rfl (Nat.le_of_ble_eq_true rfl) ⟨by rw [hRm]; show _ ≤ 601024; omega, by rw [hRm]; show _ ≤ 7293034; omega⟩ ?_
            show G Γ (lawW K (va_pl L1 f1) am A ((S_at σ x1 x2 x3).2) cel gl1) (36 + 80 * (j + 1)) (20947 + 4360 * (j + 1)) 364 [(5, .int ((S_at σ x1 x2 x3).2.2 0)), (4, .int (nI (6 * j))), (0, .ref b), (1, .ref (ad 0 0 0)), (2, .ref am), (3, .ref cel)] [.int ((S_at σ x1 x2 x3).1)]
            refine g_istore (lv' := [(6, .int ((S_at σ x1 x2 x3).1)), (5, .int ((S_at σ x1 x2 x3).2.2 0)), (4, .int (nI (6 * j))), (0, .ref b), (1, .ref (ad 0 0 0)), (2, .ref am), (3, .ref cel)]) (n := 366) hX dL_law_364 rfl (by rw [hnL]; rfl) rfl ?_
            refine g_aload_n (n := 367) hX dL_law_366 rfl rfl rfl ?_
            refine g_callM (n := 370) (As := []) (rest := []) (V := .int (((S_at σ x1 x2 x3).2).2 0)) (τ := (S_at σ x1 x2 x3).2) hX hE hU hY dL_law_367 rfl yv_X8_thrown um_L_61 (m_thrown _ _ K am A ((S_at σ x1 x2 x3).2)) ⟨rfl, rfl⟩ ⟨by rw [hRm]; exact Nat.le_of_ble_eq_true rfl, by rw [hRm]; exact Nat.le_of_ble_eq_true rfl⟩ rfl rfl (Nat.le_of_ble_eq_true rfl) ⟨by rw [hRm]; show _ ≤ 601024; omega, by rw [hRm]; show _ ≤ 7293034; omega⟩ ?_
            show G Γ (lawW K (va_pl L1 f1) am A ((S_at σ x1 x2 x3).2) cel gl1) (36 + 80 * (j + 1)) (20947 + 4360 * (j + 1)) 370 [(6, .int ((S_at σ x1 x2 x3).1)), (5, .int ((S_at σ x1 x2 x3).2.2 0)), (4, .int (nI (6 * j))), (0, .ref b), (1, .ref (ad 0 0 0)), (2, .ref am), (3, .ref cel)] [.int (((S_at σ x1 x2 x3).2).2 0)]
            refine g_iload (n := 372) hX dL_law_370 rfl rfl ?_
            refine g_icmp_eq (n := 375) (tgt := 377) hX dL_law_372 rfl (by decide) (fun c372 => ?_) (fun c372 => absurd rfl c372)
            refine g_iload (n := 379) hX dL_law_377 rfl rfl ?_
            refine g_if_ne (n := 382) (tgt := 394) hX dL_law_379 rfl (by decide) (fun c379 => absurd hz2 c379) (fun c379 => ?_)
            refine g_aload_n (n := 383) hX dL_law_382 rfl rfl rfl ?_
            refine g_iconst (n := 384) (v := 0) hX dL_law_383 rfl rfl ?_
            refine g_lldW (n := 385) (v := (S_at σ x1 x2 x3).1.toInt64) hX hY dL_law_384 rfl (hgl hz2) ?_
            refine g_iload (n := 387) hX dL_law_385 rfl rfl ?_
            refine g_i2l (n := 388) (v := ((S_at σ x1 x2 x3).1).toInt64) hX dL_law_387 rfl rfl ?_
            refine g_lcmp (n := 389) hX dL_law_388 rfl ?_
            refine g_if_eq (n := 392) (tgt := 394) hX dL_law_389 rfl (by decide) (fun c389 => ?_) (fun c389 => absurd (lg0.mpr rfl) c389)
            refine g_goto (n := 831) hX dL_law_394 (by decide) ?_
            refine g_pick (lv' := [(4, .int (nI (6 * j))), (0, .ref b), (1, .ref (ad 0 0 0)), (2, .ref am), (3, .ref cel)]) [2, 3, 4, 5, 6] rfl ?_
            exact htail L1 f1 ad1 κ1 g1 _ _ hQ1 e1
          · refine g_iload (n := 25) hX dL_law_23 rfl rfl ?_
            refine g_aload_n (n := 26) hX dL_law_25 rfl rfl rfl ?_
            refine g_sclen (n := 27) hX hSc dL_law_26 rfl ?_
            refine g_bipush (n := 29) (v := 6) hX dL_law_27 rfl rfl ?_
            refine g_isub (n := 30) (v := nI (N - 6)) hX dL_law_29 rfl (pk_sub (a := N) (b := 6) (by omega)) ?_
            refine g_icmp_gt (n := 33) (tgt := 837) hX dL_law_30 rfl (by decide) (fun c30 => absurd c30 (nI_nlt (a := N - 6) (b := 6 * j) (by omega) (by omega))) (fun c30 => ?_)
            refine g_aload_n (n := 34) hX dL_law_33 rfl rfl rfl ?_
            refine g_iload (n := 36) hX dL_law_34 rfl rfl ?_
            refine g_scl (n := 37) (v := x0) hX hSc dL_law_36 rfl (vp_in_nI (show 6 * j < N by omega) (by omega)) (by rw [nI_clamp (by omega)]; exact hx0) ?_
            refine g_bipush (n := 39) (v := 15) hX dL_law_37 rfl rfl ?_
            refine g_iand (n := 40) (v := x0 &&& 15) hX dL_law_39 rfl rfl ?_
            refine g_tableIn (n := 317) (off := 277) hX dL_law_40 (by rw [ho]; decide) (by rw [ho]; decide) (by rw [ho]; rfl) (by decide) ?_
            refine g_aload_n (n := 318) hX dL_law_317 rfl rfl rfl ?_
            refine g_aload_n (n := 319) hX dL_law_318 rfl rfl rfl ?_
            refine g_iload (n := 321) hX dL_law_319 rfl rfl ?_
            refine g_iconst (n := 322) (v := 1) hX dL_law_321 rfl rfl ?_
            refine g_iadd (n := 323) (v := nI (6 * j + 1)) hX dL_law_322 rfl (nI_add (6 * j) (1)) ?_
            refine g_scl (n := 324) (v := x1) hX hSc dL_law_323 rfl (vp_in_nI (show 6 * j + 1 < N by omega) (by omega)) (by rw [nI_clamp (by omega)]; exact hx1) ?_
            refine g_aload_n (n := 325) hX dL_law_324 rfl rfl rfl ?_
            refine g_iload (n := 327) hX dL_law_325 rfl rfl ?_
            refine g_iconst (n := 328) (v := 2) hX dL_law_327 rfl rfl ?_
            refine g_iadd (n := 329) (v := nI (6 * j + 2)) hX dL_law_328 rfl (nI_add (6 * j) (2)) ?_
            refine g_scl (n := 330) (v := x2) hX hSc dL_law_329 rfl (vp_in_nI (show 6 * j + 2 < N by omega) (by omega)) (by rw [nI_clamp (by omega)]; exact hx2) ?_
            refine g_aload_n (n := 331) hX dL_law_330 rfl rfl rfl ?_
            refine g_iload (n := 333) hX dL_law_331 rfl rfl ?_
            refine g_iconst (n := 334) (v := 3) hX dL_law_333 rfl rfl ?_
            refine g_iadd (n := 335) (v := nI (6 * j + 3)) hX dL_law_334 rfl (nI_add (6 * j) (3)) ?_
            refine g_scl (n := 336) (v := x3) hX hSc dL_law_335 rfl (vp_in_nI (show 6 * j + 3 < N by omega) (by omega)) (by rw [nI_clamp (by omega)]; exact hx3) ?_
            refine g_aload_n (n := 337) hX dL_law_336 rfl rfl rfl ?_
            refine g_callL (n := 340) (As := [.ref (ad 0 0 0), .int x1, .int x2, .int x3, .ref cel]) (rest := []) (V := (S_at σ x1 x2 x3).2.2 0) (τ := (S_at σ x1 x2 x3).2) (P := fun _ _ z => z = (S_at σ x1 x2 x3).1.toInt64) hX hE hT hU hY dL_law_337 rfl ysw_at um_L_55 (L_at _ _ K hstk L f ad κ g σ (mW K am A σ) cel gl x1 x2 x3 hQ) ⟨rfl, rfl⟩ ⟨by rw [hRm]; exact Nat.le_of_ble_eq_true rfl, by rw [hRm]; exact Nat.le_of_ble_eq_true rfl⟩ rfl rfl (Nat.le_of_ble_eq_true rfl) ⟨by rw [hRm]; show 36 + 80 * j + 1 ≤ 601024; omega, by rw [hRm]; show 20947 + 4360 * j + 6 ≤ 7293034; omega⟩ (fun w0 gl1 hW0 hgl => ?_)
            obtain ⟨L1, f1, ad1, κ1, g1, rfl, e1, hQ1⟩ := hW0
            refine g_widen (kc' := 36 + 80 * (j + 1)) (ks' := 20947 + 4360 * (j + 1)) (by omega) (by omega) ?_
            refine g_istore (lv' := [(5, .int ((S_at σ x1 x2 x3).2.2 0)), (4, .int (nI (6 * j))), (0, .ref b), (1, .ref (ad 0 0 0)), (2, .ref am), (3, .ref cel)]) (n := 342) hX dL_law_340 rfl (by rw [hnL]; rfl) rfl ?_
            refine g_aload_n (n := 343) hX dL_law_342 rfl rfl rfl ?_
            refine g_aload_n (n := 344) hX dL_law_343 rfl rfl rfl ?_
            refine g_iload (n := 346) hX dL_law_344 rfl rfl ?_
            refine g_iconst (n := 347) (v := 1) hX dL_law_346 rfl rfl ?_
            refine g_iadd (n := 348) (v := nI (6 * j + 1)) hX dL_law_347 rfl (nI_add (6 * j) (1)) ?_
            refine g_scl (n := 349) (v := x1) hX hSc dL_law_348 rfl (vp_in_nI (show 6 * j + 1 < N by omega) (by omega)) (by rw [nI_clamp (by omega)]; exact hx1) ?_
            refine g_aload_n (n := 350) hX dL_law_349 rfl rfl rfl ?_
            refine g_iload (n := 352) hX dL_law_350 rfl rfl ?_
            refine g_iconst (n := 353) (v := 2) hX dL_law_352 rfl rfl ?_
            refine g_iadd (n := 354) (v := nI (6 * j + 2)) hX dL_law_353 rfl (nI_add (6 * j) (2)) ?_
            refine g_scl (n := 355) (v := x2) hX hSc dL_law_354 rfl (vp_in_nI (show 6 * j + 2 < N by omega) (by omega)) (by rw [nI_clamp (by omega)]; exact hx2) ?_
            refine g_aload_n (n := 356) hX dL_law_355 rfl rfl rfl ?_
            refine g_iload (n := 358) hX dL_law_356 rfl rfl ?_
            refine g_iconst (n := 359) (v := 3) hX dL_law_358 rfl rfl ?_
            refine g_iadd (n := 360) (v := nI (6 * j + 3)) hX dL_law_359 rfl (nI_add (6 * j) (3)) ?_
            refine g_scl (n := 361) (v := x3) hX hSc dL_law_360 rfl (vp_in_nI (show 6 * j + 3 < N by omega) (by omega)) (by rw [nI_clamp (by omega)]; exact hx3) ?_
            refine g_callM (n := 364) (As := [.int x1, .int x2, .int x3]) (rest := []) (V := .int ((S_at σ x1 x2 x3).1)) (τ := (S_at σ x1 x2 x3).2) hX hE hU hY dL_law_361 rfl yv_X8_at um_L_60 (m_at _ _ K am A σ x1 x2 x3 hI.1 hI.2.1) ⟨rfl, rfl⟩ ⟨by rw [hRm]; exact Nat.le_of_ble_eq_true rfl, by rw [hRm]; exact Nat.le_of_ble_eq_true rfl⟩ rfl rfl (Nat.le_of_ble_eq_true rfl) ⟨by rw [hRm]; show _ ≤ 601024; omega, by rw [hRm]; show _ ≤ 7293034; omega⟩ ?_
            show G Γ (lawW K (va_pl L1 f1) am A ((S_at σ x1 x2 x3).2) cel gl1) (36 + 80 * (j + 1)) (20947 + 4360 * (j + 1)) 364 [(5, .int ((S_at σ x1 x2 x3).2.2 0)), (4, .int (nI (6 * j))), (0, .ref b), (1, .ref (ad 0 0 0)), (2, .ref am), (3, .ref cel)] [.int ((S_at σ x1 x2 x3).1)]
            refine g_istore (lv' := [(6, .int ((S_at σ x1 x2 x3).1)), (5, .int ((S_at σ x1 x2 x3).2.2 0)), (4, .int (nI (6 * j))), (0, .ref b), (1, .ref (ad 0 0 0)), (2, .ref am), (3, .ref cel)]) (n := 366) hX dL_law_364 rfl (by rw [hnL]; rfl) rfl ?_
            refine g_aload_n (n := 367) hX dL_law_366 rfl rfl rfl ?_
            refine g_callM (n := 370) (As := []) (rest := []) (V := .int (((S_at σ x1 x2 x3).2).2 0)) (τ := (S_at σ x1 x2 x3).2) hX hE hU hY dL_law_367 rfl yv_X8_thrown um_L_61 (m_thrown _ _ K am A ((S_at σ x1 x2 x3).2)) ⟨rfl, rfl⟩ ⟨by rw [hRm]; exact Nat.le_of_ble_eq_true rfl, by rw [hRm]; exact Nat.le_of_ble_eq_true rfl⟩ rfl rfl (Nat.le_of_ble_eq_true rfl) ⟨by rw [hRm]; show _ ≤ 601024; omega, by rw [hRm]; show _ ≤ 7293034; omega⟩ ?_
            show G Γ (lawW K (va_pl L1 f1) am A ((S_at σ x1 x2 x3).2) cel gl1) (36 + 80 * (j + 1)) (20947 + 4360 * (j + 1)) 370 [(6, .int ((S_at σ x1 x2 x3).1)), (5, .int ((S_at σ x1 x2 x3).2.2 0)), (4, .int (nI (6 * j))), (0, .ref b), (1, .ref (ad 0 0 0)), (2, .ref am), (3, .ref cel)] [.int (((S_at σ x1 x2 x3).2).2 0)]
            refine g_iload (n := 372) hX dL_law_370 rfl rfl ?_
            refine g_icmp_eq (n := 375) (tgt := 377) hX dL_law_372 rfl (by decide) (fun c372 => ?_) (fun c372 => absurd rfl c372)
            refine g_iload (n := 379) hX dL_law_377 rfl rfl ?_
            refine g_if_ne (n := 382) (tgt := 394) hX dL_law_379 rfl (by decide) (fun c379 => ?_) (fun c379 => absurd c379 hz2)
            refine g_goto (n := 831) hX dL_law_394 (by decide) ?_
            refine g_pick (lv' := [(4, .int (nI (6 * j))), (0, .ref b), (1, .ref (ad 0 0 0)), (2, .ref am), (3, .ref cel)]) [2, 3, 4, 5, 6] rfl ?_
            exact htail L1 f1 ad1 κ1 g1 _ _ hQ1 e1
        · have ho : x0 &&& 15 = (6 : Int32) := sw_val (hkz ▸ hk1) (by decide)
          refine g_iload (n := 25) hX dL_law_23 rfl rfl ?_
          refine g_aload_n (n := 26) hX dL_law_25 rfl rfl rfl ?_
          refine g_sclen (n := 27) hX hSc dL_law_26 rfl ?_
          refine g_bipush (n := 29) (v := 6) hX dL_law_27 rfl rfl ?_
          refine g_isub (n := 30) (v := nI (N - 6)) hX dL_law_29 rfl (pk_sub (a := N) (b := 6) (by omega)) ?_
          refine g_icmp_gt (n := 33) (tgt := 837) hX dL_law_30 rfl (by decide) (fun c30 => absurd c30 (nI_nlt (a := N - 6) (b := 6 * j) (by omega) (by omega))) (fun c30 => ?_)
          refine g_aload_n (n := 34) hX dL_law_33 rfl rfl rfl ?_
          refine g_iload (n := 36) hX dL_law_34 rfl rfl ?_
          refine g_scl (n := 37) (v := x0) hX hSc dL_law_36 rfl (vp_in_nI (show 6 * j < N by omega) (by omega)) (by rw [nI_clamp (by omega)]; exact hx0) ?_
          refine g_bipush (n := 39) (v := 15) hX dL_law_37 rfl rfl ?_
          refine g_iand (n := 40) (v := x0 &&& 15) hX dL_law_39 rfl rfl ?_
          refine g_tableIn (n := 397) (off := 357) hX dL_law_40 (by rw [ho]; decide) (by rw [ho]; decide) (by rw [ho]; rfl) (by decide) ?_
          refine g_aload_n (n := 398) hX dL_law_397 rfl rfl rfl ?_
          refine g_aload_n (n := 399) hX dL_law_398 rfl rfl rfl ?_
          refine g_iload (n := 401) hX dL_law_399 rfl rfl ?_
          refine g_iconst (n := 402) (v := 1) hX dL_law_401 rfl rfl ?_
          refine g_iadd (n := 403) (v := nI (6 * j + 1)) hX dL_law_402 rfl (nI_add (6 * j) (1)) ?_
          refine g_scl (n := 404) (v := x1) hX hSc dL_law_403 rfl (vp_in_nI (show 6 * j + 1 < N by omega) (by omega)) (by rw [nI_clamp (by omega)]; exact hx1) ?_
          refine g_callX (n := 407) (As := [.int x1]) (rest := []) hX hE hU hY dL_law_404 rfl yv_X7_raised um_L_64 hQ (F_raised _ _ K L f ad κ g σ x1 hQ) ⟨rfl, rfl⟩ ⟨by rw [hRm]; exact Nat.le_of_ble_eq_true rfl, by rw [hRm]; exact Nat.le_of_ble_eq_true rfl⟩ rfl rfl (Nat.le_of_ble_eq_true rfl) ⟨by rw [hRm]; show 36 + 80 * j + 0 ≤ 601024; omega, by rw [hRm]; show 20947 + 4360 * j + 0 ≤ 7293034; omega⟩ (fun v0 w0 hq0 => ?_)
          obtain ⟨rfl, L1, f1, ad1, κ1, g1, rfl, e1, hQ1⟩ := hq0
          show G Γ (lawW K (va_pl L1 f1) am A σ cel gl) (36 + 80 * j + 0) (20947 + 4360 * j + 0) 407 [(4, .int (nI (6 * j))), (0, .ref b), (1, .ref (ad 0 0 0)), (2, .ref am), (3, .ref cel)] [.int ((S_raised σ x1).1)]
          refine g_widen (kc' := 36 + 80 * (j + 1)) (ks' := 20947 + 4360 * (j + 1)) (by omega) (by omega) ?_
          refine g_aload_n (n := 408) hX dL_law_407 rfl rfl rfl ?_
          refine g_aload_n (n := 409) hX dL_law_408 rfl rfl rfl ?_
          refine g_iload (n := 411) hX dL_law_409 rfl rfl ?_
          refine g_iconst (n := 412) (v := 1) hX dL_law_411 rfl rfl ?_
          refine g_iadd (n := 413) (v := nI (6 * j + 1)) hX dL_law_412 rfl (nI_add (6 * j) (1)) ?_
          refine g_scl (n := 414) (v := x1) hX hSc dL_law_413 rfl (vp_in_nI (show 6 * j + 1 < N by omega) (by omega)) (by rw [nI_clamp (by omega)]; exact hx1) ?_
          refine g_callM (n := 417) (As := [.int x1]) (rest := [.int ((S_raised σ x1).1)]) (V := .int ((S_raised σ x1).1)) (τ := (S_raised σ x1).2) hX hE hU hY dL_law_414 rfl yv_X8_raised um_L_68 (m_raised _ _ K am A σ x1 hI.1) ⟨rfl, rfl⟩ ⟨by rw [hRm]; exact Nat.le_of_ble_eq_true rfl, by rw [hRm]; exact Nat.le_of_ble_eq_true rfl⟩ rfl rfl (Nat.le_of_ble_eq_true rfl) ⟨by rw [hRm]; show _ ≤ 601024; omega, by rw [hRm]; show _ ≤ 7293034; omega⟩ ?_
          show G Γ (lawW K (va_pl L1 f1) am A ((S_raised σ x1).2) cel gl) (36 + 80 * (j + 1)) (20947 + 4360 * (j + 1)) 417 [(4, .int (nI (6 * j))), (0, .ref b), (1, .ref (ad 0 0 0)), (2, .ref am), (3, .ref cel)] [.int ((S_raised σ x1).1), .int ((S_raised σ x1).1)]
          refine g_icmp_eq (n := 420) (tgt := 831) hX dL_law_417 rfl (by decide) (fun c417 => ?_) (fun c417 => absurd rfl c417)
          refine g_pick (lv' := [(4, .int (nI (6 * j))), (0, .ref b), (1, .ref (ad 0 0 0)), (2, .ref am), (3, .ref cel)]) [0, 1, 2, 3, 4] rfl ?_
          exact htail L1 f1 ad1 κ1 g1 _ _ hQ1 e1
        · have ho : x0 &&& 15 = (7 : Int32) := sw_val (hkz ▸ hk1) (by decide)
          refine g_iload (n := 25) hX dL_law_23 rfl rfl ?_
          refine g_aload_n (n := 26) hX dL_law_25 rfl rfl rfl ?_
          refine g_sclen (n := 27) hX hSc dL_law_26 rfl ?_
          refine g_bipush (n := 29) (v := 6) hX dL_law_27 rfl rfl ?_
          refine g_isub (n := 30) (v := nI (N - 6)) hX dL_law_29 rfl (pk_sub (a := N) (b := 6) (by omega)) ?_
          refine g_icmp_gt (n := 33) (tgt := 837) hX dL_law_30 rfl (by decide) (fun c30 => absurd c30 (nI_nlt (a := N - 6) (b := 6 * j) (by omega) (by omega))) (fun c30 => ?_)
          refine g_aload_n (n := 34) hX dL_law_33 rfl rfl rfl ?_
          refine g_iload (n := 36) hX dL_law_34 rfl rfl ?_
          refine g_scl (n := 37) (v := x0) hX hSc dL_law_36 rfl (vp_in_nI (show 6 * j < N by omega) (by omega)) (by rw [nI_clamp (by omega)]; exact hx0) ?_
          refine g_bipush (n := 39) (v := 15) hX dL_law_37 rfl rfl ?_
          refine g_iand (n := 40) (v := x0 &&& 15) hX dL_law_39 rfl rfl ?_
          refine g_tableIn (n := 422) (off := 382) hX dL_law_40 (by rw [ho]; decide) (by rw [ho]; decide) (by rw [ho]; rfl) (by decide) ?_
          refine g_aload_n (n := 423) hX dL_law_422 rfl rfl rfl ?_
          refine g_aload_n (n := 424) hX dL_law_423 rfl rfl rfl ?_
          refine g_iload (n := 426) hX dL_law_424 rfl rfl ?_
          refine g_iconst (n := 427) (v := 1) hX dL_law_426 rfl rfl ?_
          refine g_iadd (n := 428) (v := nI (6 * j + 1)) hX dL_law_427 rfl (nI_add (6 * j) (1)) ?_
          refine g_scl (n := 429) (v := x1) hX hSc dL_law_428 rfl (vp_in_nI (show 6 * j + 1 < N by omega) (by omega)) (by rw [nI_clamp (by omega)]; exact hx1) ?_
          refine g_aload_n (n := 430) hX dL_law_429 rfl rfl rfl ?_
          refine g_iload (n := 432) hX dL_law_430 rfl rfl ?_
          refine g_iconst (n := 433) (v := 2) hX dL_law_432 rfl rfl ?_
          refine g_iadd (n := 434) (v := nI (6 * j + 2)) hX dL_law_433 rfl (nI_add (6 * j) (2)) ?_
          refine g_scl (n := 435) (v := x2) hX hSc dL_law_434 rfl (vp_in_nI (show 6 * j + 2 < N by omega) (by omega)) (by rw [nI_clamp (by omega)]; exact hx2) ?_
          refine g_callX (n := 438) (As := [.int x1, .int x2]) (rest := []) hX hE hU hY dL_law_435 rfl yv_X7_told um_L_69 hQ (F_told _ _ K L f ad κ g σ x1 x2 hQ) ⟨rfl, rfl⟩ ⟨by rw [hRm]; exact Nat.le_of_ble_eq_true rfl, by rw [hRm]; exact Nat.le_of_ble_eq_true rfl⟩ rfl rfl (Nat.le_of_ble_eq_true rfl) ⟨by rw [hRm]; show 36 + 80 * j + 0 ≤ 601024; omega, by rw [hRm]; show 20947 + 4360 * j + 0 ≤ 7293034; omega⟩ (fun v0 w0 hq0 => ?_)
          obtain ⟨rfl, L1, f1, ad1, κ1, g1, rfl, e1, hQ1⟩ := hq0
          show G Γ (lawW K (va_pl L1 f1) am A σ cel gl) (36 + 80 * j + 0) (20947 + 4360 * j + 0) 438 [(4, .int (nI (6 * j))), (0, .ref b), (1, .ref (ad 0 0 0)), (2, .ref am), (3, .ref cel)] [.int ((S_told σ x1 x2).1)]
          refine g_widen (kc' := 36 + 80 * (j + 1)) (ks' := 20947 + 4360 * (j + 1)) (by omega) (by omega) ?_
          refine g_aload_n (n := 439) hX dL_law_438 rfl rfl rfl ?_
          refine g_aload_n (n := 440) hX dL_law_439 rfl rfl rfl ?_
          refine g_iload (n := 442) hX dL_law_440 rfl rfl ?_
          refine g_iconst (n := 443) (v := 1) hX dL_law_442 rfl rfl ?_
          refine g_iadd (n := 444) (v := nI (6 * j + 1)) hX dL_law_443 rfl (nI_add (6 * j) (1)) ?_
          refine g_scl (n := 445) (v := x1) hX hSc dL_law_444 rfl (vp_in_nI (show 6 * j + 1 < N by omega) (by omega)) (by rw [nI_clamp (by omega)]; exact hx1) ?_
          refine g_aload_n (n := 446) hX dL_law_445 rfl rfl rfl ?_
          refine g_iload (n := 448) hX dL_law_446 rfl rfl ?_
          refine g_iconst (n := 449) (v := 2) hX dL_law_448 rfl rfl ?_
          refine g_iadd (n := 450) (v := nI (6 * j + 2)) hX dL_law_449 rfl (nI_add (6 * j) (2)) ?_
          refine g_scl (n := 451) (v := x2) hX hSc dL_law_450 rfl (vp_in_nI (show 6 * j + 2 < N by omega) (by omega)) (by rw [nI_clamp (by omega)]; exact hx2) ?_
          refine g_callM (n := 454) (As := [.int x1, .int x2]) (rest := [.int ((S_told σ x1 x2).1)]) (V := .int ((S_told σ x1 x2).1)) (τ := (S_told σ x1 x2).2) hX hE hU hY dL_law_451 rfl yv_X8_told um_L_72 (m_told _ _ K am A σ x1 x2 hI.1) ⟨rfl, rfl⟩ ⟨by rw [hRm]; exact Nat.le_of_ble_eq_true rfl, by rw [hRm]; exact Nat.le_of_ble_eq_true rfl⟩ rfl rfl (Nat.le_of_ble_eq_true rfl) ⟨by rw [hRm]; show _ ≤ 601024; omega, by rw [hRm]; show _ ≤ 7293034; omega⟩ ?_
          show G Γ (lawW K (va_pl L1 f1) am A ((S_told σ x1 x2).2) cel gl) (36 + 80 * (j + 1)) (20947 + 4360 * (j + 1)) 454 [(4, .int (nI (6 * j))), (0, .ref b), (1, .ref (ad 0 0 0)), (2, .ref am), (3, .ref cel)] [.int ((S_told σ x1 x2).1), .int ((S_told σ x1 x2).1)]
          refine g_icmp_eq (n := 457) (tgt := 831) hX dL_law_454 rfl (by decide) (fun c454 => ?_) (fun c454 => absurd rfl c454)
          refine g_pick (lv' := [(4, .int (nI (6 * j))), (0, .ref b), (1, .ref (ad 0 0 0)), (2, .ref am), (3, .ref cel)]) [0, 1, 2, 3, 4] rfl ?_
          exact htail L1 f1 ad1 κ1 g1 _ _ hQ1 e1
        · have ho : x0 &&& 15 = (8 : Int32) := sw_val (hkz ▸ hk1) (by decide)
          refine g_iload (n := 25) hX dL_law_23 rfl rfl ?_
          refine g_aload_n (n := 26) hX dL_law_25 rfl rfl rfl ?_
          refine g_sclen (n := 27) hX hSc dL_law_26 rfl ?_
          refine g_bipush (n := 29) (v := 6) hX dL_law_27 rfl rfl ?_
          refine g_isub (n := 30) (v := nI (N - 6)) hX dL_law_29 rfl (pk_sub (a := N) (b := 6) (by omega)) ?_
          refine g_icmp_gt (n := 33) (tgt := 837) hX dL_law_30 rfl (by decide) (fun c30 => absurd c30 (nI_nlt (a := N - 6) (b := 6 * j) (by omega) (by omega))) (fun c30 => ?_)
          refine g_aload_n (n := 34) hX dL_law_33 rfl rfl rfl ?_
          refine g_iload (n := 36) hX dL_law_34 rfl rfl ?_
          refine g_scl (n := 37) (v := x0) hX hSc dL_law_36 rfl (vp_in_nI (show 6 * j < N by omega) (by omega)) (by rw [nI_clamp (by omega)]; exact hx0) ?_
          refine g_bipush (n := 39) (v := 15) hX dL_law_37 rfl rfl ?_
          refine g_iand (n := 40) (v := x0 &&& 15) hX dL_law_39 rfl rfl ?_
          refine g_tableIn (n := 459) (off := 419) hX dL_law_40 (by rw [ho]; decide) (by rw [ho]; decide) (by rw [ho]; rfl) (by decide) ?_
          refine g_aload_n (n := 460) hX dL_law_459 rfl rfl rfl ?_
          refine g_aload_n (n := 461) hX dL_law_460 rfl rfl rfl ?_
          refine g_iload (n := 463) hX dL_law_461 rfl rfl ?_
          refine g_iconst (n := 464) (v := 1) hX dL_law_463 rfl rfl ?_
          refine g_iadd (n := 465) (v := nI (6 * j + 1)) hX dL_law_464 rfl (nI_add (6 * j) (1)) ?_
          refine g_scl (n := 466) (v := x1) hX hSc dL_law_465 rfl (vp_in_nI (show 6 * j + 1 < N by omega) (by omega)) (by rw [nI_clamp (by omega)]; exact hx1) ?_
          refine g_aload_n (n := 467) hX dL_law_466 rfl rfl rfl ?_
          refine g_iload (n := 469) hX dL_law_467 rfl rfl ?_
          refine g_iconst (n := 470) (v := 2) hX dL_law_469 rfl rfl ?_
          refine g_iadd (n := 471) (v := nI (6 * j + 2)) hX dL_law_470 rfl (nI_add (6 * j) (2)) ?_
          refine g_scl (n := 472) (v := x2) hX hSc dL_law_471 rfl (vp_in_nI (show 6 * j + 2 < N by omega) (by omega)) (by rw [nI_clamp (by omega)]; exact hx2) ?_
          refine g_callX (n := 475) (As := [.int x1, .int x2]) (rest := []) hX hE hU hY dL_law_472 rfl yv_X7_mark um_L_73 hQ (F_mark _ _ K L f ad κ g σ x1 x2 hQ) ⟨rfl, rfl⟩ ⟨by rw [hRm]; exact Nat.le_of_ble_eq_true rfl, by rw [hRm]; exact Nat.le_of_ble_eq_true rfl⟩ rfl rfl (Nat.le_of_ble_eq_true rfl) ⟨by rw [hRm]; show 36 + 80 * j + 0 ≤ 601024; omega, by rw [hRm]; show 20947 + 4360 * j + 0 ≤ 7293034; omega⟩ (fun v0 w0 hq0 => ?_)
          obtain ⟨rfl, L1, f1, ad1, κ1, g1, rfl, e1, hQ1⟩ := hq0
          show G Γ (lawW K (va_pl L1 f1) am A σ cel gl) (36 + 80 * j + 0) (20947 + 4360 * j + 0) 475 [(4, .int (nI (6 * j))), (0, .ref b), (1, .ref (ad 0 0 0)), (2, .ref am), (3, .ref cel)] [.int ((S_mark σ x1 x2).1)]
          refine g_widen (kc' := 36 + 80 * (j + 1)) (ks' := 20947 + 4360 * (j + 1)) (by omega) (by omega) ?_
          refine g_aload_n (n := 476) hX dL_law_475 rfl rfl rfl ?_
          refine g_aload_n (n := 477) hX dL_law_476 rfl rfl rfl ?_
          refine g_iload (n := 479) hX dL_law_477 rfl rfl ?_
          refine g_iconst (n := 480) (v := 1) hX dL_law_479 rfl rfl ?_
          refine g_iadd (n := 481) (v := nI (6 * j + 1)) hX dL_law_480 rfl (nI_add (6 * j) (1)) ?_
          refine g_scl (n := 482) (v := x1) hX hSc dL_law_481 rfl (vp_in_nI (show 6 * j + 1 < N by omega) (by omega)) (by rw [nI_clamp (by omega)]; exact hx1) ?_
          refine g_aload_n (n := 483) hX dL_law_482 rfl rfl rfl ?_
          refine g_iload (n := 485) hX dL_law_483 rfl rfl ?_
          refine g_iconst (n := 486) (v := 2) hX dL_law_485 rfl rfl ?_
          refine g_iadd (n := 487) (v := nI (6 * j + 2)) hX dL_law_486 rfl (nI_add (6 * j) (2)) ?_
          refine g_scl (n := 488) (v := x2) hX hSc dL_law_487 rfl (vp_in_nI (show 6 * j + 2 < N by omega) (by omega)) (by rw [nI_clamp (by omega)]; exact hx2) ?_
          refine g_callM (n := 491) (As := [.int x1, .int x2]) (rest := [.int ((S_mark σ x1 x2).1)]) (V := .int ((S_mark σ x1 x2).1)) (τ := (S_mark σ x1 x2).2) hX hE hU hY dL_law_488 rfl yv_X8_mark um_L_76 (m_mark _ _ K am A σ x1 x2 hI.1) ⟨rfl, rfl⟩ ⟨by rw [hRm]; exact Nat.le_of_ble_eq_true rfl, by rw [hRm]; exact Nat.le_of_ble_eq_true rfl⟩ rfl rfl (Nat.le_of_ble_eq_true rfl) ⟨by rw [hRm]; show _ ≤ 601024; omega, by rw [hRm]; show _ ≤ 7293034; omega⟩ ?_
          show G Γ (lawW K (va_pl L1 f1) am A ((S_mark σ x1 x2).2) cel gl) (36 + 80 * (j + 1)) (20947 + 4360 * (j + 1)) 491 [(4, .int (nI (6 * j))), (0, .ref b), (1, .ref (ad 0 0 0)), (2, .ref am), (3, .ref cel)] [.int ((S_mark σ x1 x2).1), .int ((S_mark σ x1 x2).1)]
          refine g_icmp_eq (n := 494) (tgt := 831) hX dL_law_491 rfl (by decide) (fun c491 => ?_) (fun c491 => absurd rfl c491)
          refine g_pick (lv' := [(4, .int (nI (6 * j))), (0, .ref b), (1, .ref (ad 0 0 0)), (2, .ref am), (3, .ref cel)]) [0, 1, 2, 3, 4] rfl ?_
          exact htail L1 f1 ad1 κ1 g1 _ _ hQ1 e1
        · have ho : x0 &&& 15 = (9 : Int32) := sw_val (hkz ▸ hk1) (by decide)
          by_cases hz2 : (S_octet σ x1 x2).2.2 0 = 0
          · refine g_iload (n := 25) hX dL_law_23 rfl rfl ?_
            refine g_aload_n (n := 26) hX dL_law_25 rfl rfl rfl ?_
            refine g_sclen (n := 27) hX hSc dL_law_26 rfl ?_
            refine g_bipush (n := 29) (v := 6) hX dL_law_27 rfl rfl ?_
            refine g_isub (n := 30) (v := nI (N - 6)) hX dL_law_29 rfl (pk_sub (a := N) (b := 6) (by omega)) ?_
            refine g_icmp_gt (n := 33) (tgt := 837) hX dL_law_30 rfl (by decide) (fun c30 => absurd c30 (nI_nlt (a := N - 6) (b := 6 * j) (by omega) (by omega))) (fun c30 => ?_)
            refine g_aload_n (n := 34) hX dL_law_33 rfl rfl rfl ?_
            refine g_iload (n := 36) hX dL_law_34 rfl rfl ?_
            refine g_scl (n := 37) (v := x0) hX hSc dL_law_36 rfl (vp_in_nI (show 6 * j < N by omega) (by omega)) (by rw [nI_clamp (by omega)]; exact hx0) ?_
            refine g_bipush (n := 39) (v := 15) hX dL_law_37 rfl rfl ?_
            refine g_iand (n := 40) (v := x0 &&& 15) hX dL_law_39 rfl rfl ?_
            refine g_tableIn (n := 496) (off := 456) hX dL_law_40 (by rw [ho]; decide) (by rw [ho]; decide) (by rw [ho]; rfl) (by decide) ?_
            refine g_aload_n (n := 497) hX dL_law_496 rfl rfl rfl ?_
            refine g_aload_n (n := 498) hX dL_law_497 rfl rfl rfl ?_
            refine g_iload (n := 500) hX dL_law_498 rfl rfl ?_
            refine g_iconst (n := 501) (v := 1) hX dL_law_500 rfl rfl ?_
            refine g_iadd (n := 502) (v := nI (6 * j + 1)) hX dL_law_501 rfl (nI_add (6 * j) (1)) ?_
            refine g_scl (n := 503) (v := x1) hX hSc dL_law_502 rfl (vp_in_nI (show 6 * j + 1 < N by omega) (by omega)) (by rw [nI_clamp (by omega)]; exact hx1) ?_
            refine g_aload_n (n := 504) hX dL_law_503 rfl rfl rfl ?_
            refine g_iload (n := 506) hX dL_law_504 rfl rfl ?_
            refine g_iconst (n := 507) (v := 2) hX dL_law_506 rfl rfl ?_
            refine g_iadd (n := 508) (v := nI (6 * j + 2)) hX dL_law_507 rfl (nI_add (6 * j) (2)) ?_
            refine g_scl (n := 509) (v := x2) hX hSc dL_law_508 rfl (vp_in_nI (show 6 * j + 2 < N by omega) (by omega)) (by rw [nI_clamp (by omega)]; exact hx2) ?_
            refine g_aload_n (n := 510) hX dL_law_509 rfl rfl rfl ?_
            refine g_callL (n := 513) (As := [.ref (ad 0 0 0), .int x1, .int x2, .ref cel]) (rest := []) (V := (S_octet σ x1 x2).2.2 0) (τ := (S_octet σ x1 x2).2) (P := fun _ _ z => z = (S_octet σ x1 x2).1.toInt64) hX hE hT hU hY dL_law_510 rfl ysw_octet um_L_77 (L_octet _ _ K hstk L f ad κ g σ (mW K am A σ) cel gl x1 x2 hQ) ⟨rfl, rfl⟩ ⟨by rw [hRm]; exact Nat.le_of_ble_eq_true rfl, by rw [hRm]; exact Nat.le_of_ble_eq_true rfl⟩ rfl rfl (Nat.le_of_ble_eq_true rfl) ⟨by rw [hRm]; show 36 + 80 * j + 2 ≤ 601024; omega, by rw [hRm]; show 20947 + 4360 * j + 2054 ≤ 7293034; omega⟩ (fun w0 gl1 hW0 hgl => ?_)
            obtain ⟨L1, f1, ad1, κ1, g1, rfl, e1, hQ1⟩ := hW0
            refine g_widen (kc' := 36 + 80 * (j + 1)) (ks' := 20947 + 4360 * (j + 1)) (by omega) (by omega) ?_
            refine g_istore (lv' := [(5, .int ((S_octet σ x1 x2).2.2 0)), (4, .int (nI (6 * j))), (0, .ref b), (1, .ref (ad 0 0 0)), (2, .ref am), (3, .ref cel)]) (n := 515) hX dL_law_513 rfl (by rw [hnL]; rfl) rfl ?_
            refine g_aload_n (n := 516) hX dL_law_515 rfl rfl rfl ?_
            refine g_aload_n (n := 517) hX dL_law_516 rfl rfl rfl ?_
            refine g_iload (n := 519) hX dL_law_517 rfl rfl ?_
            refine g_iconst (n := 520) (v := 1) hX dL_law_519 rfl rfl ?_
            refine g_iadd (n := 521) (v := nI (6 * j + 1)) hX dL_law_520 rfl (nI_add (6 * j) (1)) ?_
            refine g_scl (n := 522) (v := x1) hX hSc dL_law_521 rfl (vp_in_nI (show 6 * j + 1 < N by omega) (by omega)) (by rw [nI_clamp (by omega)]; exact hx1) ?_
            refine g_aload_n (n := 523) hX dL_law_522 rfl rfl rfl ?_
            refine g_iload (n := 525) hX dL_law_523 rfl rfl ?_
            refine g_iconst (n := 526) (v := 2) hX dL_law_525 rfl rfl ?_
            refine g_iadd (n := 527) (v := nI (6 * j + 2)) hX dL_law_526 rfl (nI_add (6 * j) (2)) ?_
            refine g_scl (n := 528) (v := x2) hX hSc dL_law_527 rfl (vp_in_nI (show 6 * j + 2 < N by omega) (by omega)) (by rw [nI_clamp (by omega)]; exact hx2) ?_
            refine g_callM (n := 531) (As := [.int x1, .int x2]) (rest := []) (V := .int ((S_octet σ x1 x2).1)) (τ := (S_octet σ x1 x2).2) hX hE hU hY dL_law_528 rfl yv_X8_octet um_L_80 (m_octet _ _ K am A σ x1 x2 hI.1 hI.ops) ⟨rfl, rfl⟩ ⟨by rw [hRm]; exact Nat.le_of_ble_eq_true rfl, by rw [hRm]; exact Nat.le_of_ble_eq_true rfl⟩ rfl rfl (Nat.le_of_ble_eq_true rfl) ⟨by rw [hRm]; show _ ≤ 601024; omega, by rw [hRm]; show _ ≤ 7293034; omega⟩ ?_
            show G Γ (lawW K (va_pl L1 f1) am A ((S_octet σ x1 x2).2) cel gl1) (36 + 80 * (j + 1)) (20947 + 4360 * (j + 1)) 531 [(5, .int ((S_octet σ x1 x2).2.2 0)), (4, .int (nI (6 * j))), (0, .ref b), (1, .ref (ad 0 0 0)), (2, .ref am), (3, .ref cel)] [.int ((S_octet σ x1 x2).1)]
            refine g_istore (lv' := [(6, .int ((S_octet σ x1 x2).1)), (5, .int ((S_octet σ x1 x2).2.2 0)), (4, .int (nI (6 * j))), (0, .ref b), (1, .ref (ad 0 0 0)), (2, .ref am), (3, .ref cel)]) (n := 533) hX dL_law_531 rfl (by rw [hnL]; rfl) rfl ?_
            refine g_aload_n (n := 534) hX dL_law_533 rfl rfl rfl ?_
            refine g_callM (n := 537) (As := []) (rest := []) (V := .int (((S_octet σ x1 x2).2).2 0)) (τ := (S_octet σ x1 x2).2) hX hE hU hY dL_law_534 rfl yv_X8_thrown um_L_61 (m_thrown _ _ K am A ((S_octet σ x1 x2).2)) ⟨rfl, rfl⟩ ⟨by rw [hRm]; exact Nat.le_of_ble_eq_true rfl, by rw [hRm]; exact Nat.le_of_ble_eq_true rfl⟩ rfl rfl (Nat.le_of_ble_eq_true rfl) ⟨by rw [hRm]; show _ ≤ 601024; omega, by rw [hRm]; show _ ≤ 7293034; omega⟩ ?_
            show G Γ (lawW K (va_pl L1 f1) am A ((S_octet σ x1 x2).2) cel gl1) (36 + 80 * (j + 1)) (20947 + 4360 * (j + 1)) 537 [(6, .int ((S_octet σ x1 x2).1)), (5, .int ((S_octet σ x1 x2).2.2 0)), (4, .int (nI (6 * j))), (0, .ref b), (1, .ref (ad 0 0 0)), (2, .ref am), (3, .ref cel)] [.int (((S_octet σ x1 x2).2).2 0)]
            refine g_iload (n := 539) hX dL_law_537 rfl rfl ?_
            refine g_icmp_eq (n := 542) (tgt := 544) hX dL_law_539 rfl (by decide) (fun c539 => ?_) (fun c539 => absurd rfl c539)
            refine g_iload (n := 546) hX dL_law_544 rfl rfl ?_
            refine g_if_ne (n := 549) (tgt := 561) hX dL_law_546 rfl (by decide) (fun c546 => absurd hz2 c546) (fun c546 => ?_)
            refine g_aload_n (n := 550) hX dL_law_549 rfl rfl rfl ?_
            refine g_iconst (n := 551) (v := 0) hX dL_law_550 rfl rfl ?_
            refine g_lldW (n := 552) (v := (S_octet σ x1 x2).1.toInt64) hX hY dL_law_551 rfl (hgl hz2) ?_
            refine g_iload (n := 554) hX dL_law_552 rfl rfl ?_
            refine g_i2l (n := 555) (v := ((S_octet σ x1 x2).1).toInt64) hX dL_law_554 rfl rfl ?_
            refine g_lcmp (n := 556) hX dL_law_555 rfl ?_
            refine g_if_eq (n := 559) (tgt := 561) hX dL_law_556 rfl (by decide) (fun c556 => ?_) (fun c556 => absurd (lg0.mpr rfl) c556)
            refine g_goto (n := 831) hX dL_law_561 (by decide) ?_
            refine g_pick (lv' := [(4, .int (nI (6 * j))), (0, .ref b), (1, .ref (ad 0 0 0)), (2, .ref am), (3, .ref cel)]) [2, 3, 4, 5, 6] rfl ?_
            exact htail L1 f1 ad1 κ1 g1 _ _ hQ1 e1
          · refine g_iload (n := 25) hX dL_law_23 rfl rfl ?_
            refine g_aload_n (n := 26) hX dL_law_25 rfl rfl rfl ?_
            refine g_sclen (n := 27) hX hSc dL_law_26 rfl ?_
            refine g_bipush (n := 29) (v := 6) hX dL_law_27 rfl rfl ?_
            refine g_isub (n := 30) (v := nI (N - 6)) hX dL_law_29 rfl (pk_sub (a := N) (b := 6) (by omega)) ?_
            refine g_icmp_gt (n := 33) (tgt := 837) hX dL_law_30 rfl (by decide) (fun c30 => absurd c30 (nI_nlt (a := N - 6) (b := 6 * j) (by omega) (by omega))) (fun c30 => ?_)
            refine g_aload_n (n := 34) hX dL_law_33 rfl rfl rfl ?_
            refine g_iload (n := 36) hX dL_law_34 rfl rfl ?_
            refine g_scl (n := 37) (v := x0) hX hSc dL_law_36 rfl (vp_in_nI (show 6 * j < N by omega) (by omega)) (by rw [nI_clamp (by omega)]; exact hx0) ?_
            refine g_bipush (n := 39) (v := 15) hX dL_law_37 rfl rfl ?_
            refine g_iand (n := 40) (v := x0 &&& 15) hX dL_law_39 rfl rfl ?_
            refine g_tableIn (n := 496) (off := 456) hX dL_law_40 (by rw [ho]; decide) (by rw [ho]; decide) (by rw [ho]; rfl) (by decide) ?_
            refine g_aload_n (n := 497) hX dL_law_496 rfl rfl rfl ?_
            refine g_aload_n (n := 498) hX dL_law_497 rfl rfl rfl ?_
            refine g_iload (n := 500) hX dL_law_498 rfl rfl ?_
            refine g_iconst (n := 501) (v := 1) hX dL_law_500 rfl rfl ?_
            refine g_iadd (n := 502) (v := nI (6 * j + 1)) hX dL_law_501 rfl (nI_add (6 * j) (1)) ?_
            refine g_scl (n := 503) (v := x1) hX hSc dL_law_502 rfl (vp_in_nI (show 6 * j + 1 < N by omega) (by omega)) (by rw [nI_clamp (by omega)]; exact hx1) ?_
            refine g_aload_n (n := 504) hX dL_law_503 rfl rfl rfl ?_
            refine g_iload (n := 506) hX dL_law_504 rfl rfl ?_
            refine g_iconst (n := 507) (v := 2) hX dL_law_506 rfl rfl ?_
            refine g_iadd (n := 508) (v := nI (6 * j + 2)) hX dL_law_507 rfl (nI_add (6 * j) (2)) ?_
            refine g_scl (n := 509) (v := x2) hX hSc dL_law_508 rfl (vp_in_nI (show 6 * j + 2 < N by omega) (by omega)) (by rw [nI_clamp (by omega)]; exact hx2) ?_
            refine g_aload_n (n := 510) hX dL_law_509 rfl rfl rfl ?_
            refine g_callL (n := 513) (As := [.ref (ad 0 0 0), .int x1, .int x2, .ref cel]) (rest := []) (V := (S_octet σ x1 x2).2.2 0) (τ := (S_octet σ x1 x2).2) (P := fun _ _ z => z = (S_octet σ x1 x2).1.toInt64) hX hE hT hU hY dL_law_510 rfl ysw_octet um_L_77 (L_octet _ _ K hstk L f ad κ g σ (mW K am A σ) cel gl x1 x2 hQ) ⟨rfl, rfl⟩ ⟨by rw [hRm]; exact Nat.le_of_ble_eq_true rfl, by rw [hRm]; exact Nat.le_of_ble_eq_true rfl⟩ rfl rfl (Nat.le_of_ble_eq_true rfl) ⟨by rw [hRm]; show 36 + 80 * j + 2 ≤ 601024; omega, by rw [hRm]; show 20947 + 4360 * j + 2054 ≤ 7293034; omega⟩ (fun w0 gl1 hW0 hgl => ?_)
            obtain ⟨L1, f1, ad1, κ1, g1, rfl, e1, hQ1⟩ := hW0
            refine g_widen (kc' := 36 + 80 * (j + 1)) (ks' := 20947 + 4360 * (j + 1)) (by omega) (by omega) ?_
            refine g_istore (lv' := [(5, .int ((S_octet σ x1 x2).2.2 0)), (4, .int (nI (6 * j))), (0, .ref b), (1, .ref (ad 0 0 0)), (2, .ref am), (3, .ref cel)]) (n := 515) hX dL_law_513 rfl (by rw [hnL]; rfl) rfl ?_
            refine g_aload_n (n := 516) hX dL_law_515 rfl rfl rfl ?_
            refine g_aload_n (n := 517) hX dL_law_516 rfl rfl rfl ?_
            refine g_iload (n := 519) hX dL_law_517 rfl rfl ?_
            refine g_iconst (n := 520) (v := 1) hX dL_law_519 rfl rfl ?_
            refine g_iadd (n := 521) (v := nI (6 * j + 1)) hX dL_law_520 rfl (nI_add (6 * j) (1)) ?_
            refine g_scl (n := 522) (v := x1) hX hSc dL_law_521 rfl (vp_in_nI (show 6 * j + 1 < N by omega) (by omega)) (by rw [nI_clamp (by omega)]; exact hx1) ?_
            refine g_aload_n (n := 523) hX dL_law_522 rfl rfl rfl ?_
            refine g_iload (n := 525) hX dL_law_523 rfl rfl ?_
            refine g_iconst (n := 526) (v := 2) hX dL_law_525 rfl rfl ?_
            refine g_iadd (n := 527) (v := nI (6 * j + 2)) hX dL_law_526 rfl (nI_add (6 * j) (2)) ?_
            refine g_scl (n := 528) (v := x2) hX hSc dL_law_527 rfl (vp_in_nI (show 6 * j + 2 < N by omega) (by omega)) (by rw [nI_clamp (by omega)]; exact hx2) ?_
            refine g_callM (n := 531) (As := [.int x1, .int x2]) (rest := []) (V := .int ((S_octet σ x1 x2).1)) (τ := (S_octet σ x1 x2).2) hX hE hU hY dL_law_528 rfl yv_X8_octet um_L_80 (m_octet _ _ K am A σ x1 x2 hI.1 hI.ops) ⟨rfl, rfl⟩ ⟨by rw [hRm]; exact Nat.le_of_ble_eq_true rfl, by rw [hRm]; exact Nat.le_of_ble_eq_true rfl⟩ rfl rfl (Nat.le_of_ble_eq_true rfl) ⟨by rw [hRm]; show _ ≤ 601024; omega, by rw [hRm]; show _ ≤ 7293034; omega⟩ ?_
            show G Γ (lawW K (va_pl L1 f1) am A ((S_octet σ x1 x2).2) cel gl1) (36 + 80 * (j + 1)) (20947 + 4360 * (j + 1)) 531 [(5, .int ((S_octet σ x1 x2).2.2 0)), (4, .int (nI (6 * j))), (0, .ref b), (1, .ref (ad 0 0 0)), (2, .ref am), (3, .ref cel)] [.int ((S_octet σ x1 x2).1)]
            refine g_istore (lv' := [(6, .int ((S_octet σ x1 x2).1)), (5, .int ((S_octet σ x1 x2).2.2 0)), (4, .int (nI (6 * j))), (0, .ref b), (1, .ref (ad 0 0 0)), (2, .ref am), (3, .ref cel)]) (n := 533) hX dL_law_531 rfl (by rw [hnL]; rfl) rfl ?_
            refine g_aload_n (n := 534) hX dL_law_533 rfl rfl rfl ?_
            refine g_callM (n := 537) (As := []) (rest := []) (V := .int (((S_octet σ x1 x2).2).2 0)) (τ := (S_octet σ x1 x2).2) hX hE hU hY dL_law_534 rfl yv_X8_thrown um_L_61 (m_thrown _ _ K am A ((S_octet σ x1 x2).2)) ⟨rfl, rfl⟩ ⟨by rw [hRm]; exact Nat.le_of_ble_eq_true rfl, by rw [hRm]; exact Nat.le_of_ble_eq_true rfl⟩ rfl rfl (Nat.le_of_ble_eq_true rfl) ⟨by rw [hRm]; show _ ≤ 601024; omega, by rw [hRm]; show _ ≤ 7293034; omega⟩ ?_
            show G Γ (lawW K (va_pl L1 f1) am A ((S_octet σ x1 x2).2) cel gl1) (36 + 80 * (j + 1)) (20947 + 4360 * (j + 1)) 537 [(6, .int ((S_octet σ x1 x2).1)), (5, .int ((S_octet σ x1 x2).2.2 0)), (4, .int (nI (6 * j))), (0, .ref b), (1, .ref (ad 0 0 0)), (2, .ref am), (3, .ref cel)] [.int (((S_octet σ x1 x2).2).2 0)]
            refine g_iload (n := 539) hX dL_law_537 rfl rfl ?_
            refine g_icmp_eq (n := 542) (tgt := 544) hX dL_law_539 rfl (by decide) (fun c539 => ?_) (fun c539 => absurd rfl c539)
            refine g_iload (n := 546) hX dL_law_544 rfl rfl ?_
            refine g_if_ne (n := 549) (tgt := 561) hX dL_law_546 rfl (by decide) (fun c546 => ?_) (fun c546 => absurd c546 hz2)
            refine g_goto (n := 831) hX dL_law_561 (by decide) ?_
            refine g_pick (lv' := [(4, .int (nI (6 * j))), (0, .ref b), (1, .ref (ad 0 0 0)), (2, .ref am), (3, .ref cel)]) [2, 3, 4, 5, 6] rfl ?_
            exact htail L1 f1 ad1 κ1 g1 _ _ hQ1 e1
        · have ho : x0 &&& 15 = (10 : Int32) := sw_val (hkz ▸ hk1) (by decide)
          refine g_iload (n := 25) hX dL_law_23 rfl rfl ?_
          refine g_aload_n (n := 26) hX dL_law_25 rfl rfl rfl ?_
          refine g_sclen (n := 27) hX hSc dL_law_26 rfl ?_
          refine g_bipush (n := 29) (v := 6) hX dL_law_27 rfl rfl ?_
          refine g_isub (n := 30) (v := nI (N - 6)) hX dL_law_29 rfl (pk_sub (a := N) (b := 6) (by omega)) ?_
          refine g_icmp_gt (n := 33) (tgt := 837) hX dL_law_30 rfl (by decide) (fun c30 => absurd c30 (nI_nlt (a := N - 6) (b := 6 * j) (by omega) (by omega))) (fun c30 => ?_)
          refine g_aload_n (n := 34) hX dL_law_33 rfl rfl rfl ?_
          refine g_iload (n := 36) hX dL_law_34 rfl rfl ?_
          refine g_scl (n := 37) (v := x0) hX hSc dL_law_36 rfl (vp_in_nI (show 6 * j < N by omega) (by omega)) (by rw [nI_clamp (by omega)]; exact hx0) ?_
          refine g_bipush (n := 39) (v := 15) hX dL_law_37 rfl rfl ?_
          refine g_iand (n := 40) (v := x0 &&& 15) hX dL_law_39 rfl rfl ?_
          refine g_tableIn (n := 564) (off := 524) hX dL_law_40 (by rw [ho]; decide) (by rw [ho]; decide) (by rw [ho]; rfl) (by decide) ?_
          refine g_aload_n (n := 565) hX dL_law_564 rfl rfl rfl ?_
          refine g_aload_n (n := 566) hX dL_law_565 rfl rfl rfl ?_
          refine g_iload (n := 568) hX dL_law_566 rfl rfl ?_
          refine g_iconst (n := 569) (v := 1) hX dL_law_568 rfl rfl ?_
          refine g_iadd (n := 570) (v := nI (6 * j + 1)) hX dL_law_569 rfl (nI_add (6 * j) (1)) ?_
          refine g_scl (n := 571) (v := x1) hX hSc dL_law_570 rfl (vp_in_nI (show 6 * j + 1 < N by omega) (by omega)) (by rw [nI_clamp (by omega)]; exact hx1) ?_
          refine g_aload_n (n := 572) hX dL_law_571 rfl rfl rfl ?_
          refine g_iload (n := 574) hX dL_law_572 rfl rfl ?_
          refine g_iconst (n := 575) (v := 2) hX dL_law_574 rfl rfl ?_
          refine g_iadd (n := 576) (v := nI (6 * j + 2)) hX dL_law_575 rfl (nI_add (6 * j) (2)) ?_
          refine g_scl (n := 577) (v := x2) hX hSc dL_law_576 rfl (vp_in_nI (show 6 * j + 2 < N by omega) (by omega)) (by rw [nI_clamp (by omega)]; exact hx2) ?_
          refine g_callX (n := 580) (As := [.int x1, .int x2]) (rest := []) hX hE hU hY dL_law_577 rfl yv_X7_shares um_L_81 hQ (F_shares _ _ K L f ad κ g σ x1 x2 hQ) ⟨rfl, rfl⟩ ⟨by rw [hRm]; exact Nat.le_of_ble_eq_true rfl, by rw [hRm]; exact Nat.le_of_ble_eq_true rfl⟩ rfl rfl (Nat.le_of_ble_eq_true rfl) ⟨by rw [hRm]; show 36 + 80 * j + 0 ≤ 601024; omega, by rw [hRm]; show 20947 + 4360 * j + 0 ≤ 7293034; omega⟩ (fun v0 w0 hq0 => ?_)
          obtain ⟨rfl, L1, f1, ad1, κ1, g1, rfl, e1, hQ1⟩ := hq0
          show G Γ (lawW K (va_pl L1 f1) am A σ cel gl) (36 + 80 * j + 0) (20947 + 4360 * j + 0) 580 [(4, .int (nI (6 * j))), (0, .ref b), (1, .ref (ad 0 0 0)), (2, .ref am), (3, .ref cel)] [.int ((S_shares σ x1 x2).1)]
          refine g_widen (kc' := 36 + 80 * (j + 1)) (ks' := 20947 + 4360 * (j + 1)) (by omega) (by omega) ?_
          refine g_aload_n (n := 581) hX dL_law_580 rfl rfl rfl ?_
          refine g_aload_n (n := 582) hX dL_law_581 rfl rfl rfl ?_
          refine g_iload (n := 584) hX dL_law_582 rfl rfl ?_
          refine g_iconst (n := 585) (v := 1) hX dL_law_584 rfl rfl ?_
          refine g_iadd (n := 586) (v := nI (6 * j + 1)) hX dL_law_585 rfl (nI_add (6 * j) (1)) ?_
          refine g_scl (n := 587) (v := x1) hX hSc dL_law_586 rfl (vp_in_nI (show 6 * j + 1 < N by omega) (by omega)) (by rw [nI_clamp (by omega)]; exact hx1) ?_
          refine g_aload_n (n := 588) hX dL_law_587 rfl rfl rfl ?_
          refine g_iload (n := 590) hX dL_law_588 rfl rfl ?_
          refine g_iconst (n := 591) (v := 2) hX dL_law_590 rfl rfl ?_
          refine g_iadd (n := 592) (v := nI (6 * j + 2)) hX dL_law_591 rfl (nI_add (6 * j) (2)) ?_
          refine g_scl (n := 593) (v := x2) hX hSc dL_law_592 rfl (vp_in_nI (show 6 * j + 2 < N by omega) (by omega)) (by rw [nI_clamp (by omega)]; exact hx2) ?_
          refine g_callM (n := 596) (As := [.int x1, .int x2]) (rest := [.int ((S_shares σ x1 x2).1)]) (V := .int ((S_shares σ x1 x2).1)) (τ := (S_shares σ x1 x2).2) hX hE hU hY dL_law_593 rfl yv_X8_shares um_L_85 (m_shares _ _ K am A σ x1 x2 hI.1) ⟨rfl, rfl⟩ ⟨by rw [hRm]; exact Nat.le_of_ble_eq_true rfl, by rw [hRm]; exact Nat.le_of_ble_eq_true rfl⟩ rfl rfl (Nat.le_of_ble_eq_true rfl) ⟨by rw [hRm]; show _ ≤ 601024; omega, by rw [hRm]; show _ ≤ 7293034; omega⟩ ?_
          show G Γ (lawW K (va_pl L1 f1) am A ((S_shares σ x1 x2).2) cel gl) (36 + 80 * (j + 1)) (20947 + 4360 * (j + 1)) 596 [(4, .int (nI (6 * j))), (0, .ref b), (1, .ref (ad 0 0 0)), (2, .ref am), (3, .ref cel)] [.int ((S_shares σ x1 x2).1), .int ((S_shares σ x1 x2).1)]
          refine g_icmp_eq (n := 599) (tgt := 831) hX dL_law_596 rfl (by decide) (fun c596 => ?_) (fun c596 => absurd rfl c596)
          refine g_pick (lv' := [(4, .int (nI (6 * j))), (0, .ref b), (1, .ref (ad 0 0 0)), (2, .ref am), (3, .ref cel)]) [0, 1, 2, 3, 4] rfl ?_
          exact htail L1 f1 ad1 κ1 g1 _ _ hQ1 e1
        · have ho : x0 &&& 15 = (11 : Int32) := sw_val (hkz ▸ hk1) (by decide)
          refine g_iload (n := 25) hX dL_law_23 rfl rfl ?_
          refine g_aload_n (n := 26) hX dL_law_25 rfl rfl rfl ?_
          refine g_sclen (n := 27) hX hSc dL_law_26 rfl ?_
          refine g_bipush (n := 29) (v := 6) hX dL_law_27 rfl rfl ?_
          refine g_isub (n := 30) (v := nI (N - 6)) hX dL_law_29 rfl (pk_sub (a := N) (b := 6) (by omega)) ?_
          refine g_icmp_gt (n := 33) (tgt := 837) hX dL_law_30 rfl (by decide) (fun c30 => absurd c30 (nI_nlt (a := N - 6) (b := 6 * j) (by omega) (by omega))) (fun c30 => ?_)
          refine g_aload_n (n := 34) hX dL_law_33 rfl rfl rfl ?_
          refine g_iload (n := 36) hX dL_law_34 rfl rfl ?_
          refine g_scl (n := 37) (v := x0) hX hSc dL_law_36 rfl (vp_in_nI (show 6 * j < N by omega) (by omega)) (by rw [nI_clamp (by omega)]; exact hx0) ?_
          refine g_bipush (n := 39) (v := 15) hX dL_law_37 rfl rfl ?_
          refine g_iand (n := 40) (v := x0 &&& 15) hX dL_law_39 rfl rfl ?_
          refine g_tableIn (n := 601) (off := 561) hX dL_law_40 (by rw [ho]; decide) (by rw [ho]; decide) (by rw [ho]; rfl) (by decide) ?_
          refine g_aload_n (n := 602) hX dL_law_601 rfl rfl rfl ?_
          refine g_aload_n (n := 603) hX dL_law_602 rfl rfl rfl ?_
          refine g_iload (n := 605) hX dL_law_603 rfl rfl ?_
          refine g_iconst (n := 606) (v := 1) hX dL_law_605 rfl rfl ?_
          refine g_iadd (n := 607) (v := nI (6 * j + 1)) hX dL_law_606 rfl (nI_add (6 * j) (1)) ?_
          refine g_scl (n := 608) (v := x1) hX hSc dL_law_607 rfl (vp_in_nI (show 6 * j + 1 < N by omega) (by omega)) (by rw [nI_clamp (by omega)]; exact hx1) ?_
          refine g_aload_n (n := 609) hX dL_law_608 rfl rfl rfl ?_
          refine g_iload (n := 611) hX dL_law_609 rfl rfl ?_
          refine g_iconst (n := 612) (v := 2) hX dL_law_611 rfl rfl ?_
          refine g_iadd (n := 613) (v := nI (6 * j + 2)) hX dL_law_612 rfl (nI_add (6 * j) (2)) ?_
          refine g_scl (n := 614) (v := x2) hX hSc dL_law_613 rfl (vp_in_nI (show 6 * j + 2 < N by omega) (by omega)) (by rw [nI_clamp (by omega)]; exact hx2) ?_
          refine g_callX (n := 617) (As := [.int x1, .int x2]) (rest := []) hX hE hU hY dL_law_614 rfl yv_X7_cancel um_L_86 hQ (F_cancel _ _ K L f ad κ g σ x1 x2 hQ) ⟨rfl, rfl⟩ ⟨by rw [hRm]; exact Nat.le_of_ble_eq_true rfl, by rw [hRm]; exact Nat.le_of_ble_eq_true rfl⟩ rfl rfl (Nat.le_of_ble_eq_true rfl) ⟨by rw [hRm]; show 36 + 80 * j + 0 ≤ 601024; omega, by rw [hRm]; show 20947 + 4360 * j + 0 ≤ 7293034; omega⟩ (fun v0 w0 hq0 => ?_)
          obtain ⟨rfl, L1, f1, ad1, κ1, g1, rfl, e1, hQ1⟩ := hq0
          show G Γ (lawW K (va_pl L1 f1) am A σ cel gl) (36 + 80 * j + 0) (20947 + 4360 * j + 0) 617 [(4, .int (nI (6 * j))), (0, .ref b), (1, .ref (ad 0 0 0)), (2, .ref am), (3, .ref cel)] [.int ((S_cancel σ x1 x2).1)]
          refine g_widen (kc' := 36 + 80 * (j + 1)) (ks' := 20947 + 4360 * (j + 1)) (by omega) (by omega) ?_
          refine g_aload_n (n := 618) hX dL_law_617 rfl rfl rfl ?_
          refine g_aload_n (n := 619) hX dL_law_618 rfl rfl rfl ?_
          refine g_iload (n := 621) hX dL_law_619 rfl rfl ?_
          refine g_iconst (n := 622) (v := 1) hX dL_law_621 rfl rfl ?_
          refine g_iadd (n := 623) (v := nI (6 * j + 1)) hX dL_law_622 rfl (nI_add (6 * j) (1)) ?_
          refine g_scl (n := 624) (v := x1) hX hSc dL_law_623 rfl (vp_in_nI (show 6 * j + 1 < N by omega) (by omega)) (by rw [nI_clamp (by omega)]; exact hx1) ?_
          refine g_aload_n (n := 625) hX dL_law_624 rfl rfl rfl ?_
          refine g_iload (n := 627) hX dL_law_625 rfl rfl ?_
          refine g_iconst (n := 628) (v := 2) hX dL_law_627 rfl rfl ?_
          refine g_iadd (n := 629) (v := nI (6 * j + 2)) hX dL_law_628 rfl (nI_add (6 * j) (2)) ?_
          refine g_scl (n := 630) (v := x2) hX hSc dL_law_629 rfl (vp_in_nI (show 6 * j + 2 < N by omega) (by omega)) (by rw [nI_clamp (by omega)]; exact hx2) ?_
          refine g_callM (n := 633) (As := [.int x1, .int x2]) (rest := [.int ((S_cancel σ x1 x2).1)]) (V := .int ((S_cancel σ x1 x2).1)) (τ := (S_cancel σ x1 x2).2) hX hE hU hY dL_law_630 rfl yv_X8_cancel um_L_89 (m_cancel _ _ K am A σ x1 x2 hI.1) ⟨rfl, rfl⟩ ⟨by rw [hRm]; exact Nat.le_of_ble_eq_true rfl, by rw [hRm]; exact Nat.le_of_ble_eq_true rfl⟩ rfl rfl (Nat.le_of_ble_eq_true rfl) ⟨by rw [hRm]; show _ ≤ 601024; omega, by rw [hRm]; show _ ≤ 7293034; omega⟩ ?_
          show G Γ (lawW K (va_pl L1 f1) am A ((S_cancel σ x1 x2).2) cel gl) (36 + 80 * (j + 1)) (20947 + 4360 * (j + 1)) 633 [(4, .int (nI (6 * j))), (0, .ref b), (1, .ref (ad 0 0 0)), (2, .ref am), (3, .ref cel)] [.int ((S_cancel σ x1 x2).1), .int ((S_cancel σ x1 x2).1)]
          refine g_icmp_eq (n := 636) (tgt := 831) hX dL_law_633 rfl (by decide) (fun c633 => ?_) (fun c633 => absurd rfl c633)
          refine g_pick (lv' := [(4, .int (nI (6 * j))), (0, .ref b), (1, .ref (ad 0 0 0)), (2, .ref am), (3, .ref cel)]) [0, 1, 2, 3, 4] rfl ?_
          exact htail L1 f1 ad1 κ1 g1 _ _ hQ1 e1
        · have ho : x0 &&& 15 = (12 : Int32) := sw_val (hkz ▸ hk1) (by decide)
          obtain ⟨la, hla⟩ : ∃ z, (x2.toInt64 <<< ((32 : Int32).toInt64 &&& 63)) ||| (x3.toInt64 &&& 4294967295) = z := ⟨_, rfl⟩
          obtain ⟨lb, hlb⟩ : ∃ z, (x4.toInt64 <<< ((32 : Int32).toInt64 &&& 63)) ||| (x5.toInt64 &&& 4294967295) = z := ⟨_, rfl⟩
          by_cases hz2 : (S_plain σ x1 la lb).2.2 0 = 0
          · refine g_iload (n := 25) hX dL_law_23 rfl rfl ?_
            refine g_aload_n (n := 26) hX dL_law_25 rfl rfl rfl ?_
            refine g_sclen (n := 27) hX hSc dL_law_26 rfl ?_
            refine g_bipush (n := 29) (v := 6) hX dL_law_27 rfl rfl ?_
            refine g_isub (n := 30) (v := nI (N - 6)) hX dL_law_29 rfl (pk_sub (a := N) (b := 6) (by omega)) ?_
            refine g_icmp_gt (n := 33) (tgt := 837) hX dL_law_30 rfl (by decide) (fun c30 => absurd c30 (nI_nlt (a := N - 6) (b := 6 * j) (by omega) (by omega))) (fun c30 => ?_)
            refine g_aload_n (n := 34) hX dL_law_33 rfl rfl rfl ?_
            refine g_iload (n := 36) hX dL_law_34 rfl rfl ?_
            refine g_scl (n := 37) (v := x0) hX hSc dL_law_36 rfl (vp_in_nI (show 6 * j < N by omega) (by omega)) (by rw [nI_clamp (by omega)]; exact hx0) ?_
            refine g_bipush (n := 39) (v := 15) hX dL_law_37 rfl rfl ?_
            refine g_iand (n := 40) (v := x0 &&& 15) hX dL_law_39 rfl rfl ?_
            refine g_tableIn (n := 638) (off := 598) hX dL_law_40 (by rw [ho]; decide) (by rw [ho]; decide) (by rw [ho]; rfl) (by decide) ?_
            refine g_aload_n (n := 639) hX dL_law_638 rfl rfl rfl ?_
            refine g_aload_n (n := 640) hX dL_law_639 rfl rfl rfl ?_
            refine g_iload (n := 642) hX dL_law_640 rfl rfl ?_
            refine g_iconst (n := 643) (v := 1) hX dL_law_642 rfl rfl ?_
            refine g_iadd (n := 644) (v := nI (6 * j + 1)) hX dL_law_643 rfl (nI_add (6 * j) (1)) ?_
            refine g_scl (n := 645) (v := x1) hX hSc dL_law_644 rfl (vp_in_nI (show 6 * j + 1 < N by omega) (by omega)) (by rw [nI_clamp (by omega)]; exact hx1) ?_
            refine g_aload_n (n := 646) hX dL_law_645 rfl rfl rfl ?_
            refine g_iload (n := 648) hX dL_law_646 rfl rfl ?_
            refine g_iconst (n := 649) (v := 2) hX dL_law_648 rfl rfl ?_
            refine g_iadd (n := 650) (v := nI (6 * j + 2)) hX dL_law_649 rfl (nI_add (6 * j) (2)) ?_
            refine g_scl (n := 651) (v := x2) hX hSc dL_law_650 rfl (vp_in_nI (show 6 * j + 2 < N by omega) (by omega)) (by rw [nI_clamp (by omega)]; exact hx2) ?_
            refine g_i2l (n := 652) (v := x2.toInt64) hX dL_law_651 rfl rfl ?_
            refine g_bipush (n := 654) (v := 32) hX dL_law_652 rfl rfl ?_
            refine g_lshl (n := 655) (v := x2.toInt64 <<< ((32 : Int32).toInt64 &&& 63)) hX dL_law_654 rfl rfl ?_
            refine g_aload_n (n := 656) hX dL_law_655 rfl rfl rfl ?_
            refine g_iload (n := 658) hX dL_law_656 rfl rfl ?_
            refine g_iconst (n := 659) (v := 3) hX dL_law_658 rfl rfl ?_
            refine g_iadd (n := 660) (v := nI (6 * j + 3)) hX dL_law_659 rfl (nI_add (6 * j) (3)) ?_
            refine g_scl (n := 661) (v := x3) hX hSc dL_law_660 rfl (vp_in_nI (show 6 * j + 3 < N by omega) (by omega)) (by rw [nI_clamp (by omega)]; exact hx3) ?_
            refine g_i2l (n := 662) (v := x3.toInt64) hX dL_law_661 rfl rfl ?_
            refine g_ldc2 (n := 665) (v := 4294967295) hX dL_law_662 rfl (hU _ uk_L_90) ?_
            refine g_land (n := 666) (v := x3.toInt64 &&& 4294967295) hX dL_law_665 rfl rfl ?_
            refine g_lor (n := 667) (v := la) hX dL_law_666 rfl hla ?_
            refine g_aload_n (n := 668) hX dL_law_667 rfl rfl rfl ?_
            refine g_iload (n := 670) hX dL_law_668 rfl rfl ?_
            refine g_iconst (n := 671) (v := 4) hX dL_law_670 rfl rfl ?_
            refine g_iadd (n := 672) (v := nI (6 * j + 4)) hX dL_law_671 rfl (nI_add (6 * j) (4)) ?_
            refine g_scl (n := 673) (v := x4) hX hSc dL_law_672 rfl (vp_in_nI (show 6 * j + 4 < N by omega) (by omega)) (by rw [nI_clamp (by omega)]; exact hx4) ?_
            refine g_i2l (n := 674) (v := x4.toInt64) hX dL_law_673 rfl rfl ?_
            refine g_bipush (n := 676) (v := 32) hX dL_law_674 rfl rfl ?_
            refine g_lshl (n := 677) (v := x4.toInt64 <<< ((32 : Int32).toInt64 &&& 63)) hX dL_law_676 rfl rfl ?_
            refine g_aload_n (n := 678) hX dL_law_677 rfl rfl rfl ?_
            refine g_iload (n := 680) hX dL_law_678 rfl rfl ?_
            refine g_iconst (n := 681) (v := 5) hX dL_law_680 rfl rfl ?_
            refine g_iadd (n := 682) (v := nI (6 * j + 5)) hX dL_law_681 rfl (nI_add (6 * j) (5)) ?_
            refine g_scl (n := 683) (v := x5) hX hSc dL_law_682 rfl (vp_in_nI (show 6 * j + 5 < N by omega) (by omega)) (by rw [nI_clamp (by omega)]; exact hx5) ?_
            refine g_i2l (n := 684) (v := x5.toInt64) hX dL_law_683 rfl rfl ?_
            refine g_ldc2 (n := 687) (v := 4294967295) hX dL_law_684 rfl (hU _ uk_L_90) ?_
            refine g_land (n := 688) (v := x5.toInt64 &&& 4294967295) hX dL_law_687 rfl rfl ?_
            refine g_lor (n := 689) (v := lb) hX dL_law_688 rfl hlb ?_
            refine g_aload_n (n := 690) hX dL_law_689 rfl rfl rfl ?_
            refine g_callL (n := 693) (As := [.ref (ad 0 0 0), .int x1, .long la, .long lb, .ref cel]) (rest := []) (V := (S_plain σ x1 la lb).2.2 0) (τ := (S_plain σ x1 la lb).2) (P := fun _ _ z => z = (S_plain σ x1 la lb).1) hX hE hT hU hY dL_law_690 rfl ysw_plain um_L_92 (L_plain _ _ K hstk L f ad κ g σ (mW K am A σ) cel gl x1 la lb hQ) ⟨rfl, rfl⟩ ⟨by rw [hRm]; exact Nat.le_of_ble_eq_true rfl, by rw [hRm]; exact Nat.le_of_ble_eq_true rfl⟩ rfl rfl (Nat.le_of_ble_eq_true rfl) ⟨by rw [hRm]; show 36 + 80 * j + 1 ≤ 601024; omega, by rw [hRm]; show 20947 + 4360 * j + 6 ≤ 7293034; omega⟩ (fun w0 gl1 hW0 hgl => ?_)
            obtain ⟨L1, f1, ad1, κ1, g1, rfl, e1, hQ1⟩ := hW0
            refine g_widen (kc' := 36 + 80 * (j + 1)) (ks' := 20947 + 4360 * (j + 1)) (by omega) (by omega) ?_
            refine g_istore (lv' := [(5, .int ((S_plain σ x1 la lb).2.2 0)), (4, .int (nI (6 * j))), (0, .ref b), (1, .ref (ad 0 0 0)), (2, .ref am), (3, .ref cel)]) (n := 695) hX dL_law_693 rfl (by rw [hnL]; rfl) rfl ?_
            refine g_aload_n (n := 696) hX dL_law_695 rfl rfl rfl ?_
            refine g_aload_n (n := 697) hX dL_law_696 rfl rfl rfl ?_
            refine g_iload (n := 699) hX dL_law_697 rfl rfl ?_
            refine g_iconst (n := 700) (v := 1) hX dL_law_699 rfl rfl ?_
            refine g_iadd (n := 701) (v := nI (6 * j + 1)) hX dL_law_700 rfl (nI_add (6 * j) (1)) ?_
            refine g_scl (n := 702) (v := x1) hX hSc dL_law_701 rfl (vp_in_nI (show 6 * j + 1 < N by omega) (by omega)) (by rw [nI_clamp (by omega)]; exact hx1) ?_
            refine g_aload_n (n := 703) hX dL_law_702 rfl rfl rfl ?_
            refine g_iload (n := 705) hX dL_law_703 rfl rfl ?_
            refine g_iconst (n := 706) (v := 2) hX dL_law_705 rfl rfl ?_
            refine g_iadd (n := 707) (v := nI (6 * j + 2)) hX dL_law_706 rfl (nI_add (6 * j) (2)) ?_
            refine g_scl (n := 708) (v := x2) hX hSc dL_law_707 rfl (vp_in_nI (show 6 * j + 2 < N by omega) (by omega)) (by rw [nI_clamp (by omega)]; exact hx2) ?_
            refine g_i2l (n := 709) (v := x2.toInt64) hX dL_law_708 rfl rfl ?_
            refine g_bipush (n := 711) (v := 32) hX dL_law_709 rfl rfl ?_
            refine g_lshl (n := 712) (v := x2.toInt64 <<< ((32 : Int32).toInt64 &&& 63)) hX dL_law_711 rfl rfl ?_
            refine g_aload_n (n := 713) hX dL_law_712 rfl rfl rfl ?_
            refine g_iload (n := 715) hX dL_law_713 rfl rfl ?_
            refine g_iconst (n := 716) (v := 3) hX dL_law_715 rfl rfl ?_
            refine g_iadd (n := 717) (v := nI (6 * j + 3)) hX dL_law_716 rfl (nI_add (6 * j) (3)) ?_
            refine g_scl (n := 718) (v := x3) hX hSc dL_law_717 rfl (vp_in_nI (show 6 * j + 3 < N by omega) (by omega)) (by rw [nI_clamp (by omega)]; exact hx3) ?_
            refine g_i2l (n := 719) (v := x3.toInt64) hX dL_law_718 rfl rfl ?_
            refine g_ldc2 (n := 722) (v := 4294967295) hX dL_law_719 rfl (hU _ uk_L_90) ?_
            refine g_land (n := 723) (v := x3.toInt64 &&& 4294967295) hX dL_law_722 rfl rfl ?_
            refine g_lor (n := 724) (v := la) hX dL_law_723 rfl hla ?_
            refine g_aload_n (n := 725) hX dL_law_724 rfl rfl rfl ?_
            refine g_iload (n := 727) hX dL_law_725 rfl rfl ?_
            refine g_iconst (n := 728) (v := 4) hX dL_law_727 rfl rfl ?_
            refine g_iadd (n := 729) (v := nI (6 * j + 4)) hX dL_law_728 rfl (nI_add (6 * j) (4)) ?_
            refine g_scl (n := 730) (v := x4) hX hSc dL_law_729 rfl (vp_in_nI (show 6 * j + 4 < N by omega) (by omega)) (by rw [nI_clamp (by omega)]; exact hx4) ?_
            refine g_i2l (n := 731) (v := x4.toInt64) hX dL_law_730 rfl rfl ?_
            refine g_bipush (n := 733) (v := 32) hX dL_law_731 rfl rfl ?_
            refine g_lshl (n := 734) (v := x4.toInt64 <<< ((32 : Int32).toInt64 &&& 63)) hX dL_law_733 rfl rfl ?_
            refine g_aload_n (n := 735) hX dL_law_734 rfl rfl rfl ?_
            refine g_iload (n := 737) hX dL_law_735 rfl rfl ?_
            refine g_iconst (n := 738) (v := 5) hX dL_law_737 rfl rfl ?_
            refine g_iadd (n := 739) (v := nI (6 * j + 5)) hX dL_law_738 rfl (nI_add (6 * j) (5)) ?_
            refine g_scl (n := 740) (v := x5) hX hSc dL_law_739 rfl (vp_in_nI (show 6 * j + 5 < N by omega) (by omega)) (by rw [nI_clamp (by omega)]; exact hx5) ?_
            refine g_i2l (n := 741) (v := x5.toInt64) hX dL_law_740 rfl rfl ?_
            refine g_ldc2 (n := 744) (v := 4294967295) hX dL_law_741 rfl (hU _ uk_L_90) ?_
            refine g_land (n := 745) (v := x5.toInt64 &&& 4294967295) hX dL_law_744 rfl rfl ?_
            refine g_lor (n := 746) (v := lb) hX dL_law_745 rfl hlb ?_
            refine g_callM (n := 749) (As := [.int x1, .long la, .long lb]) (rest := []) (V := .long ((S_plain σ x1 la lb).1)) (τ := (S_plain σ x1 la lb).2) hX hE hU hY dL_law_746 rfl yv_X8_plain um_L_95 (m_plain _ _ K am A σ x1 la lb) ⟨rfl, rfl⟩ ⟨by rw [hRm]; exact Nat.le_of_ble_eq_true rfl, by rw [hRm]; exact Nat.le_of_ble_eq_true rfl⟩ rfl rfl (Nat.le_of_ble_eq_true rfl) ⟨by rw [hRm]; show _ ≤ 601024; omega, by rw [hRm]; show _ ≤ 7293034; omega⟩ ?_
            show G Γ (lawW K (va_pl L1 f1) am A ((S_plain σ x1 la lb).2) cel gl1) (36 + 80 * (j + 1)) (20947 + 4360 * (j + 1)) 749 [(5, .int ((S_plain σ x1 la lb).2.2 0)), (4, .int (nI (6 * j))), (0, .ref b), (1, .ref (ad 0 0 0)), (2, .ref am), (3, .ref cel)] [.long ((S_plain σ x1 la lb).1)]
            refine g_lstore (lv' := [(6, .long ((S_plain σ x1 la lb).1)), (5, .int ((S_plain σ x1 la lb).2.2 0)), (4, .int (nI (6 * j))), (0, .ref b), (1, .ref (ad 0 0 0)), (2, .ref am), (3, .ref cel)]) (n := 751) hX dL_law_749 rfl (by rw [hnL]; rfl) rfl ?_
            refine g_aload_n (n := 752) hX dL_law_751 rfl rfl rfl ?_
            refine g_callM (n := 755) (As := []) (rest := []) (V := .int (((S_plain σ x1 la lb).2).2 0)) (τ := (S_plain σ x1 la lb).2) hX hE hU hY dL_law_752 rfl yv_X8_thrown um_L_61 (m_thrown _ _ K am A ((S_plain σ x1 la lb).2)) ⟨rfl, rfl⟩ ⟨by rw [hRm]; exact Nat.le_of_ble_eq_true rfl, by rw [hRm]; exact Nat.le_of_ble_eq_true rfl⟩ rfl rfl (Nat.le_of_ble_eq_true rfl) ⟨by rw [hRm]; show _ ≤ 601024; omega, by rw [hRm]; show _ ≤ 7293034; omega⟩ ?_
            show G Γ (lawW K (va_pl L1 f1) am A ((S_plain σ x1 la lb).2) cel gl1) (36 + 80 * (j + 1)) (20947 + 4360 * (j + 1)) 755 [(6, .long ((S_plain σ x1 la lb).1)), (5, .int ((S_plain σ x1 la lb).2.2 0)), (4, .int (nI (6 * j))), (0, .ref b), (1, .ref (ad 0 0 0)), (2, .ref am), (3, .ref cel)] [.int (((S_plain σ x1 la lb).2).2 0)]
            refine g_iload (n := 757) hX dL_law_755 rfl rfl ?_
            refine g_icmp_eq (n := 760) (tgt := 762) hX dL_law_757 rfl (by decide) (fun c757 => ?_) (fun c757 => absurd rfl c757)
            refine g_iload (n := 764) hX dL_law_762 rfl rfl ?_
            refine g_if_ne (n := 767) (tgt := 778) hX dL_law_764 rfl (by decide) (fun c764 => absurd hz2 c764) (fun c764 => ?_)
            refine g_aload_n (n := 768) hX dL_law_767 rfl rfl rfl ?_
            refine g_iconst (n := 769) (v := 0) hX dL_law_768 rfl rfl ?_
            refine g_lldW (n := 770) (v := (S_plain σ x1 la lb).1) hX hY dL_law_769 rfl (hgl hz2) ?_
            refine g_lload (n := 772) hX dL_law_770 rfl rfl ?_
            refine g_lcmp (n := 773) hX dL_law_772 rfl ?_
            refine g_if_eq (n := 776) (tgt := 778) hX dL_law_773 rfl (by decide) (fun c773 => ?_) (fun c773 => absurd (lg0.mpr rfl) c773)
            refine g_goto (n := 831) hX dL_law_778 (by decide) ?_
            refine g_pick (lv' := [(4, .int (nI (6 * j))), (0, .ref b), (1, .ref (ad 0 0 0)), (2, .ref am), (3, .ref cel)]) [2, 3, 4, 5, 6] rfl ?_
            exact htail L1 f1 ad1 κ1 g1 _ _ hQ1 e1
          · refine g_iload (n := 25) hX dL_law_23 rfl rfl ?_
            refine g_aload_n (n := 26) hX dL_law_25 rfl rfl rfl ?_
            refine g_sclen (n := 27) hX hSc dL_law_26 rfl ?_
            refine g_bipush (n := 29) (v := 6) hX dL_law_27 rfl rfl ?_
            refine g_isub (n := 30) (v := nI (N - 6)) hX dL_law_29 rfl (pk_sub (a := N) (b := 6) (by omega)) ?_
            refine g_icmp_gt (n := 33) (tgt := 837) hX dL_law_30 rfl (by decide) (fun c30 => absurd c30 (nI_nlt (a := N - 6) (b := 6 * j) (by omega) (by omega))) (fun c30 => ?_)
            refine g_aload_n (n := 34) hX dL_law_33 rfl rfl rfl ?_
            refine g_iload (n := 36) hX dL_law_34 rfl rfl ?_
            refine g_scl (n := 37) (v := x0) hX hSc dL_law_36 rfl (vp_in_nI (show 6 * j < N by omega) (by omega)) (by rw [nI_clamp (by omega)]; exact hx0) ?_
            refine g_bipush (n := 39) (v := 15) hX dL_law_37 rfl rfl ?_
            refine g_iand (n := 40) (v := x0 &&& 15) hX dL_law_39 rfl rfl ?_
            refine g_tableIn (n := 638) (off := 598) hX dL_law_40 (by rw [ho]; decide) (by rw [ho]; decide) (by rw [ho]; rfl) (by decide) ?_
            refine g_aload_n (n := 639) hX dL_law_638 rfl rfl rfl ?_
            refine g_aload_n (n := 640) hX dL_law_639 rfl rfl rfl ?_
            refine g_iload (n := 642) hX dL_law_640 rfl rfl ?_
            refine g_iconst (n := 643) (v := 1) hX dL_law_642 rfl rfl ?_
            refine g_iadd (n := 644) (v := nI (6 * j + 1)) hX dL_law_643 rfl (nI_add (6 * j) (1)) ?_
            refine g_scl (n := 645) (v := x1) hX hSc dL_law_644 rfl (vp_in_nI (show 6 * j + 1 < N by omega) (by omega)) (by rw [nI_clamp (by omega)]; exact hx1) ?_
            refine g_aload_n (n := 646) hX dL_law_645 rfl rfl rfl ?_
            refine g_iload (n := 648) hX dL_law_646 rfl rfl ?_
            refine g_iconst (n := 649) (v := 2) hX dL_law_648 rfl rfl ?_
            refine g_iadd (n := 650) (v := nI (6 * j + 2)) hX dL_law_649 rfl (nI_add (6 * j) (2)) ?_
            refine g_scl (n := 651) (v := x2) hX hSc dL_law_650 rfl (vp_in_nI (show 6 * j + 2 < N by omega) (by omega)) (by rw [nI_clamp (by omega)]; exact hx2) ?_
            refine g_i2l (n := 652) (v := x2.toInt64) hX dL_law_651 rfl rfl ?_
            refine g_bipush (n := 654) (v := 32) hX dL_law_652 rfl rfl ?_
            refine g_lshl (n := 655) (v := x2.toInt64 <<< ((32 : Int32).toInt64 &&& 63)) hX dL_law_654 rfl rfl ?_
            refine g_aload_n (n := 656) hX dL_law_655 rfl rfl rfl ?_
            refine g_iload (n := 658) hX dL_law_656 rfl rfl ?_
            refine g_iconst (n := 659) (v := 3) hX dL_law_658 rfl rfl ?_
            refine g_iadd (n := 660) (v := nI (6 * j + 3)) hX dL_law_659 rfl (nI_add (6 * j) (3)) ?_
            refine g_scl (n := 661) (v := x3) hX hSc dL_law_660 rfl (vp_in_nI (show 6 * j + 3 < N by omega) (by omega)) (by rw [nI_clamp (by omega)]; exact hx3) ?_
            refine g_i2l (n := 662) (v := x3.toInt64) hX dL_law_661 rfl rfl ?_
            refine g_ldc2 (n := 665) (v := 4294967295) hX dL_law_662 rfl (hU _ uk_L_90) ?_
            refine g_land (n := 666) (v := x3.toInt64 &&& 4294967295) hX dL_law_665 rfl rfl ?_
            refine g_lor (n := 667) (v := la) hX dL_law_666 rfl hla ?_
            refine g_aload_n (n := 668) hX dL_law_667 rfl rfl rfl ?_
            refine g_iload (n := 670) hX dL_law_668 rfl rfl ?_
            refine g_iconst (n := 671) (v := 4) hX dL_law_670 rfl rfl ?_
            refine g_iadd (n := 672) (v := nI (6 * j + 4)) hX dL_law_671 rfl (nI_add (6 * j) (4)) ?_
            refine g_scl (n := 673) (v := x4) hX hSc dL_law_672 rfl (vp_in_nI (show 6 * j + 4 < N by omega) (by omega)) (by rw [nI_clamp (by omega)]; exact hx4) ?_
            refine g_i2l (n := 674) (v := x4.toInt64) hX dL_law_673 rfl rfl ?_
            refine g_bipush (n := 676) (v := 32) hX dL_law_674 rfl rfl ?_
            refine g_lshl (n := 677) (v := x4.toInt64 <<< ((32 : Int32).toInt64 &&& 63)) hX dL_law_676 rfl rfl ?_
            refine g_aload_n (n := 678) hX dL_law_677 rfl rfl rfl ?_
            refine g_iload (n := 680) hX dL_law_678 rfl rfl ?_
            refine g_iconst (n := 681) (v := 5) hX dL_law_680 rfl rfl ?_
            refine g_iadd (n := 682) (v := nI (6 * j + 5)) hX dL_law_681 rfl (nI_add (6 * j) (5)) ?_
            refine g_scl (n := 683) (v := x5) hX hSc dL_law_682 rfl (vp_in_nI (show 6 * j + 5 < N by omega) (by omega)) (by rw [nI_clamp (by omega)]; exact hx5) ?_
            refine g_i2l (n := 684) (v := x5.toInt64) hX dL_law_683 rfl rfl ?_
            refine g_ldc2 (n := 687) (v := 4294967295) hX dL_law_684 rfl (hU _ uk_L_90) ?_
            refine g_land (n := 688) (v := x5.toInt64 &&& 4294967295) hX dL_law_687 rfl rfl ?_
            refine g_lor (n := 689) (v := lb) hX dL_law_688 rfl hlb ?_
            refine g_aload_n (n := 690) hX dL_law_689 rfl rfl rfl ?_
            refine g_callL (n := 693) (As := [.ref (ad 0 0 0), .int x1, .long la, .long lb, .ref cel]) (rest := []) (V := (S_plain σ x1 la lb).2.2 0) (τ := (S_plain σ x1 la lb).2) (P := fun _ _ z => z = (S_plain σ x1 la lb).1) hX hE hT hU hY dL_law_690 rfl ysw_plain um_L_92 (L_plain _ _ K hstk L f ad κ g σ (mW K am A σ) cel gl x1 la lb hQ) ⟨rfl, rfl⟩ ⟨by rw [hRm]; exact Nat.le_of_ble_eq_true rfl, by rw [hRm]; exact Nat.le_of_ble_eq_true rfl⟩ rfl rfl (Nat.le_of_ble_eq_true rfl) ⟨by rw [hRm]; show 36 + 80 * j + 1 ≤ 601024; omega, by rw [hRm]; show 20947 + 4360 * j + 6 ≤ 7293034; omega⟩ (fun w0 gl1 hW0 hgl => ?_)
            obtain ⟨L1, f1, ad1, κ1, g1, rfl, e1, hQ1⟩ := hW0
            refine g_widen (kc' := 36 + 80 * (j + 1)) (ks' := 20947 + 4360 * (j + 1)) (by omega) (by omega) ?_
            refine g_istore (lv' := [(5, .int ((S_plain σ x1 la lb).2.2 0)), (4, .int (nI (6 * j))), (0, .ref b), (1, .ref (ad 0 0 0)), (2, .ref am), (3, .ref cel)]) (n := 695) hX dL_law_693 rfl (by rw [hnL]; rfl) rfl ?_
            refine g_aload_n (n := 696) hX dL_law_695 rfl rfl rfl ?_
            refine g_aload_n (n := 697) hX dL_law_696 rfl rfl rfl ?_
            refine g_iload (n := 699) hX dL_law_697 rfl rfl ?_
            refine g_iconst (n := 700) (v := 1) hX dL_law_699 rfl rfl ?_
            refine g_iadd (n := 701) (v := nI (6 * j + 1)) hX dL_law_700 rfl (nI_add (6 * j) (1)) ?_
            refine g_scl (n := 702) (v := x1) hX hSc dL_law_701 rfl (vp_in_nI (show 6 * j + 1 < N by omega) (by omega)) (by rw [nI_clamp (by omega)]; exact hx1) ?_
            refine g_aload_n (n := 703) hX dL_law_702 rfl rfl rfl ?_
            refine g_iload (n := 705) hX dL_law_703 rfl rfl ?_
            refine g_iconst (n := 706) (v := 2) hX dL_law_705 rfl rfl ?_
            refine g_iadd (n := 707) (v := nI (6 * j + 2)) hX dL_law_706 rfl (nI_add (6 * j) (2)) ?_
            refine g_scl (n := 708) (v := x2) hX hSc dL_law_707 rfl (vp_in_nI (show 6 * j + 2 < N by omega) (by omega)) (by rw [nI_clamp (by omega)]; exact hx2) ?_
            refine g_i2l (n := 709) (v := x2.toInt64) hX dL_law_708 rfl rfl ?_
            refine g_bipush (n := 711) (v := 32) hX dL_law_709 rfl rfl ?_
            refine g_lshl (n := 712) (v := x2.toInt64 <<< ((32 : Int32).toInt64 &&& 63)) hX dL_law_711 rfl rfl ?_
            refine g_aload_n (n := 713) hX dL_law_712 rfl rfl rfl ?_
            refine g_iload (n := 715) hX dL_law_713 rfl rfl ?_
            refine g_iconst (n := 716) (v := 3) hX dL_law_715 rfl rfl ?_
            refine g_iadd (n := 717) (v := nI (6 * j + 3)) hX dL_law_716 rfl (nI_add (6 * j) (3)) ?_
            refine g_scl (n := 718) (v := x3) hX hSc dL_law_717 rfl (vp_in_nI (show 6 * j + 3 < N by omega) (by omega)) (by rw [nI_clamp (by omega)]; exact hx3) ?_
            refine g_i2l (n := 719) (v := x3.toInt64) hX dL_law_718 rfl rfl ?_
            refine g_ldc2 (n := 722) (v := 4294967295) hX dL_law_719 rfl (hU _ uk_L_90) ?_
            refine g_land (n := 723) (v := x3.toInt64 &&& 4294967295) hX dL_law_722 rfl rfl ?_
            refine g_lor (n := 724) (v := la) hX dL_law_723 rfl hla ?_
            refine g_aload_n (n := 725) hX dL_law_724 rfl rfl rfl ?_
            refine g_iload (n := 727) hX dL_law_725 rfl rfl ?_
            refine g_iconst (n := 728) (v := 4) hX dL_law_727 rfl rfl ?_
            refine g_iadd (n := 729) (v := nI (6 * j + 4)) hX dL_law_728 rfl (nI_add (6 * j) (4)) ?_
            refine g_scl (n := 730) (v := x4) hX hSc dL_law_729 rfl (vp_in_nI (show 6 * j + 4 < N by omega) (by omega)) (by rw [nI_clamp (by omega)]; exact hx4) ?_
            refine g_i2l (n := 731) (v := x4.toInt64) hX dL_law_730 rfl rfl ?_
            refine g_bipush (n := 733) (v := 32) hX dL_law_731 rfl rfl ?_
            refine g_lshl (n := 734) (v := x4.toInt64 <<< ((32 : Int32).toInt64 &&& 63)) hX dL_law_733 rfl rfl ?_
            refine g_aload_n (n := 735) hX dL_law_734 rfl rfl rfl ?_
            refine g_iload (n := 737) hX dL_law_735 rfl rfl ?_
            refine g_iconst (n := 738) (v := 5) hX dL_law_737 rfl rfl ?_
            refine g_iadd (n := 739) (v := nI (6 * j + 5)) hX dL_law_738 rfl (nI_add (6 * j) (5)) ?_
            refine g_scl (n := 740) (v := x5) hX hSc dL_law_739 rfl (vp_in_nI (show 6 * j + 5 < N by omega) (by omega)) (by rw [nI_clamp (by omega)]; exact hx5) ?_
            refine g_i2l (n := 741) (v := x5.toInt64) hX dL_law_740 rfl rfl ?_
            refine g_ldc2 (n := 744) (v := 4294967295) hX dL_law_741 rfl (hU _ uk_L_90) ?_
            refine g_land (n := 745) (v := x5.toInt64 &&& 4294967295) hX dL_law_744 rfl rfl ?_
            refine g_lor (n := 746) (v := lb) hX dL_law_745 rfl hlb ?_
            refine g_callM (n := 749) (As := [.int x1, .long la, .long lb]) (rest := []) (V := .long ((S_plain σ x1 la lb).1)) (τ := (S_plain σ x1 la lb).2) hX hE hU hY dL_law_746 rfl yv_X8_plain um_L_95 (m_plain _ _ K am A σ x1 la lb) ⟨rfl, rfl⟩ ⟨by rw [hRm]; exact Nat.le_of_ble_eq_true rfl, by rw [hRm]; exact Nat.le_of_ble_eq_true rfl⟩ rfl rfl (Nat.le_of_ble_eq_true rfl) ⟨by rw [hRm]; show _ ≤ 601024; omega, by rw [hRm]; show _ ≤ 7293034; omega⟩ ?_
            show G Γ (lawW K (va_pl L1 f1) am A ((S_plain σ x1 la lb).2) cel gl1) (36 + 80 * (j + 1)) (20947 + 4360 * (j + 1)) 749 [(5, .int ((S_plain σ x1 la lb).2.2 0)), (4, .int (nI (6 * j))), (0, .ref b), (1, .ref (ad 0 0 0)), (2, .ref am), (3, .ref cel)] [.long ((S_plain σ x1 la lb).1)]
            refine g_lstore (lv' := [(6, .long ((S_plain σ x1 la lb).1)), (5, .int ((S_plain σ x1 la lb).2.2 0)), (4, .int (nI (6 * j))), (0, .ref b), (1, .ref (ad 0 0 0)), (2, .ref am), (3, .ref cel)]) (n := 751) hX dL_law_749 rfl (by rw [hnL]; rfl) rfl ?_
            refine g_aload_n (n := 752) hX dL_law_751 rfl rfl rfl ?_
            refine g_callM (n := 755) (As := []) (rest := []) (V := .int (((S_plain σ x1 la lb).2).2 0)) (τ := (S_plain σ x1 la lb).2) hX hE hU hY dL_law_752 rfl yv_X8_thrown um_L_61 (m_thrown _ _ K am A ((S_plain σ x1 la lb).2)) ⟨rfl, rfl⟩ ⟨by rw [hRm]; exact Nat.le_of_ble_eq_true rfl, by rw [hRm]; exact Nat.le_of_ble_eq_true rfl⟩ rfl rfl (Nat.le_of_ble_eq_true rfl) ⟨by rw [hRm]; show _ ≤ 601024; omega, by rw [hRm]; show _ ≤ 7293034; omega⟩ ?_
            show G Γ (lawW K (va_pl L1 f1) am A ((S_plain σ x1 la lb).2) cel gl1) (36 + 80 * (j + 1)) (20947 + 4360 * (j + 1)) 755 [(6, .long ((S_plain σ x1 la lb).1)), (5, .int ((S_plain σ x1 la lb).2.2 0)), (4, .int (nI (6 * j))), (0, .ref b), (1, .ref (ad 0 0 0)), (2, .ref am), (3, .ref cel)] [.int (((S_plain σ x1 la lb).2).2 0)]
            refine g_iload (n := 757) hX dL_law_755 rfl rfl ?_
            refine g_icmp_eq (n := 760) (tgt := 762) hX dL_law_757 rfl (by decide) (fun c757 => ?_) (fun c757 => absurd rfl c757)
            refine g_iload (n := 764) hX dL_law_762 rfl rfl ?_
            refine g_if_ne (n := 767) (tgt := 778) hX dL_law_764 rfl (by decide) (fun c764 => ?_) (fun c764 => absurd c764 hz2)
            refine g_goto (n := 831) hX dL_law_778 (by decide) ?_
            refine g_pick (lv' := [(4, .int (nI (6 * j))), (0, .ref b), (1, .ref (ad 0 0 0)), (2, .ref am), (3, .ref cel)]) [2, 3, 4, 5, 6] rfl ?_
            exact htail L1 f1 ad1 κ1 g1 _ _ hQ1 e1
        · have ho : x0 &&& 15 = (13 : Int32) := sw_val (hkz ▸ hk1) (by decide)
          refine g_iload (n := 25) hX dL_law_23 rfl rfl ?_
          refine g_aload_n (n := 26) hX dL_law_25 rfl rfl rfl ?_
          refine g_sclen (n := 27) hX hSc dL_law_26 rfl ?_
          refine g_bipush (n := 29) (v := 6) hX dL_law_27 rfl rfl ?_
          refine g_isub (n := 30) (v := nI (N - 6)) hX dL_law_29 rfl (pk_sub (a := N) (b := 6) (by omega)) ?_
          refine g_icmp_gt (n := 33) (tgt := 837) hX dL_law_30 rfl (by decide) (fun c30 => absurd c30 (nI_nlt (a := N - 6) (b := 6 * j) (by omega) (by omega))) (fun c30 => ?_)
          refine g_aload_n (n := 34) hX dL_law_33 rfl rfl rfl ?_
          refine g_iload (n := 36) hX dL_law_34 rfl rfl ?_
          refine g_scl (n := 37) (v := x0) hX hSc dL_law_36 rfl (vp_in_nI (show 6 * j < N by omega) (by omega)) (by rw [nI_clamp (by omega)]; exact hx0) ?_
          refine g_bipush (n := 39) (v := 15) hX dL_law_37 rfl rfl ?_
          refine g_iand (n := 40) (v := x0 &&& 15) hX dL_law_39 rfl rfl ?_
          refine g_tableIn (n := 781) (off := 741) hX dL_law_40 (by rw [ho]; decide) (by rw [ho]; decide) (by rw [ho]; rfl) (by decide) ?_
          refine g_aload_n (n := 782) hX dL_law_781 rfl rfl rfl ?_
          refine g_aload_n (n := 783) hX dL_law_782 rfl rfl rfl ?_
          refine g_iload (n := 785) hX dL_law_783 rfl rfl ?_
          refine g_iconst (n := 786) (v := 1) hX dL_law_785 rfl rfl ?_
          refine g_iadd (n := 787) (v := nI (6 * j + 1)) hX dL_law_786 rfl (nI_add (6 * j) (1)) ?_
          refine g_scl (n := 788) (v := x1) hX hSc dL_law_787 rfl (vp_in_nI (show 6 * j + 1 < N by omega) (by omega)) (by rw [nI_clamp (by omega)]; exact hx1) ?_
          refine g_callX (n := 791) (As := [.int x1]) (rest := []) hX hE hU hY dL_law_788 rfl yv_X7_state um_L_96 hQ (F_state _ _ K L f ad κ g σ x1 hQ) ⟨rfl, rfl⟩ ⟨by rw [hRm]; exact Nat.le_of_ble_eq_true rfl, by rw [hRm]; exact Nat.le_of_ble_eq_true rfl⟩ rfl rfl (Nat.le_of_ble_eq_true rfl) ⟨by rw [hRm]; show 36 + 80 * j + 0 ≤ 601024; omega, by rw [hRm]; show 20947 + 4360 * j + 0 ≤ 7293034; omega⟩ (fun v0 w0 hq0 => ?_)
          obtain ⟨rfl, L1, f1, ad1, κ1, g1, rfl, e1, hQ1⟩ := hq0
          show G Γ (lawW K (va_pl L1 f1) am A σ cel gl) (36 + 80 * j + 0) (20947 + 4360 * j + 0) 791 [(4, .int (nI (6 * j))), (0, .ref b), (1, .ref (ad 0 0 0)), (2, .ref am), (3, .ref cel)] [.int ((S_state σ x1).1)]
          refine g_widen (kc' := 36 + 80 * (j + 1)) (ks' := 20947 + 4360 * (j + 1)) (by omega) (by omega) ?_
          refine g_aload_n (n := 792) hX dL_law_791 rfl rfl rfl ?_
          refine g_aload_n (n := 793) hX dL_law_792 rfl rfl rfl ?_
          refine g_iload (n := 795) hX dL_law_793 rfl rfl ?_
          refine g_iconst (n := 796) (v := 1) hX dL_law_795 rfl rfl ?_
          refine g_iadd (n := 797) (v := nI (6 * j + 1)) hX dL_law_796 rfl (nI_add (6 * j) (1)) ?_
          refine g_scl (n := 798) (v := x1) hX hSc dL_law_797 rfl (vp_in_nI (show 6 * j + 1 < N by omega) (by omega)) (by rw [nI_clamp (by omega)]; exact hx1) ?_
          refine g_callM (n := 801) (As := [.int x1]) (rest := [.int ((S_state σ x1).1)]) (V := .int ((S_state σ x1).1)) (τ := (S_state σ x1).2) hX hE hU hY dL_law_798 rfl yv_X8_state um_L_99 (m_state _ _ K am A σ x1 hI.1) ⟨rfl, rfl⟩ ⟨by rw [hRm]; exact Nat.le_of_ble_eq_true rfl, by rw [hRm]; exact Nat.le_of_ble_eq_true rfl⟩ rfl rfl (Nat.le_of_ble_eq_true rfl) ⟨by rw [hRm]; show _ ≤ 601024; omega, by rw [hRm]; show _ ≤ 7293034; omega⟩ ?_
          show G Γ (lawW K (va_pl L1 f1) am A ((S_state σ x1).2) cel gl) (36 + 80 * (j + 1)) (20947 + 4360 * (j + 1)) 801 [(4, .int (nI (6 * j))), (0, .ref b), (1, .ref (ad 0 0 0)), (2, .ref am), (3, .ref cel)] [.int ((S_state σ x1).1), .int ((S_state σ x1).1)]
          refine g_icmp_eq (n := 804) (tgt := 831) hX dL_law_801 rfl (by decide) (fun c801 => ?_) (fun c801 => absurd rfl c801)
          refine g_pick (lv' := [(4, .int (nI (6 * j))), (0, .ref b), (1, .ref (ad 0 0 0)), (2, .ref am), (3, .ref cel)]) [0, 1, 2, 3, 4] rfl ?_
          exact htail L1 f1 ad1 κ1 g1 _ _ hQ1 e1
        · have ho : x0 &&& 15 = (14 : Int32) := sw_val (hkz ▸ hk1) (by decide)
          refine g_iload (n := 25) hX dL_law_23 rfl rfl ?_
          refine g_aload_n (n := 26) hX dL_law_25 rfl rfl rfl ?_
          refine g_sclen (n := 27) hX hSc dL_law_26 rfl ?_
          refine g_bipush (n := 29) (v := 6) hX dL_law_27 rfl rfl ?_
          refine g_isub (n := 30) (v := nI (N - 6)) hX dL_law_29 rfl (pk_sub (a := N) (b := 6) (by omega)) ?_
          refine g_icmp_gt (n := 33) (tgt := 837) hX dL_law_30 rfl (by decide) (fun c30 => absurd c30 (nI_nlt (a := N - 6) (b := 6 * j) (by omega) (by omega))) (fun c30 => ?_)
          refine g_aload_n (n := 34) hX dL_law_33 rfl rfl rfl ?_
          refine g_iload (n := 36) hX dL_law_34 rfl rfl ?_
          refine g_scl (n := 37) (v := x0) hX hSc dL_law_36 rfl (vp_in_nI (show 6 * j < N by omega) (by omega)) (by rw [nI_clamp (by omega)]; exact hx0) ?_
          refine g_bipush (n := 39) (v := 15) hX dL_law_37 rfl rfl ?_
          refine g_iand (n := 40) (v := x0 &&& 15) hX dL_law_39 rfl rfl ?_
          refine g_tableIn (n := 806) (off := 766) hX dL_law_40 (by rw [ho]; decide) (by rw [ho]; decide) (by rw [ho]; rfl) (by decide) ?_
          refine g_aload_n (n := 807) hX dL_law_806 rfl rfl rfl ?_
          refine g_aload_n (n := 808) hX dL_law_807 rfl rfl rfl ?_
          refine g_iload (n := 810) hX dL_law_808 rfl rfl ?_
          refine g_iconst (n := 811) (v := 1) hX dL_law_810 rfl rfl ?_
          refine g_iadd (n := 812) (v := nI (6 * j + 1)) hX dL_law_811 rfl (nI_add (6 * j) (1)) ?_
          refine g_scl (n := 813) (v := x1) hX hSc dL_law_812 rfl (vp_in_nI (show 6 * j + 1 < N by omega) (by omega)) (by rw [nI_clamp (by omega)]; exact hx1) ?_
          refine g_callX (n := 816) (As := [.int x1]) (rest := []) hX hE hU hY dL_law_813 rfl yv_X7_count um_L_100 hQ (F_count _ _ K L f ad κ g σ x1 hQ) ⟨rfl, rfl⟩ ⟨by rw [hRm]; exact Nat.le_of_ble_eq_true rfl, by rw [hRm]; exact Nat.le_of_ble_eq_true rfl⟩ rfl rfl (Nat.le_of_ble_eq_true rfl) ⟨by rw [hRm]; show 36 + 80 * j + 1 ≤ 601024; omega, by rw [hRm]; show 20947 + 4360 * j + 2048 ≤ 7293034; omega⟩ (fun v0 w0 hq0 => ?_)
          obtain ⟨rfl, L1, f1, ad1, κ1, g1, rfl, e1, hQ1⟩ := hq0
          show G Γ (lawW K (va_pl L1 f1) am A σ cel gl) (36 + 80 * j + 1) (20947 + 4360 * j + 2048) 816 [(4, .int (nI (6 * j))), (0, .ref b), (1, .ref (ad 0 0 0)), (2, .ref am), (3, .ref cel)] [.int ((S_count σ x1).1)]
          refine g_widen (kc' := 36 + 80 * (j + 1)) (ks' := 20947 + 4360 * (j + 1)) (by omega) (by omega) ?_
          refine g_aload_n (n := 817) hX dL_law_816 rfl rfl rfl ?_
          refine g_aload_n (n := 818) hX dL_law_817 rfl rfl rfl ?_
          refine g_iload (n := 820) hX dL_law_818 rfl rfl ?_
          refine g_iconst (n := 821) (v := 1) hX dL_law_820 rfl rfl ?_
          refine g_iadd (n := 822) (v := nI (6 * j + 1)) hX dL_law_821 rfl (nI_add (6 * j) (1)) ?_
          refine g_scl (n := 823) (v := x1) hX hSc dL_law_822 rfl (vp_in_nI (show 6 * j + 1 < N by omega) (by omega)) (by rw [nI_clamp (by omega)]; exact hx1) ?_
          refine g_callM (n := 826) (As := [.int x1]) (rest := [.int ((S_count σ x1).1)]) (V := .int ((S_count σ x1).1)) (τ := (S_count σ x1).2) hX hE hU hY dL_law_823 rfl yv_X8_count um_L_103 (m_count _ _ K am A σ x1 hI.1 hI.ops) ⟨rfl, rfl⟩ ⟨by rw [hRm]; exact Nat.le_of_ble_eq_true rfl, by rw [hRm]; exact Nat.le_of_ble_eq_true rfl⟩ rfl rfl (Nat.le_of_ble_eq_true rfl) ⟨by rw [hRm]; show _ ≤ 601024; omega, by rw [hRm]; show _ ≤ 7293034; omega⟩ ?_
          show G Γ (lawW K (va_pl L1 f1) am A ((S_count σ x1).2) cel gl) (36 + 80 * (j + 1)) (20947 + 4360 * (j + 1)) 826 [(4, .int (nI (6 * j))), (0, .ref b), (1, .ref (ad 0 0 0)), (2, .ref am), (3, .ref cel)] [.int ((S_count σ x1).1), .int ((S_count σ x1).1)]
          refine g_icmp_eq (n := 829) (tgt := 831) hX dL_law_826 rfl (by decide) (fun c826 => ?_) (fun c826 => absurd rfl c826)
          refine g_pick (lv' := [(4, .int (nI (6 * j))), (0, .ref b), (1, .ref (ad 0 0 0)), (2, .ref am), (3, .ref cel)]) [0, 1, 2, 3, 4] rfl ?_
          exact htail L1 f1 ad1 κ1 g1 _ _ hQ1 e1
    · by_cases h6 : 6 ≤ N
      · refine g_iload (n := 25) hX dL_law_23 rfl rfl ?_
        refine g_aload_n (n := 26) hX dL_law_25 rfl rfl rfl ?_
        refine g_sclen (n := 27) hX hSc dL_law_26 rfl ?_
        refine g_bipush (n := 29) (v := 6) hX dL_law_27 rfl rfl ?_
        refine g_isub (n := 30) (v := nI (N - 6)) hX dL_law_29 rfl (pk_sub (a := N) (b := 6) h6) ?_
        refine g_icmp_gt (n := 33) (tgt := 837) hX dL_law_30 rfl (by decide) (fun c30 => ?_) (fun c30 => absurd (nI_lt (a := N - 6) (b := 6 * j) (by omega) (by omega)) c30)
        exact hend _ _ _ _ (by omega) (by omega)
      · refine g_iload (n := 25) hX dL_law_23 rfl rfl ?_
        refine g_aload_n (n := 26) hX dL_law_25 rfl rfl rfl ?_
        refine g_sclen (n := 27) hX hSc dL_law_26 rfl ?_
        refine g_bipush (n := 29) (v := 6) hX dL_law_27 rfl rfl ?_
        refine g_isub (n := 30) (v := (nI N) - 6) hX dL_law_29 rfl rfl ?_
        refine g_icmp_gt (n := 33) (tgt := 837) hX dL_law_30 rfl (by decide) (fun c30 => ?_) (fun c30 => absurd (Int32.lt_of_lt_of_le (pk_sneg (a := N) (b := 6) (by decide) (by omega)) (nI_pos' (n := 6 * j) (by omega))) c30)
        exact hend _ _ _ _ (by omega) (by omega)

