/-- what one turn of the loop needs -/
def RI (u : Nat) (σ : MS) : Prop := ∃ d c r p z n s : Nat, σ.2 26 = nI (d + 1) ∧ d ≤ 10 ∧ σ.1 22 d = nI c ∧ c ≤ 40 ∧ σ.1 23 d = nI r ∧ 1 ≤ r ∧ r ≤ 62 ∧ σ.1 6 c = nI u ∧ σ.1 7 c = nI p ∧ 1 ≤ p ∧ p ≤ 12 ∧ σ.1 8 c = nI n ∧ n ≤ 60 ∧ σ.1 0 p = nI z ∧ z ≤ 100 ∧ (r ≤ n → rowV z (prO σ p r).1 (prO σ p r).2.1 (prO σ p r).2.2) ∧ σ.1 18 u = nI s ∧ s ≤ 1000 ∧ rg σ ∧
  (∀ p, 1 ≤ p → p ≤ nF σ 1 → 0 < nA σ 14 (13 * u + p) → σ.1 6 (nA σ 14 (13 * u + p)) = nI u ∧ ∃ pq, σ.1 7 (nA σ 14 (13 * u + p)) = nI pq ∧ 1 ≤ pq ∧ pq ≤ 12)
/-- every state that the loop passes is fit for its turn -/
def RA (u : Nat) (x : Int32 × MS) : Prop := ∀ k : Nat, (itD u 0 k x).1 = 0 → isN ((itD u 0 k x).2.2 26) 11 ∧ (0 < nF (itD u 0 k x).2 26 → RI u (itD u 0 k x).2)
theorem itD_next {u d n : Nat} {x : Int32 × MS} (h : x.1 = 0 ∧ d < nF x.2 26) : itD u d (n + 1) x = itD u d n (S_it u x.2) := if_pos h
theorem itD_stop {u d n : Nat} {x : Int32 × MS} (h : doneD d x) : itD u d n x = x := by
  cases n with
  | zero => rfl
  | succ n => exact if_neg h
theorem RA.next {u : Nat} {x : Int32 × MS} (h : RA u x) (h0 : x.1 = 0 ∧ 0 < nF x.2 26) : RA u (S_it u x.2) := fun k => by
  have := h (k + 1)
  rw [itD_next h0] at this
  exact this
set_option maxHeartbeats 4000000 in
set_option maxRecDepth 100000 in
theorem lp_run {Γ : gT} {K : Nat → ClassId} {am : Nat} {A : Nat → Nat} (hX : gOk Γ cX8_run (wM yX8_run cX8_run 7 (some .int)) RX8) (hE : gEv Γ) (hRm : gRm Γ = rmL 4 0 0) (hnL : gnL Γ = 7) (hY : gY Γ = yY K) (u p0 c0 : Nat) (hu1 : 1 ≤ u) (hu2 : u ≤ 8) : ∀ (k : Nat) (x : Int32 × MS), RA u x → doneD 0 (itD u 0 k x) → G Γ (mW K am A (itD u 0 k x).2) 0 0 245 [(4, .int ((itD u 0 k x).1)), (0, .ref am), (1, .int (nI u)), (2, .int (nI p0)), (3, .int (nI c0))] [] → G Γ (mW K am A x.2) 0 0 101 [(4, .int x.1), (0, .ref am), (1, .int (nI u)), (2, .int (nI p0)), (3, .int (nI c0))] [] := by
  have hU : ∀ w ∈ wU, w ∈ wM yX8_run cX8_run 7 (some .int) := fun w h => wM_in h
  have hstop : ∀ x : Int32 × MS, RA u x → doneD 0 x → G Γ (mW K am A x.2) 0 0 245 [(4, .int x.1), (0, .ref am), (1, .int (nI u)), (2, .int (nI p0)), (3, .int (nI c0))] [] → G Γ (mW K am A x.2) 0 0 101 [(4, .int x.1), (0, .ref am), (1, .int (nI u)), (2, .int (nI p0)), (3, .int (nI c0))] [] := by
    intro x hA hdn hk0
    by_cases h0 : x.1 = 0
    · obtain ⟨nh, hnh, hnh2⟩ := (hA 0 h0).1
      have hnh : x.2.2 26 = nI nh := hnh
      have hz0 : nh = 0 := by
        rcases Nat.eq_zero_or_pos nh with h9 | h9
        · exact h9
        · exact absurd ⟨h0, by rw [nF_of hnh (by omega)]; exact h9⟩ hdn
      have hle : x.2.2 26 ≤ 0 := by rw [hnh, hz0]; decide
      refine g_iload (n := 103) hX dX8_run_101 rfl rfl ?_
      refine g_if_ne (n := 106) (tgt := 245) hX dX8_run_103 rfl (by decide) (fun c103 => absurd h0 c103) (fun c103 => ?_)
      refine g_aload_n (n := 107) hX dX8_run_106 rfl rfl rfl ?_
      refine g_mget (n := 110) 26 (v := .int (x.2.2 26)) hX hU dX8_run_107 rfl uf_X8_122 rfl rfl rfl ?_
      refine g_if_le (n := 113) (tgt := 245) hX dX8_run_110 rfl (by decide) (fun c110 => ?_) (fun c110 => absurd hle c110)
      exact hk0
    · skip
      refine g_iload (n := 103) hX dX8_run_101 rfl rfl ?_
      refine g_if_ne (n := 106) (tgt := 245) hX dX8_run_103 rfl (by decide) (fun c103 => ?_) (fun c103 => absurd c103 h0)
      exact hk0
  intro k
  induction k with
  | zero =>
    intro x hA hdone hk0
    exact hstop x hA hdone hk0
  | succ k ih =>
    intro x hA hdone hk0
    by_cases hgo : x.1 = 0 ∧ 0 < nF x.2 26
    · rw [itD_next hgo] at hdone hk0
      obtain ⟨d, c, r, p, z, n, s, hd, hd2, hc, hc2, hr, hr1, hr2, huc, hpc, hp1, hp2, hn, hn2, hz, hz2, hV, hs, hs2, hg, hlat⟩ := (hA 0 hgo.1).2 hgo.2
      obtain ⟨x1, σ⟩ := x
      have hx1 : x1 = 0 := hgo.1
      subst hx1
      have ed : nF σ 26 - 1 = d := by rw [nF_of (show σ.2 26 = nI (d + 1) from hd) (by omega)]; omega
      have ec : nA σ 22 d = c := nA_of hc (by omega)
      have er : nA σ 23 d = r := nA_of hr (by omega)
      have en : nA σ 8 c = n := nA_of hn (by omega)
      have es : nA σ 18 u = s := nA_of hs (by omega)
      have hd : σ.2 26 = nI (d + 1) := hd
      have hc : σ.1 22 d = nI c := hc
      have hr : σ.1 23 d = nI r := hr
      have hn : σ.1 8 c = nI n := hn
      have hs : σ.1 18 u = nI s := hs
      show G Γ (mW K am A σ) 0 0 101 [(4, .int 0), (0, .ref am), (1, .int (nI u)), (2, .int (nI p0)), (3, .int (nI c0))] []
      by_cases hpop : n < r
      · have hit : S_it u σ = (0, sF σ 26 (nI d)) := by rw [S_it, ed, ec, er, en, if_pos hpop]
        refine g_iload (n := 103) hX dX8_run_101 rfl rfl ?_
        refine g_if_ne (n := 106) (tgt := 245) hX dX8_run_103 rfl (by decide) (fun c103 => absurd rfl c103) (fun c103 => ?_)
        refine g_aload_n (n := 107) hX dX8_run_106 rfl rfl rfl ?_
        refine g_mget (n := 110) 26 (v := .int (nI (d + 1))) hX hU dX8_run_107 rfl uf_X8_122 rfl rfl (congrArg (fun z => some (Value.int z)) hd) ?_
        refine g_if_le (n := 113) (tgt := 245) hX dX8_run_110 rfl (by decide) (fun c110 => absurd c110 (nI_nle (by omega) (by omega))) (fun c110 => ?_)
        refine g_aload_n (n := 114) hX dX8_run_113 rfl rfl rfl ?_
        refine g_mget (n := 117) 26 (v := .int (nI (d + 1))) hX hU dX8_run_114 rfl uf_X8_122 rfl rfl (congrArg (fun z => some (Value.int z)) hd) ?_
        refine g_iconst (n := 118) (v := 1) hX dX8_run_117 rfl rfl ?_
        refine g_isub (n := 119) (v := nI d) hX dX8_run_118 rfl (nI_pred d) ?_
        refine g_istore (lv' := [(5, .int (nI d)), (4, .int 0), (0, .ref am), (1, .int (nI u)), (2, .int (nI p0)), (3, .int (nI c0))]) (n := 121) hX dX8_run_119 rfl (by rw [hnL]; rfl) rfl ?_
        refine g_aload_n (n := 122) hX dX8_run_121 rfl rfl rfl ?_
        refine g_mget (n := 125) 28 (v := .ref (A 23)) hX hU dX8_run_122 rfl uf_X8_81 rfl rfl rfl ?_
        refine g_iload (n := 127) hX dX8_run_125 rfl rfl ?_
        refine g_mild (n := 128) 23 (v := nI r) hX hY dX8_run_127 rfl rfl rfl (vp_in_nI (show d < mN 23 by show d < 12; omega) (by decide)) (by rw [nI_clamp (by omega)]; exact hr) ?_
        refine g_istore (lv' := [(6, .int (nI r)), (5, .int (nI d)), (4, .int 0), (0, .ref am), (1, .int (nI u)), (2, .int (nI p0)), (3, .int (nI c0))]) (n := 130) hX dX8_run_128 rfl (by rw [hnL]; rfl) rfl ?_
        refine g_iload (n := 132) hX dX8_run_130 rfl rfl ?_
        refine g_aload_n (n := 133) hX dX8_run_132 rfl rfl rfl ?_
        refine g_mget (n := 136) 12 (v := .ref (A 8)) hX hU dX8_run_133 rfl uf_X8_35 rfl rfl rfl ?_
        refine g_aload_n (n := 137) hX dX8_run_136 rfl rfl rfl ?_
        refine g_mget (n := 140) 27 (v := .ref (A 22)) hX hU dX8_run_137 rfl uf_X8_78 rfl rfl rfl ?_
        refine g_iload (n := 142) hX dX8_run_140 rfl rfl ?_
        refine g_mild (n := 143) 22 (v := nI c) hX hY dX8_run_142 rfl rfl rfl (vp_in_nI (show d < mN 22 by show d < 12; omega) (by decide)) (by rw [nI_clamp (by omega)]; exact hc) ?_
        refine g_mild (n := 144) 8 (v := nI n) hX hY dX8_run_143 rfl rfl rfl (vp_in_nI (show c < mN 8 by show c < 41; omega) (by decide)) (by rw [nI_clamp (by omega)]; exact hn) ?_
        refine g_icmp_le (n := 147) (tgt := 160) hX dX8_run_144 rfl (by decide) (fun c144 => absurd c144 (nI_ge (a := n) (b := r) (by omega) (by omega))) (fun c144 => ?_)
        refine g_aload_n (n := 148) hX dX8_run_147 rfl rfl rfl ?_
        refine g_dup (n := 149) hX dX8_run_148 rfl rfl ?_
        refine g_mget (n := 152) 26 (v := .int (nI (d + 1))) hX hU dX8_run_149 rfl uf_X8_122 rfl rfl (congrArg (fun z => some (Value.int z)) hd) ?_
        refine g_iconst (n := 153) (v := 1) hX dX8_run_152 rfl rfl ?_
        refine g_isub (n := 154) (v := nI d) hX dX8_run_153 rfl (nI_pred d) ?_
        refine g_mput (n := 157) 26 hX hU dX8_run_154 rfl uf_X8_122 rfl rfl rfl rfl rfl ?_
        refine g_goto (n := 101) hX dX8_run_157 (by decide) ?_
        refine g_pick (lv' := [(4, .int 0), (0, .ref am), (1, .int (nI u)), (2, .int (nI p0)), (3, .int (nI c0))]) [2, 3, 4, 5, 6] rfl ?_
        have hk1 := ih (0, sF σ 26 (nI d)) (by rw [← hit]; exact hA.next hgo) (by rw [← hit]; exact hdone) (by rw [← hit]; exact hk0)
        exact hk1
      · by_cases hs1 : s = 1000
        · have hit : S_it u σ = (7, sA (sA σ 16 u (σ.1 7 c)) 23 d (nI (r + 1))) := by rw [S_it, ed, ec, er, en, es, if_neg hpop, if_pos hs1]
          refine g_iload (n := 103) hX dX8_run_101 rfl rfl ?_
          refine g_if_ne (n := 106) (tgt := 245) hX dX8_run_103 rfl (by decide) (fun c103 => absurd rfl c103) (fun c103 => ?_)
          refine g_aload_n (n := 107) hX dX8_run_106 rfl rfl rfl ?_
          refine g_mget (n := 110) 26 (v := .int (nI (d + 1))) hX hU dX8_run_107 rfl uf_X8_122 rfl rfl (congrArg (fun z => some (Value.int z)) hd) ?_
          refine g_if_le (n := 113) (tgt := 245) hX dX8_run_110 rfl (by decide) (fun c110 => absurd c110 (nI_nle (by omega) (by omega))) (fun c110 => ?_)
          refine g_aload_n (n := 114) hX dX8_run_113 rfl rfl rfl ?_
          refine g_mget (n := 117) 26 (v := .int (nI (d + 1))) hX hU dX8_run_114 rfl uf_X8_122 rfl rfl (congrArg (fun z => some (Value.int z)) hd) ?_
          refine g_iconst (n := 118) (v := 1) hX dX8_run_117 rfl rfl ?_
          refine g_isub (n := 119) (v := nI d) hX dX8_run_118 rfl (nI_pred d) ?_
          refine g_istore (lv' := [(5, .int (nI d)), (4, .int 0), (0, .ref am), (1, .int (nI u)), (2, .int (nI p0)), (3, .int (nI c0))]) (n := 121) hX dX8_run_119 rfl (by rw [hnL]; rfl) rfl ?_
          refine g_aload_n (n := 122) hX dX8_run_121 rfl rfl rfl ?_
          refine g_mget (n := 125) 28 (v := .ref (A 23)) hX hU dX8_run_122 rfl uf_X8_81 rfl rfl rfl ?_
          refine g_iload (n := 127) hX dX8_run_125 rfl rfl ?_
          refine g_mild (n := 128) 23 (v := nI r) hX hY dX8_run_127 rfl rfl rfl (vp_in_nI (show d < mN 23 by show d < 12; omega) (by decide)) (by rw [nI_clamp (by omega)]; exact hr) ?_
          refine g_istore (lv' := [(6, .int (nI r)), (5, .int (nI d)), (4, .int 0), (0, .ref am), (1, .int (nI u)), (2, .int (nI p0)), (3, .int (nI c0))]) (n := 130) hX dX8_run_128 rfl (by rw [hnL]; rfl) rfl ?_
          refine g_iload (n := 132) hX dX8_run_130 rfl rfl ?_
          refine g_aload_n (n := 133) hX dX8_run_132 rfl rfl rfl ?_
          refine g_mget (n := 136) 12 (v := .ref (A 8)) hX hU dX8_run_133 rfl uf_X8_35 rfl rfl rfl ?_
          refine g_aload_n (n := 137) hX dX8_run_136 rfl rfl rfl ?_
          refine g_mget (n := 140) 27 (v := .ref (A 22)) hX hU dX8_run_137 rfl uf_X8_78 rfl rfl rfl ?_
          refine g_iload (n := 142) hX dX8_run_140 rfl rfl ?_
          refine g_mild (n := 143) 22 (v := nI c) hX hY dX8_run_142 rfl rfl rfl (vp_in_nI (show d < mN 22 by show d < 12; omega) (by decide)) (by rw [nI_clamp (by omega)]; exact hc) ?_
          refine g_mild (n := 144) 8 (v := nI n) hX hY dX8_run_143 rfl rfl rfl (vp_in_nI (show c < mN 8 by show c < 41; omega) (by decide)) (by rw [nI_clamp (by omega)]; exact hn) ?_
          refine g_icmp_le (n := 147) (tgt := 160) hX dX8_run_144 rfl (by decide) (fun c144 => ?_) (fun c144 => absurd (nI_le (a := r) (b := n) (by omega) (by omega)) c144)
          refine g_aload_n (n := 161) hX dX8_run_160 rfl rfl rfl ?_
          refine g_mget (n := 164) 20 (v := .ref (A 16)) hX hU dX8_run_161 rfl uf_X8_59 rfl rfl rfl ?_
          refine g_iload_n (n := 165) hX dX8_run_164 rfl rfl rfl ?_
          refine g_aload_n (n := 166) hX dX8_run_165 rfl rfl rfl ?_
          refine g_mget (n := 169) 11 (v := .ref (A 7)) hX hU dX8_run_166 rfl uf_X8_32 rfl rfl rfl ?_
          refine g_aload_n (n := 170) hX dX8_run_169 rfl rfl rfl ?_
          refine g_mget (n := 173) 27 (v := .ref (A 22)) hX hU dX8_run_170 rfl uf_X8_78 rfl rfl rfl ?_
          refine g_iload (n := 175) hX dX8_run_173 rfl rfl ?_
          refine g_mild (n := 176) 22 (v := nI c) hX hY dX8_run_175 rfl rfl rfl (vp_in_nI (show d < mN 22 by show d < 12; omega) (by decide)) (by rw [nI_clamp (by omega)]; exact hc) ?_
          refine g_mild (n := 177) 7 (v := σ.1 7 c) hX hY dX8_run_176 rfl rfl rfl (vp_in_nI (show c < mN 7 by show c < 41; omega) (by decide)) (by rw [nI_clamp (by omega)] <;> rfl) ?_
          refine g_mist (n := 178) 16 (i0 := u) hX hY dX8_run_177 rfl rfl rfl (vp_in_nI (show u < mN 16 by show u < 9; omega) (by decide)) (nI_clamp (by omega)) ?_
          refine g_aload_n (n := 179) hX dX8_run_178 rfl rfl rfl ?_
          refine g_mget (n := 182) 28 (v := .ref (A 23)) hX hU dX8_run_179 rfl uf_X8_81 rfl rfl rfl ?_
          refine g_iload (n := 184) hX dX8_run_182 rfl rfl ?_
          refine g_iload (n := 186) hX dX8_run_184 rfl rfl ?_
          refine g_iconst (n := 187) (v := 1) hX dX8_run_186 rfl rfl ?_
          refine g_iadd (n := 188) (v := nI (r + 1)) hX dX8_run_187 rfl (nI_add (r) (1)) ?_
          refine g_mist (n := 189) 23 (i0 := d) hX hY dX8_run_188 rfl rfl rfl (vp_in_nI (show d < mN 23 by show d < 12; omega) (by decide)) (nI_clamp (by omega)) ?_
          refine g_aload_n (n := 190) hX dX8_run_189 rfl rfl rfl ?_
          refine g_mget (n := 193) 22 (v := .ref (A 18)) hX hU dX8_run_190 rfl uf_X8_65 rfl rfl rfl ?_
          refine g_iload_n (n := 194) hX dX8_run_193 rfl rfl rfl ?_
          refine g_mild (n := 195) 18 (v := nI s) hX hY dX8_run_194 rfl rfl rfl (vp_in_nI (show u < mN 18 by show u < 9; omega) (by decide)) (by rw [nI_clamp (by omega)]; exact hs) ?_
          refine g_sipush (n := 198) (v := 1000) hX dX8_run_195 rfl rfl ?_
          refine g_icmp_ne (n := 201) (tgt := 206) hX dX8_run_198 rfl (by decide) (fun c198 => absurd (by rw [hs1] <;> rfl) c198) (fun c198 => ?_)
          refine g_bipush (n := 203) (v := 7) hX dX8_run_201 rfl rfl ?_
          refine g_goto (n := 207) hX dX8_run_203 (by decide) ?_
          refine g_istore (lv' := [(4, .int 7), (6, .int (nI r)), (5, .int (nI d)), (0, .ref am), (1, .int (nI u)), (2, .int (nI p0)), (3, .int (nI c0))]) (n := 209) hX dX8_run_207 rfl (by rw [hnL]; rfl) rfl ?_
          refine g_iload (n := 211) hX dX8_run_209 rfl rfl ?_
          refine g_if_le (n := 214) (tgt := 217) hX dX8_run_211 rfl (by decide) (fun c211 => absurd c211 (by decide)) (fun c211 => ?_)
          refine g_goto (n := 101) hX dX8_run_214 (by decide) ?_
          refine g_pick (lv' := [(4, .int 7), (0, .ref am), (1, .int (nI u)), (2, .int (nI p0)), (3, .int (nI c0))]) [0, 3, 4, 5, 6] rfl ?_
          have hk1 := ih (7, sA (sA σ 16 u (σ.1 7 c)) 23 d (nI (r + 1))) (by rw [← hit]; exact hA.next hgo) (by rw [← hit]; exact hdone) (by rw [← hit]; exact hk0)
          exact hk1
        · have hit : S_it u σ = S_step (sA (sA (sA σ 16 u (σ.1 7 c)) 23 d (nI (r + 1))) 18 u (nI (s + 1))) c r := by rw [S_it, ed, ec, er, en, es, if_neg hpop, if_neg hs1]
          refine g_iload (n := 103) hX dX8_run_101 rfl rfl ?_
          refine g_if_ne (n := 106) (tgt := 245) hX dX8_run_103 rfl (by decide) (fun c103 => absurd rfl c103) (fun c103 => ?_)
          refine g_aload_n (n := 107) hX dX8_run_106 rfl rfl rfl ?_
          refine g_mget (n := 110) 26 (v := .int (nI (d + 1))) hX hU dX8_run_107 rfl uf_X8_122 rfl rfl (congrArg (fun z => some (Value.int z)) hd) ?_
          refine g_if_le (n := 113) (tgt := 245) hX dX8_run_110 rfl (by decide) (fun c110 => absurd c110 (nI_nle (by omega) (by omega))) (fun c110 => ?_)
          refine g_aload_n (n := 114) hX dX8_run_113 rfl rfl rfl ?_
          refine g_mget (n := 117) 26 (v := .int (nI (d + 1))) hX hU dX8_run_114 rfl uf_X8_122 rfl rfl (congrArg (fun z => some (Value.int z)) hd) ?_
          refine g_iconst (n := 118) (v := 1) hX dX8_run_117 rfl rfl ?_
          refine g_isub (n := 119) (v := nI d) hX dX8_run_118 rfl (nI_pred d) ?_
          refine g_istore (lv' := [(5, .int (nI d)), (4, .int 0), (0, .ref am), (1, .int (nI u)), (2, .int (nI p0)), (3, .int (nI c0))]) (n := 121) hX dX8_run_119 rfl (by rw [hnL]; rfl) rfl ?_
          refine g_aload_n (n := 122) hX dX8_run_121 rfl rfl rfl ?_
          refine g_mget (n := 125) 28 (v := .ref (A 23)) hX hU dX8_run_122 rfl uf_X8_81 rfl rfl rfl ?_
          refine g_iload (n := 127) hX dX8_run_125 rfl rfl ?_
          refine g_mild (n := 128) 23 (v := nI r) hX hY dX8_run_127 rfl rfl rfl (vp_in_nI (show d < mN 23 by show d < 12; omega) (by decide)) (by rw [nI_clamp (by omega)]; exact hr) ?_
          refine g_istore (lv' := [(6, .int (nI r)), (5, .int (nI d)), (4, .int 0), (0, .ref am), (1, .int (nI u)), (2, .int (nI p0)), (3, .int (nI c0))]) (n := 130) hX dX8_run_128 rfl (by rw [hnL]; rfl) rfl ?_
          refine g_iload (n := 132) hX dX8_run_130 rfl rfl ?_
          refine g_aload_n (n := 133) hX dX8_run_132 rfl rfl rfl ?_
          refine g_mget (n := 136) 12 (v := .ref (A 8)) hX hU dX8_run_133 rfl uf_X8_35 rfl rfl rfl ?_
          refine g_aload_n (n := 137) hX dX8_run_136 rfl rfl rfl ?_
          refine g_mget (n := 140) 27 (v := .ref (A 22)) hX hU dX8_run_137 rfl uf_X8_78 rfl rfl rfl ?_
          refine g_iload (n := 142) hX dX8_run_140 rfl rfl ?_
          refine g_mild (n := 143) 22 (v := nI c) hX hY dX8_run_142 rfl rfl rfl (vp_in_nI (show d < mN 22 by show d < 12; omega) (by decide)) (by rw [nI_clamp (by omega)]; exact hc) ?_
          refine g_mild (n := 144) 8 (v := nI n) hX hY dX8_run_143 rfl rfl rfl (vp_in_nI (show c < mN 8 by show c < 41; omega) (by decide)) (by rw [nI_clamp (by omega)]; exact hn) ?_
          refine g_icmp_le (n := 147) (tgt := 160) hX dX8_run_144 rfl (by decide) (fun c144 => ?_) (fun c144 => absurd (nI_le (a := r) (b := n) (by omega) (by omega)) c144)
          refine g_aload_n (n := 161) hX dX8_run_160 rfl rfl rfl ?_
          refine g_mget (n := 164) 20 (v := .ref (A 16)) hX hU dX8_run_161 rfl uf_X8_59 rfl rfl rfl ?_
          refine g_iload_n (n := 165) hX dX8_run_164 rfl rfl rfl ?_
          refine g_aload_n (n := 166) hX dX8_run_165 rfl rfl rfl ?_
          refine g_mget (n := 169) 11 (v := .ref (A 7)) hX hU dX8_run_166 rfl uf_X8_32 rfl rfl rfl ?_
          refine g_aload_n (n := 170) hX dX8_run_169 rfl rfl rfl ?_
          refine g_mget (n := 173) 27 (v := .ref (A 22)) hX hU dX8_run_170 rfl uf_X8_78 rfl rfl rfl ?_
          refine g_iload (n := 175) hX dX8_run_173 rfl rfl ?_
          refine g_mild (n := 176) 22 (v := nI c) hX hY dX8_run_175 rfl rfl rfl (vp_in_nI (show d < mN 22 by show d < 12; omega) (by decide)) (by rw [nI_clamp (by omega)]; exact hc) ?_
          refine g_mild (n := 177) 7 (v := σ.1 7 c) hX hY dX8_run_176 rfl rfl rfl (vp_in_nI (show c < mN 7 by show c < 41; omega) (by decide)) (by rw [nI_clamp (by omega)] <;> rfl) ?_
          refine g_mist (n := 178) 16 (i0 := u) hX hY dX8_run_177 rfl rfl rfl (vp_in_nI (show u < mN 16 by show u < 9; omega) (by decide)) (nI_clamp (by omega)) ?_
          refine g_aload_n (n := 179) hX dX8_run_178 rfl rfl rfl ?_
          refine g_mget (n := 182) 28 (v := .ref (A 23)) hX hU dX8_run_179 rfl uf_X8_81 rfl rfl rfl ?_
          refine g_iload (n := 184) hX dX8_run_182 rfl rfl ?_
          refine g_iload (n := 186) hX dX8_run_184 rfl rfl ?_
          refine g_iconst (n := 187) (v := 1) hX dX8_run_186 rfl rfl ?_
          refine g_iadd (n := 188) (v := nI (r + 1)) hX dX8_run_187 rfl (nI_add (r) (1)) ?_
          refine g_mist (n := 189) 23 (i0 := d) hX hY dX8_run_188 rfl rfl rfl (vp_in_nI (show d < mN 23 by show d < 12; omega) (by decide)) (nI_clamp (by omega)) ?_
          refine g_aload_n (n := 190) hX dX8_run_189 rfl rfl rfl ?_
          refine g_mget (n := 193) 22 (v := .ref (A 18)) hX hU dX8_run_190 rfl uf_X8_65 rfl rfl rfl ?_
          refine g_iload_n (n := 194) hX dX8_run_193 rfl rfl rfl ?_
          refine g_mild (n := 195) 18 (v := nI s) hX hY dX8_run_194 rfl rfl rfl (vp_in_nI (show u < mN 18 by show u < 9; omega) (by decide)) (by rw [nI_clamp (by omega)]; exact hs) ?_
          refine g_sipush (n := 198) (v := 1000) hX dX8_run_195 rfl rfl ?_
          refine g_icmp_ne (n := 201) (tgt := 206) hX dX8_run_198 rfl (by decide) (fun c198 => ?_) (fun c198 => absurd c198 (fun h9 => hs1 ((nI_eq (by omega) (by decide)).mp (h9 : nI s = nI 1000))))
          refine g_iconst (n := 207) (v := 0) hX dX8_run_206 rfl rfl ?_
          refine g_istore (lv' := [(4, .int 0), (6, .int (nI r)), (5, .int (nI d)), (0, .ref am), (1, .int (nI u)), (2, .int (nI p0)), (3, .int (nI c0))]) (n := 209) hX dX8_run_207 rfl (by rw [hnL]; rfl) rfl ?_
          refine g_iload (n := 211) hX dX8_run_209 rfl rfl ?_
          refine g_if_le (n := 214) (tgt := 217) hX dX8_run_211 rfl (by decide) (fun c211 => ?_) (fun c211 => absurd (by decide) c211)
          refine g_aload_n (n := 218) hX dX8_run_217 rfl rfl rfl ?_
          refine g_mget (n := 221) 22 (v := .ref (A 18)) hX hU dX8_run_218 rfl uf_X8_65 rfl rfl rfl ?_
          refine g_iload_n (n := 222) hX dX8_run_221 rfl rfl rfl ?_
          refine g_dup2 (n := 223) hX dX8_run_222 rfl rfl rfl ?_
          refine g_mild (n := 224) 18 (v := nI s) hX hY dX8_run_223 rfl rfl rfl (vp_in_nI (show u < mN 18 by show u < 9; omega) (by decide)) (by rw [nI_clamp (by omega)]; exact hs) ?_
          refine g_iconst (n := 225) (v := 1) hX dX8_run_224 rfl rfl ?_
          refine g_iadd (n := 226) (v := nI (s + 1)) hX dX8_run_225 rfl (nI_add (s) (1)) ?_
          refine g_mist (n := 227) 18 (i0 := u) hX hY dX8_run_226 rfl rfl rfl (vp_in_nI (show u < mN 18 by show u < 9; omega) (by decide)) (nI_clamp (by omega)) ?_
          refine g_aload_n (n := 228) hX dX8_run_227 rfl rfl rfl ?_
          refine g_aload_n (n := 229) hX dX8_run_228 rfl rfl rfl ?_
          refine g_mget (n := 232) 27 (v := .ref (A 22)) hX hU dX8_run_229 rfl uf_X8_78 rfl rfl rfl ?_
          refine g_iload (n := 234) hX dX8_run_232 rfl rfl ?_
          refine g_mild (n := 235) 22 (v := nI c) hX hY dX8_run_234 rfl rfl rfl (vp_in_nI (show d < mN 22 by show d < 12; omega) (by decide)) (by rw [nI_clamp (by omega)]; exact hc) ?_
          refine g_iload (n := 237) hX dX8_run_235 rfl rfl ?_
          refine g_callV0 (n := 240) (As := [.int (nI c), .int (nI r)]) (rest := []) hX hE hU hY dX8_run_237 rfl yv_X8_step um_X8_132 (m_step _ _ K am A (sA (sA (sA σ 16 u (σ.1 7 c)) 23 d (nI (r + 1))) 18 u (nI (s + 1))) c r u p z (d + 1) hc2 huc hu1 hu2 hpc hp1 hp2 hd hr1 (by omega) hz hz2 (hV (by omega)) (by omega) (by omega) hg hlat) ⟨rfl, rfl⟩ (rm_le hRm rfl rfl) rfl (ci := 10) (q0 := 0) rfl rfl rfl rfl (Nat.le_of_ble_eq_true rfl) ⟨Nat.zero_le _, Nat.zero_le _⟩ (fun v0 w0 hq0 => ?_)
          obtain ⟨rfl, rfl⟩ := hq0
          show G Γ (mW K am A ((S_step (sA (sA (sA σ 16 u (σ.1 7 c)) 23 d (nI (r + 1))) 18 u (nI (s + 1))) c r).2)) 0 0 240 [(4, .int 0), (6, .int (nI r)), (5, .int (nI d)), (0, .ref am), (1, .int (nI u)), (2, .int (nI p0)), (3, .int (nI c0))] [.int ((S_step (sA (sA (sA σ 16 u (σ.1 7 c)) 23 d (nI (r + 1))) 18 u (nI (s + 1))) c r).1)]
          refine g_istore (lv' := [(4, .int ((S_step (sA (sA (sA σ 16 u (σ.1 7 c)) 23 d (nI (r + 1))) 18 u (nI (s + 1))) c r).1)), (6, .int (nI r)), (5, .int (nI d)), (0, .ref am), (1, .int (nI u)), (2, .int (nI p0)), (3, .int (nI c0))]) (n := 242) hX dX8_run_240 rfl (by rw [hnL]; rfl) rfl ?_
          refine g_goto (n := 101) hX dX8_run_242 (by decide) ?_
          refine g_pick (lv' := [(4, .int ((S_step (sA (sA (sA σ 16 u (σ.1 7 c)) 23 d (nI (r + 1))) 18 u (nI (s + 1))) c r).1)), (0, .ref am), (1, .int (nI u)), (2, .int (nI p0)), (3, .int (nI c0))]) [0, 3, 4, 5, 6] rfl ?_
          have hk1 := ih ((S_step (sA (sA (sA σ 16 u (σ.1 7 c)) 23 d (nI (r + 1))) 18 u (nI (s + 1))) c r).1, (S_step (sA (sA (sA σ 16 u (σ.1 7 c)) 23 d (nI (r + 1))) 18 u (nI (s + 1))) c r).2) (by rw [← hit]; exact hA.next hgo) (by rw [← hit]; exact hdone) (by rw [← hit]; exact hk0)
          exact hk1
    · rw [itD_stop (show doneD 0 x from hgo)] at hk0
      exact hstop x hA hgo hk0
set_option maxHeartbeats 4000000 in
set_option maxRecDepth 100000 in
theorem tl_run {Γ : gT} {K : Nat → ClassId} {am : Nat} {A : Nat → Nat} (hX : gOk Γ cX8_run (wM yX8_run cX8_run 7 (some .int)) RX8) (hE : gEv Γ) (hRm : gRm Γ = rmL 4 0 0) (hnL : gnL Γ = 7) (hY : gY Γ = yY K) {post : Option Value → va_W → Prop} (u p0 c0 : Nat) (hu2 : u ≤ 8) (x : Int32 × MS) (hend : x.1 = 5 → ∃ d c : Nat, x.2.2 26 = nI (d + 1) ∧ d ≤ 11 ∧ x.2.1 22 d = nI c ∧ c ≤ 40) (hR : gRet Γ (some .int) post 0 0) (hpost : ∀ v w, (v = some (.int (runEnd u x).1) ∧ w = mW K am A (runEnd u x).2) → post v w) : G Γ (mW K am A x.2) 0 0 245 [(4, .int x.1), (0, .ref am), (1, .int (nI u)), (2, .int (nI p0)), (3, .int (nI c0))] [] := by
  have hU : ∀ w ∈ wU, w ∈ wM yX8_run cX8_run 7 (some .int) := fun w h => wM_in h
  by_cases h5 : x.1 = 5
  · have h0 : ¬ x.1 = 0 := by rw [h5]; decide
    have h99 : ¬ x.1 = 99 := by rw [h5]; decide
    obtain ⟨d, c, hd, hd2, hc, hc2⟩ := hend h5
    refine g_iload (n := 247) hX dX8_run_245 rfl rfl ?_
    refine g_iconst (n := 248) (v := 5) hX dX8_run_247 rfl rfl ?_
    refine g_icmp_ne (n := 251) (tgt := 273) hX dX8_run_248 rfl (by decide) (fun c248 => absurd h5 c248) (fun c248 => ?_)
    refine g_aload_n (n := 252) hX dX8_run_251 rfl rfl rfl ?_
    refine g_mget (n := 255) 20 (v := .ref (A 16)) hX hU dX8_run_252 rfl uf_X8_59 rfl rfl rfl ?_
    refine g_iload_n (n := 256) hX dX8_run_255 rfl rfl rfl ?_
    refine g_aload_n (n := 257) hX dX8_run_256 rfl rfl rfl ?_
    refine g_mget (n := 260) 11 (v := .ref (A 7)) hX hU dX8_run_257 rfl uf_X8_32 rfl rfl rfl ?_
    refine g_aload_n (n := 261) hX dX8_run_260 rfl rfl rfl ?_
    refine g_mget (n := 264) 27 (v := .ref (A 22)) hX hU dX8_run_261 rfl uf_X8_78 rfl rfl rfl ?_
    refine g_aload_n (n := 265) hX dX8_run_264 rfl rfl rfl ?_
    refine g_mget (n := 268) 26 (v := .int (nI (d + 1))) hX hU dX8_run_265 rfl uf_X8_122 rfl rfl (congrArg (fun z => some (Value.int z)) hd) ?_
    refine g_iconst (n := 269) (v := 1) hX dX8_run_268 rfl rfl ?_
    refine g_isub (n := 270) (v := nI d) hX dX8_run_269 rfl (nI_pred d) ?_
    refine g_mild (n := 271) 22 (v := nI c) hX hY dX8_run_270 rfl rfl rfl (vp_in_nI (show d < mN 22 by show d < 12; omega) (by decide)) (by rw [nI_clamp (by omega)]; exact hc) ?_
    refine g_mild (n := 272) 7 (v := x.2.1 7 c) hX hY dX8_run_271 rfl rfl rfl (vp_in_nI (show c < mN 7 by show c < 41; omega) (by decide)) (by rw [nI_clamp (by omega)] <;> rfl) ?_
    refine g_mist (n := 273) 16 (i0 := u) hX hY dX8_run_272 rfl rfl rfl (vp_in_nI (show u < mN 16 by show u < 9; omega) (by decide)) (nI_clamp (by omega)) ?_
    refine g_iload (n := 275) hX dX8_run_273 rfl rfl ?_
    refine g_if_ne (n := 278) (tgt := 285) hX dX8_run_275 rfl (by decide) (fun c275 => ?_) (fun c275 => absurd c275 h0)
    refine g_aload_n (n := 286) hX dX8_run_285 rfl rfl rfl ?_
    refine g_mget (n := 289) 19 (v := .ref (A 15)) hX hU dX8_run_286 rfl uf_X8_56 rfl rfl rfl ?_
    refine g_iload_n (n := 290) hX dX8_run_289 rfl rfl rfl ?_
    refine g_iload (n := 292) hX dX8_run_290 rfl rfl ?_
    refine g_bipush (n := 294) (v := 99) hX dX8_run_292 rfl rfl ?_
    refine g_icmp_ne (n := 297) (tgt := 301) hX dX8_run_294 rfl (by decide) (fun c294 => ?_) (fun c294 => absurd c294 h99)
    refine g_iload (n := 303) hX dX8_run_301 rfl rfl ?_
    refine g_mist (n := 304) 15 (i0 := u) hX hY dX8_run_303 rfl rfl rfl (vp_in_nI (show u < mN 15 by show u < 9; omega) (by decide)) (nI_clamp (by omega)) ?_
    refine g_iload (n := 306) hX dX8_run_304 rfl rfl ?_
    refine g_if_eq (n := 309) (tgt := 316) hX dX8_run_306 rfl (by decide) (fun c306 => absurd c306 h0) (fun c306 => ?_)
    refine g_iload (n := 311) hX dX8_run_309 rfl rfl ?_
    refine g_bipush (n := 313) (v := 99) hX dX8_run_311 rfl rfl ?_
    refine g_icmp_ne (n := 316) (tgt := 320) hX dX8_run_313 rfl (by decide) (fun c313 => ?_) (fun c313 => absurd c313 h99)
    refine g_iconst (n := 321) (v := 2) hX dX8_run_320 rfl rfl ?_
    exact g_iret hX hR dX8_run_321 (by apply hpost; unfold runEnd; rw [show nF x.2 26 - 1 = d by rw [nF_of hd (by omega)]; omega, show nA x.2 22 d = c from nA_of hc (by omega)]; rw [if_neg h0, if_neg h99, if_pos h5, if_neg h99]; exact ⟨rfl, rfl⟩)
  · by_cases h0 : x.1 = 0
    · have h99 : ¬ x.1 = 99 := by rw [h0]; decide
      refine g_iload (n := 247) hX dX8_run_245 rfl rfl ?_
      refine g_iconst (n := 248) (v := 5) hX dX8_run_247 rfl rfl ?_
      refine g_icmp_ne (n := 251) (tgt := 273) hX dX8_run_248 rfl (by decide) (fun c248 => ?_) (fun c248 => absurd c248 h5)
      refine g_iload (n := 275) hX dX8_run_273 rfl rfl ?_
      refine g_if_ne (n := 278) (tgt := 285) hX dX8_run_275 rfl (by decide) (fun c275 => absurd h0 c275) (fun c275 => ?_)
      refine g_aload_n (n := 279) hX dX8_run_278 rfl rfl rfl ?_
      refine g_mget (n := 282) 20 (v := .ref (A 16)) hX hU dX8_run_279 rfl uf_X8_59 rfl rfl rfl ?_
      refine g_iload_n (n := 283) hX dX8_run_282 rfl rfl rfl ?_
      refine g_iconst (n := 284) (v := (-1)) hX dX8_run_283 rfl rfl ?_
      refine g_mist (n := 285) 16 (i0 := u) hX hY dX8_run_284 rfl rfl rfl (vp_in_nI (show u < mN 16 by show u < 9; omega) (by decide)) (nI_clamp (by omega)) ?_
      refine g_aload_n (n := 286) hX dX8_run_285 rfl rfl rfl ?_
      refine g_mget (n := 289) 19 (v := .ref (A 15)) hX hU dX8_run_286 rfl uf_X8_56 rfl rfl rfl ?_
      refine g_iload_n (n := 290) hX dX8_run_289 rfl rfl rfl ?_
      refine g_iload (n := 292) hX dX8_run_290 rfl rfl ?_
      refine g_bipush (n := 294) (v := 99) hX dX8_run_292 rfl rfl ?_
      refine g_icmp_ne (n := 297) (tgt := 301) hX dX8_run_294 rfl (by decide) (fun c294 => ?_) (fun c294 => absurd c294 h99)
      refine g_iload (n := 303) hX dX8_run_301 rfl rfl ?_
      refine g_mist (n := 304) 15 (i0 := u) hX hY dX8_run_303 rfl rfl rfl (vp_in_nI (show u < mN 15 by show u < 9; omega) (by decide)) (nI_clamp (by omega)) ?_
      refine g_iload (n := 306) hX dX8_run_304 rfl rfl ?_
      refine g_if_eq (n := 309) (tgt := 316) hX dX8_run_306 rfl (by decide) (fun c306 => ?_) (fun c306 => absurd h0 c306)
      refine g_iconst (n := 317) (v := 1) hX dX8_run_316 rfl rfl ?_
      refine g_goto (n := 321) hX dX8_run_317 (by decide) ?_
      exact g_iret hX hR dX8_run_321 (by apply hpost; unfold runEnd; rw [if_pos h0, if_neg h5, if_pos h0, if_neg h99]; exact ⟨rfl, rfl⟩)
    · by_cases h99 : x.1 = 99
      · skip
        refine g_iload (n := 247) hX dX8_run_245 rfl rfl ?_
        refine g_iconst (n := 248) (v := 5) hX dX8_run_247 rfl rfl ?_
        refine g_icmp_ne (n := 251) (tgt := 273) hX dX8_run_248 rfl (by decide) (fun c248 => ?_) (fun c248 => absurd c248 h5)
        refine g_iload (n := 275) hX dX8_run_273 rfl rfl ?_
        refine g_if_ne (n := 278) (tgt := 285) hX dX8_run_275 rfl (by decide) (fun c275 => ?_) (fun c275 => absurd c275 h0)
        refine g_aload_n (n := 286) hX dX8_run_285 rfl rfl rfl ?_
        refine g_mget (n := 289) 19 (v := .ref (A 15)) hX hU dX8_run_286 rfl uf_X8_56 rfl rfl rfl ?_
        refine g_iload_n (n := 290) hX dX8_run_289 rfl rfl rfl ?_
        refine g_iload (n := 292) hX dX8_run_290 rfl rfl ?_
        refine g_bipush (n := 294) (v := 99) hX dX8_run_292 rfl rfl ?_
        refine g_icmp_ne (n := 297) (tgt := 301) hX dX8_run_294 rfl (by decide) (fun c294 => absurd h99 c294) (fun c294 => ?_)
        refine g_iconst (n := 298) (v := 0) hX dX8_run_297 rfl rfl ?_
        refine g_goto (n := 303) hX dX8_run_298 (by decide) ?_
        refine g_mist (n := 304) 15 (i0 := u) hX hY dX8_run_303 rfl rfl rfl (vp_in_nI (show u < mN 15 by show u < 9; omega) (by decide)) (nI_clamp (by omega)) ?_
        refine g_iload (n := 306) hX dX8_run_304 rfl rfl ?_
        refine g_if_eq (n := 309) (tgt := 316) hX dX8_run_306 rfl (by decide) (fun c306 => absurd c306 h0) (fun c306 => ?_)
        refine g_iload (n := 311) hX dX8_run_309 rfl rfl ?_
        refine g_bipush (n := 313) (v := 99) hX dX8_run_311 rfl rfl ?_
        refine g_icmp_ne (n := 316) (tgt := 320) hX dX8_run_313 rfl (by decide) (fun c313 => absurd h99 c313) (fun c313 => ?_)
        refine g_iconst (n := 317) (v := 1) hX dX8_run_316 rfl rfl ?_
        refine g_goto (n := 321) hX dX8_run_317 (by decide) ?_
        exact g_iret hX hR dX8_run_321 (by apply hpost; unfold runEnd; rw [if_neg h0, if_pos h99, if_neg h5, if_neg h0, if_pos h99]; exact ⟨rfl, rfl⟩)
      · skip
        refine g_iload (n := 247) hX dX8_run_245 rfl rfl ?_
        refine g_iconst (n := 248) (v := 5) hX dX8_run_247 rfl rfl ?_
        refine g_icmp_ne (n := 251) (tgt := 273) hX dX8_run_248 rfl (by decide) (fun c248 => ?_) (fun c248 => absurd c248 h5)
        refine g_iload (n := 275) hX dX8_run_273 rfl rfl ?_
        refine g_if_ne (n := 278) (tgt := 285) hX dX8_run_275 rfl (by decide) (fun c275 => ?_) (fun c275 => absurd c275 h0)
        refine g_aload_n (n := 286) hX dX8_run_285 rfl rfl rfl ?_
        refine g_mget (n := 289) 19 (v := .ref (A 15)) hX hU dX8_run_286 rfl uf_X8_56 rfl rfl rfl ?_
        refine g_iload_n (n := 290) hX dX8_run_289 rfl rfl rfl ?_
        refine g_iload (n := 292) hX dX8_run_290 rfl rfl ?_
        refine g_bipush (n := 294) (v := 99) hX dX8_run_292 rfl rfl ?_
        refine g_icmp_ne (n := 297) (tgt := 301) hX dX8_run_294 rfl (by decide) (fun c294 => ?_) (fun c294 => absurd c294 h99)
        refine g_iload (n := 303) hX dX8_run_301 rfl rfl ?_
        refine g_mist (n := 304) 15 (i0 := u) hX hY dX8_run_303 rfl rfl rfl (vp_in_nI (show u < mN 15 by show u < 9; omega) (by decide)) (nI_clamp (by omega)) ?_
        refine g_iload (n := 306) hX dX8_run_304 rfl rfl ?_
        refine g_if_eq (n := 309) (tgt := 316) hX dX8_run_306 rfl (by decide) (fun c306 => absurd c306 h0) (fun c306 => ?_)
        refine g_iload (n := 311) hX dX8_run_309 rfl rfl ?_
        refine g_bipush (n := 313) (v := 99) hX dX8_run_311 rfl rfl ?_
        refine g_icmp_ne (n := 316) (tgt := 320) hX dX8_run_313 rfl (by decide) (fun c313 => ?_) (fun c313 => absurd c313 h99)
        refine g_iconst (n := 321) (v := 2) hX dX8_run_320 rfl rfl ?_
        exact g_iret hX hR dX8_run_321 (by apply hpost; unfold runEnd; rw [if_neg h0, if_neg h99, if_neg h5, if_neg h0, if_neg h99]; exact ⟨rfl, rfl⟩)
