theorem up_same {α : Type} (f : Nat → α) (a : Nat) {e : α} (h : f a = e) : va_up f a e = f := by
  funext b
  by_cases hb : b = a
  · rw [hb, va_up_self, h]
  · exact va_up_ne _ _ hb
def vB (g : Nat → Int32) (z : Nat) (i : Int32) : Int32 := if 0 ≤ i ∧ i < nI z then g i.toNatClampNeg else 0
def stB (g : Nat → Int32) (z : Nat) (i v : Int32) : Int32 × (Nat → Int32) := if 0 ≤ i ∧ i < nI z then (0, upd g i.toNatClampNeg v.toInt8.toInt32) else (2, g)
/-- what a row that only works on the bytes does -/
def wkF (g : Nat → Int32) (z : Nat) (o a b : Int32) : Int32 × (Nat → Int32) :=
  if o = 0 then stB g z a b
  else if o = 1 then stB g z a (vB g z b)
  else if o = 2 then stB g z a (vB g z a + vB g z b)
  else if o = 3 then stB g z a (vB g z a - vB g z b)
  else if o = 4 then stB g z a (vB g z a * vB g z b)
  else if o = 5 then if vB g z b = 0 then (1, g) else stB g z a (vB g z a / vB g z b)
  else if o = 6 then if vB g z b = 0 then (1, g) else stB g z a (vB g z a - vB g z a / vB g z b * vB g z b)
  else if o = 7 then stB g z (vB g z a) (vB g z b)
  else if o = 13 then if vB g z a ≤ b then (0, g) else (4, g)
  else (0, g)
theorem x_setB (l : Launch) (D : va_G) (K : Nat → ClassId) (L : List Nat) (f : Nat → va_E) (i x : Int32) (o z : Nat) (g : Nat → Int32) (mh mp mw : Nat) (mf : Option Nat) (m0 m3 m6 m7 m8 : Int32) (hoL : o ∈ L) (hof : f o = .inr (4, [.int m0, .ref mh, .ref mp, .int m3, .ref mw, va_rf (mf), .int m6, .int m7, .int m8])) (haL : mw ∈ L) (haf : f mw = .inl (K 0, z, .inl g)) (hz2 : z ≤ 100) : Mc l yX2_setByte (wM yX2_setByte cX2_setByte 3 (some .int)) (rmL 1 0 0) D (yY K) [.ref o, .int i, .int x] (va_pl L f) (fun v w => v = some (.int (stB g z i x).1) ∧ ∃ f1 : Nat → va_E, w = va_pl L f1 ∧ f1 = va_up f mw (.inl (K 0, z, .inl (stB g z i x).2))) 0 0 := by
  have h := x_setByte l D K L f i x o z g mh mp mw mf m0 m3 m6 m7 m8 hoL hof haL haf hz2
  have e : ∀ (v : Option Value) (w : va_W), (v = some (.int (if 0 ≤ i ∧ i < nI z then 0 else 2)) ∧ ∃ f1 : Nat → va_E, w = va_pl L f1 ∧ f1 = (if 0 ≤ i ∧ i < nI z then va_up f mw (.inl (K 0, z, .inl (upd g i.toNatClampNeg x.toInt8.toInt32))) else f)) = (v = some (.int (stB g z i x).1) ∧ ∃ f1 : Nat → va_E, w = va_pl L f1 ∧ f1 = va_up f mw (.inl (K 0, z, .inl (stB g z i x).2))) := by
    intro v w
    unfold stB
    by_cases hin : 0 ≤ i ∧ i < nI z
    · rw [if_pos hin, if_pos hin, if_pos hin]
    · rw [if_neg hin, if_neg hin, if_neg hin, up_same f mw haf]
  have e2 : (fun (v : Option Value) (w : va_W) => v = some (.int (if 0 ≤ i ∧ i < nI z then 0 else 2)) ∧ ∃ f1 : Nat → va_E, w = va_pl L f1 ∧ f1 = (if 0 ≤ i ∧ i < nI z then va_up f mw (.inl (K 0, z, .inl (upd g i.toNatClampNeg x.toInt8.toInt32))) else f)) = (fun v w => v = some (.int (stB g z i x).1) ∧ ∃ f1 : Nat → va_E, w = va_pl L f1 ∧ f1 = va_up f mw (.inl (K 0, z, .inl (stB g z i x).2))) := by
    funext v w
    exact e v w
  rw [← e2]
  exact h
set_option maxHeartbeats 4000000 in
set_option maxRecDepth 100000 in
theorem x_work (l : Launch) (D : va_G) (K : Nat → ClassId) (L : List Nat) (f : Nat → va_E) (x a b : Int32) (o z rw : Nat) (g : Nat → Int32) (mh mp mw : Nat) (mf : Option Nat) (m0 m3 m6 m7 m8 : Int32) (hoL : o ∈ L) (hof : f o = .inr (4, [.int m0, .ref mh, .ref mp, .int m3, .ref mw, va_rf (mf), .int m6, .int m7, .int m8])) (haL : mw ∈ L) (haf : f mw = .inl (K 0, z, .inl g)) (hrL : rw ∈ L) (hrf : f rw = .inr (6, [.int x, .int a, .int b])) (hz2 : z ≤ 100) : Mc l yX2_work (wM yX2_work cX2_work 4 (some .int)) (rmL 2 0 0) D (yY K) [.ref o, .ref rw] (va_pl L f) (fun v w => v = some (.int (wkF g z x a b).1) ∧ ∃ f1 : Nat → va_E, w = va_pl L f1 ∧ f1 = va_up f mw (.inl (K 0, z, .inl (wkF g z x a b).2))) 0 0 := by
  refine m_start (lv := [(0, .ref o), (1, .ref rw)]) rfl (Nat.le_of_ble_eq_true rfl) rfl (fun Γ hX hRm hnL hY hDD hLa hR hI hE => ?_)
  have hU : ∀ w ∈ wU, w ∈ wM yX2_work cX2_work 4 (some .int) := fun w h => wM_in h
  subst hLa
  subst hDD
  refine g_aload_n (n := 1) hX dX2_work_0 rfl rfl rfl ?_
  refine g_aload_n (n := 2) hX dX2_work_1 rfl rfl rfl ?_
  refine g_pget (n := 5) ux_X4 rfl hX hU dX2_work_2 rfl hrL hrf 1 rfl uf_X2_60 rfl ?_
  refine g_pcallV (n := 8) (As := [.int a]) (rest := []) hX hE hU hY dX2_work_5 rfl yv_X2_valueOf um_X2_65 (x_valueOf _ _ K L f a o z g mh mp mw mf m0 m3 m6 m7 m8 hoL hof haL haf hz2) ⟨rfl, rfl⟩ (rm_le hRm rfl rfl) rfl hoL hof rfl rfl rfl (Nat.le_of_ble_eq_true rfl) ⟨Nat.zero_le _, Nat.zero_le _⟩ (fun v0 w0 hq0 => ?_)
  obtain ⟨rfl, rfl⟩ := hq0
  show G Γ (va_pl L f) 0 0 8 [(0, .ref o), (1, .ref rw)] [.int (vB g z a)]
  refine g_istore_n (lv' := [(2, .int (vB g z a)), (0, .ref o), (1, .ref rw)]) (n := 9) hX dX2_work_8 rfl rfl (by rw [hnL]; rfl) rfl ?_
  refine g_aload_n (n := 10) hX dX2_work_9 rfl rfl rfl ?_
  refine g_aload_n (n := 11) hX dX2_work_10 rfl rfl rfl ?_
  refine g_pget (n := 14) ux_X4 rfl hX hU dX2_work_11 rfl hrL hrf 2 rfl uf_X2_69 rfl ?_
  refine g_pcallV (n := 17) (As := [.int b]) (rest := []) hX hE hU hY dX2_work_14 rfl yv_X2_valueOf um_X2_65 (x_valueOf _ _ K L f b o z g mh mp mw mf m0 m3 m6 m7 m8 hoL hof haL haf hz2) ⟨rfl, rfl⟩ (rm_le hRm rfl rfl) rfl hoL hof rfl rfl rfl (Nat.le_of_ble_eq_true rfl) ⟨Nat.zero_le _, Nat.zero_le _⟩ (fun v0 w0 hq0 => ?_)
  obtain ⟨rfl, rfl⟩ := hq0
  show G Γ (va_pl L f) 0 0 17 [(2, .int (vB g z a)), (0, .ref o), (1, .ref rw)] [.int (vB g z b)]
  refine g_istore_n (lv' := [(3, .int (vB g z b)), (2, .int (vB g z a)), (0, .ref o), (1, .ref rw)]) (n := 18) hX dX2_work_17 rfl rfl (by rw [hnL]; rfl) rfl ?_
  refine g_aload_n (n := 19) hX dX2_work_18 rfl rfl rfl ?_
  refine g_pget (n := 22) ux_X4 rfl hX hU dX2_work_19 rfl hrL hrf 0 rfl uf_X2_72 rfl ?_
  rcases sw_split x (0) (13) with hsw | hsw
  · refine g_tableOut (n := 212) hX dX2_work_22 hsw (by decide) ?_
    have hno : ∀ q : Int32, (0 ≤ q.toInt ∧ q.toInt ≤ 13) → ¬ x = q := fun q hq h9 => by rw [h9] at hsw; omega
    refine g_iconst (n := 213) (v := 0) hX dX2_work_212 rfl rfl ?_
    exact g_iret hX hR dX2_work_213 (by rw [wkF, if_neg (hno _ (by decide)), if_neg (hno _ (by decide)), if_neg (hno _ (by decide)), if_neg (hno _ (by decide)), if_neg (hno _ (by decide)), if_neg (hno _ (by decide)), if_neg (hno _ (by decide)), if_neg (hno _ (by decide)), if_neg (hno _ (by decide))]; exact ⟨rfl, f, rfl, (up_same f mw haf).symm⟩)
  · obtain ⟨kz, hk1, hk2⟩ := hsw
    rcases (show kz = (0 : Int) ∨ kz = (1 : Int) ∨ kz = (2 : Int) ∨ kz = (3 : Int) ∨ kz = (4 : Int) ∨ kz = (5 : Int) ∨ kz = (6 : Int) ∨ kz = (7 : Int) ∨ kz = (8 : Int) ∨ kz = (9 : Int) ∨ kz = (10 : Int) ∨ kz = (11 : Int) ∨ kz = (12 : Int) ∨ kz = (13 : Int) by omega) with hkz | hkz | hkz | hkz | hkz | hkz | hkz | hkz | hkz | hkz | hkz | hkz | hkz | hkz
    · have hxe : x = (0 : Int32) := sw_val (hkz ▸ hk1) (by decide)
      refine g_tableIn (n := 92) (off := 70) hX dX2_work_22 (by rw [hxe]; decide) (by rw [hxe]; decide) (by rw [hxe]; rfl) (by decide) ?_
      refine g_aload_n (n := 93) hX dX2_work_92 rfl rfl rfl ?_
      refine g_aload_n (n := 94) hX dX2_work_93 rfl rfl rfl ?_
      refine g_pget (n := 97) ux_X4 rfl hX hU dX2_work_94 rfl hrL hrf 1 rfl uf_X2_60 rfl ?_
      refine g_aload_n (n := 98) hX dX2_work_97 rfl rfl rfl ?_
      refine g_pget (n := 101) ux_X4 rfl hX hU dX2_work_98 rfl hrL hrf 2 rfl uf_X2_69 rfl ?_
      refine g_pcallV (n := 104) (As := [.int a, .int b]) (rest := []) hX hE hU hY dX2_work_101 rfl yv_X2_setByte um_X2_75 (x_setB _ _ K L f a b o z g mh mp mw mf m0 m3 m6 m7 m8 hoL hof haL haf hz2) ⟨rfl, rfl⟩ (rm_le hRm rfl rfl) rfl hoL hof rfl rfl rfl (Nat.le_of_ble_eq_true rfl) ⟨Nat.zero_le _, Nat.zero_le _⟩ (fun v0 w0 hq0 => ?_)
      obtain ⟨rfl, f1, rfl, ef1⟩ := hq0
      show G Γ (va_pl L f1) 0 0 104 [(3, .int (vB g z b)), (2, .int (vB g z a)), (0, .ref o), (1, .ref rw)] [.int ((stB g z a b).1)]
      exact g_iret hX hR dX2_work_104 (by rw [wkF, if_pos hxe]; exact ⟨rfl, _, rfl, ef1⟩)
    · have hxe : x = (1 : Int32) := sw_val (hkz ▸ hk1) (by decide)
      refine g_tableIn (n := 105) (off := 83) hX dX2_work_22 (by rw [hxe]; decide) (by rw [hxe]; decide) (by rw [hxe]; rfl) (by decide) ?_
      refine g_aload_n (n := 106) hX dX2_work_105 rfl rfl rfl ?_
      refine g_aload_n (n := 107) hX dX2_work_106 rfl rfl rfl ?_
      refine g_pget (n := 110) ux_X4 rfl hX hU dX2_work_107 rfl hrL hrf 1 rfl uf_X2_60 rfl ?_
      refine g_iload_n (n := 111) hX dX2_work_110 rfl rfl rfl ?_
      refine g_pcallV (n := 114) (As := [.int a, .int (vB g z b)]) (rest := []) hX hE hU hY dX2_work_111 rfl yv_X2_setByte um_X2_75 (x_setB _ _ K L f a (vB g z b) o z g mh mp mw mf m0 m3 m6 m7 m8 hoL hof haL haf hz2) ⟨rfl, rfl⟩ (rm_le hRm rfl rfl) rfl hoL hof rfl rfl rfl (Nat.le_of_ble_eq_true rfl) ⟨Nat.zero_le _, Nat.zero_le _⟩ (fun v0 w0 hq0 => ?_)
      obtain ⟨rfl, f2, rfl, ef2⟩ := hq0
      show G Γ (va_pl L f2) 0 0 114 [(3, .int (vB g z b)), (2, .int (vB g z a)), (0, .ref o), (1, .ref rw)] [.int ((stB g z a (vB g z b)).1)]
      exact g_iret hX hR dX2_work_114 (by rw [wkF, if_neg (by rw [hxe]; decide), if_pos hxe]; exact ⟨rfl, _, rfl, ef2⟩)
    · have hxe : x = (2 : Int32) := sw_val (hkz ▸ hk1) (by decide)
      refine g_tableIn (n := 115) (off := 93) hX dX2_work_22 (by rw [hxe]; decide) (by rw [hxe]; decide) (by rw [hxe]; rfl) (by decide) ?_
      refine g_aload_n (n := 116) hX dX2_work_115 rfl rfl rfl ?_
      refine g_aload_n (n := 117) hX dX2_work_116 rfl rfl rfl ?_
      refine g_pget (n := 120) ux_X4 rfl hX hU dX2_work_117 rfl hrL hrf 1 rfl uf_X2_60 rfl ?_
      refine g_iload_n (n := 121) hX dX2_work_120 rfl rfl rfl ?_
      refine g_iload_n (n := 122) hX dX2_work_121 rfl rfl rfl ?_
      refine g_iadd (n := 123) (v := (vB g z a) + (vB g z b)) hX dX2_work_122 rfl rfl ?_
      refine g_pcallV (n := 126) (As := [.int a, .int ((vB g z a) + (vB g z b))]) (rest := []) hX hE hU hY dX2_work_123 rfl yv_X2_setByte um_X2_75 (x_setB _ _ K L f a ((vB g z a) + (vB g z b)) o z g mh mp mw mf m0 m3 m6 m7 m8 hoL hof haL haf hz2) ⟨rfl, rfl⟩ (rm_le hRm rfl rfl) rfl hoL hof rfl rfl rfl (Nat.le_of_ble_eq_true rfl) ⟨Nat.zero_le _, Nat.zero_le _⟩ (fun v0 w0 hq0 => ?_)
      obtain ⟨rfl, f3, rfl, ef3⟩ := hq0
      show G Γ (va_pl L f3) 0 0 126 [(3, .int (vB g z b)), (2, .int (vB g z a)), (0, .ref o), (1, .ref rw)] [.int ((stB g z a ((vB g z a) + (vB g z b))).1)]
      exact g_iret hX hR dX2_work_126 (by rw [wkF, if_neg (by rw [hxe]; decide), if_neg (by rw [hxe]; decide), if_pos hxe]; exact ⟨rfl, _, rfl, ef3⟩)
    · have hxe : x = (3 : Int32) := sw_val (hkz ▸ hk1) (by decide)
      refine g_tableIn (n := 127) (off := 105) hX dX2_work_22 (by rw [hxe]; decide) (by rw [hxe]; decide) (by rw [hxe]; rfl) (by decide) ?_
      refine g_aload_n (n := 128) hX dX2_work_127 rfl rfl rfl ?_
      refine g_aload_n (n := 129) hX dX2_work_128 rfl rfl rfl ?_
      refine g_pget (n := 132) ux_X4 rfl hX hU dX2_work_129 rfl hrL hrf 1 rfl uf_X2_60 rfl ?_
      refine g_iload_n (n := 133) hX dX2_work_132 rfl rfl rfl ?_
      refine g_iload_n (n := 134) hX dX2_work_133 rfl rfl rfl ?_
      refine g_isub (n := 135) (v := (vB g z a) - (vB g z b)) hX dX2_work_134 rfl rfl ?_
      refine g_pcallV (n := 138) (As := [.int a, .int ((vB g z a) - (vB g z b))]) (rest := []) hX hE hU hY dX2_work_135 rfl yv_X2_setByte um_X2_75 (x_setB _ _ K L f a ((vB g z a) - (vB g z b)) o z g mh mp mw mf m0 m3 m6 m7 m8 hoL hof haL haf hz2) ⟨rfl, rfl⟩ (rm_le hRm rfl rfl) rfl hoL hof rfl rfl rfl (Nat.le_of_ble_eq_true rfl) ⟨Nat.zero_le _, Nat.zero_le _⟩ (fun v0 w0 hq0 => ?_)
      obtain ⟨rfl, f4, rfl, ef4⟩ := hq0
      show G Γ (va_pl L f4) 0 0 138 [(3, .int (vB g z b)), (2, .int (vB g z a)), (0, .ref o), (1, .ref rw)] [.int ((stB g z a ((vB g z a) - (vB g z b))).1)]
      exact g_iret hX hR dX2_work_138 (by rw [wkF, if_neg (by rw [hxe]; decide), if_neg (by rw [hxe]; decide), if_neg (by rw [hxe]; decide), if_pos hxe]; exact ⟨rfl, _, rfl, ef4⟩)
    · have hxe : x = (4 : Int32) := sw_val (hkz ▸ hk1) (by decide)
      refine g_tableIn (n := 139) (off := 117) hX dX2_work_22 (by rw [hxe]; decide) (by rw [hxe]; decide) (by rw [hxe]; rfl) (by decide) ?_
      refine g_aload_n (n := 140) hX dX2_work_139 rfl rfl rfl ?_
      refine g_aload_n (n := 141) hX dX2_work_140 rfl rfl rfl ?_
      refine g_pget (n := 144) ux_X4 rfl hX hU dX2_work_141 rfl hrL hrf 1 rfl uf_X2_60 rfl ?_
      refine g_iload_n (n := 145) hX dX2_work_144 rfl rfl rfl ?_
      refine g_iload_n (n := 146) hX dX2_work_145 rfl rfl rfl ?_
      refine g_imul (n := 147) (v := (vB g z a) * (vB g z b)) hX dX2_work_146 rfl rfl ?_
      refine g_pcallV (n := 150) (As := [.int a, .int ((vB g z a) * (vB g z b))]) (rest := []) hX hE hU hY dX2_work_147 rfl yv_X2_setByte um_X2_75 (x_setB _ _ K L f a ((vB g z a) * (vB g z b)) o z g mh mp mw mf m0 m3 m6 m7 m8 hoL hof haL haf hz2) ⟨rfl, rfl⟩ (rm_le hRm rfl rfl) rfl hoL hof rfl rfl rfl (Nat.le_of_ble_eq_true rfl) ⟨Nat.zero_le _, Nat.zero_le _⟩ (fun v0 w0 hq0 => ?_)
      obtain ⟨rfl, f5, rfl, ef5⟩ := hq0
      show G Γ (va_pl L f5) 0 0 150 [(3, .int (vB g z b)), (2, .int (vB g z a)), (0, .ref o), (1, .ref rw)] [.int ((stB g z a ((vB g z a) * (vB g z b))).1)]
      exact g_iret hX hR dX2_work_150 (by rw [wkF, if_neg (by rw [hxe]; decide), if_neg (by rw [hxe]; decide), if_neg (by rw [hxe]; decide), if_neg (by rw [hxe]; decide), if_pos hxe]; exact ⟨rfl, _, rfl, ef5⟩)
    · have hxe : x = (5 : Int32) := sw_val (hkz ▸ hk1) (by decide)
      refine g_tableIn (n := 151) (off := 129) hX dX2_work_22 (by rw [hxe]; decide) (by rw [hxe]; decide) (by rw [hxe]; rfl) (by decide) ?_
      refine g_iload_n (n := 152) hX dX2_work_151 rfl rfl rfl ?_
      refine g_if_ne (n := 155) (tgt := 159) hX dX2_work_152 rfl (by decide) (fun c152 => ?_) (fun c152 => ?_)
      · refine g_aload_n (n := 160) hX dX2_work_159 rfl rfl rfl ?_
        refine g_aload_n (n := 161) hX dX2_work_160 rfl rfl rfl ?_
        refine g_pget (n := 164) ux_X4 rfl hX hU dX2_work_161 rfl hrL hrf 1 rfl uf_X2_60 rfl ?_
        refine g_iload_n (n := 165) hX dX2_work_164 rfl rfl rfl ?_
        refine g_iload_n (n := 166) hX dX2_work_165 rfl rfl rfl ?_
        refine g_idiv (n := 167) (v := (vB g z a) / (vB g z b)) hX dX2_work_166 rfl c152 rfl ?_
        refine g_pcallV (n := 170) (As := [.int a, .int ((vB g z a) / (vB g z b))]) (rest := []) hX hE hU hY dX2_work_167 rfl yv_X2_setByte um_X2_75 (x_setB _ _ K L f a ((vB g z a) / (vB g z b)) o z g mh mp mw mf m0 m3 m6 m7 m8 hoL hof haL haf hz2) ⟨rfl, rfl⟩ (rm_le hRm rfl rfl) rfl hoL hof rfl rfl rfl (Nat.le_of_ble_eq_true rfl) ⟨Nat.zero_le _, Nat.zero_le _⟩ (fun v0 w0 hq0 => ?_)
        obtain ⟨rfl, f6, rfl, ef6⟩ := hq0
        show G Γ (va_pl L f6) 0 0 170 [(3, .int (vB g z b)), (2, .int (vB g z a)), (0, .ref o), (1, .ref rw)] [.int ((stB g z a ((vB g z a) / (vB g z b))).1)]
        exact g_iret hX hR dX2_work_170 (by rw [wkF, if_neg (by rw [hxe]; decide), if_neg (by rw [hxe]; decide), if_neg (by rw [hxe]; decide), if_neg (by rw [hxe]; decide), if_neg (by rw [hxe]; decide), if_pos hxe, if_neg c152]; exact ⟨rfl, _, rfl, ef6⟩)
      · refine g_iconst (n := 156) (v := 1) hX dX2_work_155 rfl rfl ?_
        refine g_goto (n := 170) hX dX2_work_156 (by decide) ?_
        exact g_iret hX hR dX2_work_170 (by rw [wkF, if_neg (by rw [hxe]; decide), if_neg (by rw [hxe]; decide), if_neg (by rw [hxe]; decide), if_neg (by rw [hxe]; decide), if_neg (by rw [hxe]; decide), if_pos hxe, if_pos c152]; exact ⟨rfl, f, rfl, (up_same f mw haf).symm⟩)
    · have hxe : x = (6 : Int32) := sw_val (hkz ▸ hk1) (by decide)
      refine g_tableIn (n := 171) (off := 149) hX dX2_work_22 (by rw [hxe]; decide) (by rw [hxe]; decide) (by rw [hxe]; rfl) (by decide) ?_
      refine g_iload_n (n := 172) hX dX2_work_171 rfl rfl rfl ?_
      refine g_if_ne (n := 175) (tgt := 179) hX dX2_work_172 rfl (by decide) (fun c172 => ?_) (fun c172 => ?_)
      · refine g_aload_n (n := 180) hX dX2_work_179 rfl rfl rfl ?_
        refine g_aload_n (n := 181) hX dX2_work_180 rfl rfl rfl ?_
        refine g_pget (n := 184) ux_X4 rfl hX hU dX2_work_181 rfl hrL hrf 1 rfl uf_X2_60 rfl ?_
        refine g_iload_n (n := 185) hX dX2_work_184 rfl rfl rfl ?_
        refine g_iload_n (n := 186) hX dX2_work_185 rfl rfl rfl ?_
        refine g_irem (n := 187) (v := (vB g z a) - (vB g z a) / (vB g z b) * (vB g z b)) hX dX2_work_186 rfl c172 rfl ?_
        refine g_pcallV (n := 190) (As := [.int a, .int ((vB g z a) - (vB g z a) / (vB g z b) * (vB g z b))]) (rest := []) hX hE hU hY dX2_work_187 rfl yv_X2_setByte um_X2_75 (x_setB _ _ K L f a ((vB g z a) - (vB g z a) / (vB g z b) * (vB g z b)) o z g mh mp mw mf m0 m3 m6 m7 m8 hoL hof haL haf hz2) ⟨rfl, rfl⟩ (rm_le hRm rfl rfl) rfl hoL hof rfl rfl rfl (Nat.le_of_ble_eq_true rfl) ⟨Nat.zero_le _, Nat.zero_le _⟩ (fun v0 w0 hq0 => ?_)
        obtain ⟨rfl, f7, rfl, ef7⟩ := hq0
        show G Γ (va_pl L f7) 0 0 190 [(3, .int (vB g z b)), (2, .int (vB g z a)), (0, .ref o), (1, .ref rw)] [.int ((stB g z a ((vB g z a) - (vB g z a) / (vB g z b) * (vB g z b))).1)]
        exact g_iret hX hR dX2_work_190 (by rw [wkF, if_neg (by rw [hxe]; decide), if_neg (by rw [hxe]; decide), if_neg (by rw [hxe]; decide), if_neg (by rw [hxe]; decide), if_neg (by rw [hxe]; decide), if_neg (by rw [hxe]; decide), if_pos hxe, if_neg c172]; exact ⟨rfl, _, rfl, ef7⟩)
      · refine g_iconst (n := 176) (v := 1) hX dX2_work_175 rfl rfl ?_
        refine g_goto (n := 190) hX dX2_work_176 (by decide) ?_
        exact g_iret hX hR dX2_work_190 (by rw [wkF, if_neg (by rw [hxe]; decide), if_neg (by rw [hxe]; decide), if_neg (by rw [hxe]; decide), if_neg (by rw [hxe]; decide), if_neg (by rw [hxe]; decide), if_neg (by rw [hxe]; decide), if_pos hxe, if_pos c172]; exact ⟨rfl, f, rfl, (up_same f mw haf).symm⟩)
    · have hxe : x = (7 : Int32) := sw_val (hkz ▸ hk1) (by decide)
      refine g_tableIn (n := 191) (off := 169) hX dX2_work_22 (by rw [hxe]; decide) (by rw [hxe]; decide) (by rw [hxe]; rfl) (by decide) ?_
      refine g_aload_n (n := 192) hX dX2_work_191 rfl rfl rfl ?_
      refine g_iload_n (n := 193) hX dX2_work_192 rfl rfl rfl ?_
      refine g_iload_n (n := 194) hX dX2_work_193 rfl rfl rfl ?_
      refine g_pcallV (n := 197) (As := [.int (vB g z a), .int (vB g z b)]) (rest := []) hX hE hU hY dX2_work_194 rfl yv_X2_setByte um_X2_75 (x_setB _ _ K L f (vB g z a) (vB g z b) o z g mh mp mw mf m0 m3 m6 m7 m8 hoL hof haL haf hz2) ⟨rfl, rfl⟩ (rm_le hRm rfl rfl) rfl hoL hof rfl rfl rfl (Nat.le_of_ble_eq_true rfl) ⟨Nat.zero_le _, Nat.zero_le _⟩ (fun v0 w0 hq0 => ?_)
      obtain ⟨rfl, f8, rfl, ef8⟩ := hq0
      show G Γ (va_pl L f8) 0 0 197 [(3, .int (vB g z b)), (2, .int (vB g z a)), (0, .ref o), (1, .ref rw)] [.int ((stB g z (vB g z a) (vB g z b)).1)]
      exact g_iret hX hR dX2_work_197 (by rw [wkF, if_neg (by rw [hxe]; decide), if_neg (by rw [hxe]; decide), if_neg (by rw [hxe]; decide), if_neg (by rw [hxe]; decide), if_neg (by rw [hxe]; decide), if_neg (by rw [hxe]; decide), if_neg (by rw [hxe]; decide), if_pos hxe]; exact ⟨rfl, _, rfl, ef8⟩)
    · have hxe : x = (8 : Int32) := sw_val (hkz ▸ hk1) (by decide)
      refine g_tableIn (n := 212) (off := 190) hX dX2_work_22 (by rw [hxe]; decide) (by rw [hxe]; decide) (by rw [hxe]; rfl) (by decide) ?_
      refine g_iconst (n := 213) (v := 0) hX dX2_work_212 rfl rfl ?_
      exact g_iret hX hR dX2_work_213 (by rw [wkF, if_neg (by rw [hxe]; decide), if_neg (by rw [hxe]; decide), if_neg (by rw [hxe]; decide), if_neg (by rw [hxe]; decide), if_neg (by rw [hxe]; decide), if_neg (by rw [hxe]; decide), if_neg (by rw [hxe]; decide), if_neg (by rw [hxe]; decide), if_neg (by rw [hxe]; decide)]; exact ⟨rfl, f, rfl, (up_same f mw haf).symm⟩)
    · have hxe : x = (9 : Int32) := sw_val (hkz ▸ hk1) (by decide)
      refine g_tableIn (n := 212) (off := 190) hX dX2_work_22 (by rw [hxe]; decide) (by rw [hxe]; decide) (by rw [hxe]; rfl) (by decide) ?_
      refine g_iconst (n := 213) (v := 0) hX dX2_work_212 rfl rfl ?_
      exact g_iret hX hR dX2_work_213 (by rw [wkF, if_neg (by rw [hxe]; decide), if_neg (by rw [hxe]; decide), if_neg (by rw [hxe]; decide), if_neg (by rw [hxe]; decide), if_neg (by rw [hxe]; decide), if_neg (by rw [hxe]; decide), if_neg (by rw [hxe]; decide), if_neg (by rw [hxe]; decide), if_neg (by rw [hxe]; decide)]; exact ⟨rfl, f, rfl, (up_same f mw haf).symm⟩)
    · have hxe : x = (10 : Int32) := sw_val (hkz ▸ hk1) (by decide)
      refine g_tableIn (n := 212) (off := 190) hX dX2_work_22 (by rw [hxe]; decide) (by rw [hxe]; decide) (by rw [hxe]; rfl) (by decide) ?_
      refine g_iconst (n := 213) (v := 0) hX dX2_work_212 rfl rfl ?_
      exact g_iret hX hR dX2_work_213 (by rw [wkF, if_neg (by rw [hxe]; decide), if_neg (by rw [hxe]; decide), if_neg (by rw [hxe]; decide), if_neg (by rw [hxe]; decide), if_neg (by rw [hxe]; decide), if_neg (by rw [hxe]; decide), if_neg (by rw [hxe]; decide), if_neg (by rw [hxe]; decide), if_neg (by rw [hxe]; decide)]; exact ⟨rfl, f, rfl, (up_same f mw haf).symm⟩)
    · have hxe : x = (11 : Int32) := sw_val (hkz ▸ hk1) (by decide)
      refine g_tableIn (n := 212) (off := 190) hX dX2_work_22 (by rw [hxe]; decide) (by rw [hxe]; decide) (by rw [hxe]; rfl) (by decide) ?_
      refine g_iconst (n := 213) (v := 0) hX dX2_work_212 rfl rfl ?_
      exact g_iret hX hR dX2_work_213 (by rw [wkF, if_neg (by rw [hxe]; decide), if_neg (by rw [hxe]; decide), if_neg (by rw [hxe]; decide), if_neg (by rw [hxe]; decide), if_neg (by rw [hxe]; decide), if_neg (by rw [hxe]; decide), if_neg (by rw [hxe]; decide), if_neg (by rw [hxe]; decide), if_neg (by rw [hxe]; decide)]; exact ⟨rfl, f, rfl, (up_same f mw haf).symm⟩)
    · have hxe : x = (12 : Int32) := sw_val (hkz ▸ hk1) (by decide)
      refine g_tableIn (n := 212) (off := 190) hX dX2_work_22 (by rw [hxe]; decide) (by rw [hxe]; decide) (by rw [hxe]; rfl) (by decide) ?_
      refine g_iconst (n := 213) (v := 0) hX dX2_work_212 rfl rfl ?_
      exact g_iret hX hR dX2_work_213 (by rw [wkF, if_neg (by rw [hxe]; decide), if_neg (by rw [hxe]; decide), if_neg (by rw [hxe]; decide), if_neg (by rw [hxe]; decide), if_neg (by rw [hxe]; decide), if_neg (by rw [hxe]; decide), if_neg (by rw [hxe]; decide), if_neg (by rw [hxe]; decide), if_neg (by rw [hxe]; decide)]; exact ⟨rfl, f, rfl, (up_same f mw haf).symm⟩)
    · have hxe : x = (13 : Int32) := sw_val (hkz ▸ hk1) (by decide)
      refine g_tableIn (n := 198) (off := 176) hX dX2_work_22 (by rw [hxe]; decide) (by rw [hxe]; decide) (by rw [hxe]; rfl) (by decide) ?_
      refine g_iload_n (n := 199) hX dX2_work_198 rfl rfl rfl ?_
      refine g_aload_n (n := 200) hX dX2_work_199 rfl rfl rfl ?_
      refine g_pget (n := 203) ux_X4 rfl hX hU dX2_work_200 rfl hrL hrf 2 rfl uf_X2_69 rfl ?_
      refine g_icmp_le (n := 206) (tgt := 210) hX dX2_work_203 rfl (by decide) (fun c203 => ?_) (fun c203 => ?_)
      · refine g_iconst (n := 211) (v := 0) hX dX2_work_210 rfl rfl ?_
        exact g_iret hX hR dX2_work_211 (by rw [wkF, if_neg (by rw [hxe]; decide), if_neg (by rw [hxe]; decide), if_neg (by rw [hxe]; decide), if_neg (by rw [hxe]; decide), if_neg (by rw [hxe]; decide), if_neg (by rw [hxe]; decide), if_neg (by rw [hxe]; decide), if_neg (by rw [hxe]; decide), if_pos hxe, if_pos c203]; exact ⟨rfl, f, rfl, (up_same f mw haf).symm⟩)
      · refine g_iconst (n := 207) (v := 4) hX dX2_work_206 rfl rfl ?_
        refine g_goto (n := 211) hX dX2_work_207 (by decide) ?_
        exact g_iret hX hR dX2_work_211 (by rw [wkF, if_neg (by rw [hxe]; decide), if_neg (by rw [hxe]; decide), if_neg (by rw [hxe]; decide), if_neg (by rw [hxe]; decide), if_neg (by rw [hxe]; decide), if_neg (by rw [hxe]; decide), if_neg (by rw [hxe]; decide), if_neg (by rw [hxe]; decide), if_pos hxe, if_neg c203]; exact ⟨rfl, f, rfl, (up_same f mw haf).symm⟩)

def fl (g : Nat → Int32) (x : Int32) (k : Nat) : Nat → Int32 := fun i => if i < k then x else g i
theorem fl_0 (g : Nat → Int32) (x : Int32) : fl g x 0 = g := by funext i; simp [fl]
theorem fl_s (g : Nat → Int32) (x : Int32) (k : Nat) : upd (fl g x k) k x = fl g x (k + 1) := by
  funext i
  by_cases hi : i = k
  · rw [hi, pk_us]; simp [fl]
  · rw [pk_un hi]
    simp only [fl]
    by_cases h : i < k
    · rw [if_pos h, if_pos (by omega)]
    · rw [if_neg h, if_neg (by omega)]
set_option maxHeartbeats 4000000 in
set_option maxRecDepth 100000 in
theorem lp_fill {Γ : gT} {K : Nat → ClassId} (hX : gOk Γ cJ7_fill_031fb (wM yJ7_fill_031fb cJ7_fill_031fb 4 none) RJ7) (hnL : gnL Γ = 4) (hY : gY Γ = yY K) (L : List Nat) (f0 : Nat → va_E) (ar z : Nat) (g : Nat → Int32) (x : Int32) (hx0 : vp_nar .byte x = x) (hz : z ≤ 100) (haL : ar ∈ L) (hR : gRet Γ none (fun v w => v = none ∧ ∃ f1 : Nat → va_E, w = va_pl L f1 ∧ f1 = va_up f0 ar (.inl (K 0, z, .inl (fl g x z)))) 0 0) : ∀ (j k : Nat) (f : Nat → va_E), k + j = z → f = va_up f0 ar (.inl (K 0, z, .inl (fl g x k))) → G Γ (va_pl L f) 0 0 5 [(3, .int (nI z)), (2, .int (nI k)), (0, .ref ar), (1, .int x)] [] := by
  intro j
  induction j with
  | zero =>
    intro k f hk hf
    have hkk : k = z := by omega
    subst hkk
    have haf : f ar = .inl (K 0, k, .inl (fl g x k)) := by rw [hf]; exact va_up_self _ _ _
    refine g_iload_n (n := 6) hX dJ7_fill_031fb_5 rfl rfl rfl ?_
    refine g_iload_n (n := 7) hX dJ7_fill_031fb_6 rfl rfl rfl ?_
    refine g_icmp_ge (n := 10) (tgt := 20) hX dJ7_fill_031fb_7 rfl (by decide) (fun c7 => ?_) (fun c7 => absurd (nI_le (a := k) (b := k) (by omega) (by omega)) c7)
    exact g_vret hX hR dJ7_fill_031fb_20 ⟨rfl, f, rfl, hf⟩
  | succ j ih =>
    intro k f hk hf
    have haf : f ar = .inl (K 0, z, .inl (fl g x k)) := by rw [hf]; exact va_up_self _ _ _
    refine g_iload_n (n := 6) hX dJ7_fill_031fb_5 rfl rfl rfl ?_
    refine g_iload_n (n := 7) hX dJ7_fill_031fb_6 rfl rfl rfl ?_
    refine g_icmp_ge (n := 10) (tgt := 20) hX dJ7_fill_031fb_7 rfl (by decide) (fun c7 => absurd c7 (nI_ge (a := k) (b := z) (by omega) (by omega))) (fun c7 => ?_)
    refine g_aload_n (n := 11) hX dJ7_fill_031fb_10 rfl rfl rfl ?_
    refine g_iload_n (n := 12) hX dJ7_fill_031fb_11 rfl rfl rfl ?_
    refine g_iload_n (n := 13) hX dJ7_fill_031fb_12 rfl rfl rfl ?_
    refine g_pbst (n := 14) (i0 := k) (y := x) hX hY dJ7_fill_031fb_13 rfl haL haf (vp_in_nI (show k < z by omega) (by omega)) (nI_clamp (by omega)) hx0 (fun f9 ef9 => ?_)
    have har_10 : f9 ar = .inl (K 0, z, .inl (upd (fl g x k) k x)) := by rw [ef9]; exact va_up_self _ _ _
    refine g_iinc (n := 17) (v := nI (k + 1)) (lv' := [(2, .int (nI (k + 1))), (3, .int (nI z)), (0, .ref ar), (1, .int x)]) hX dJ7_fill_031fb_14 rfl rfl (nI_add k 1) (by rw [hnL]; rfl) rfl ?_
    refine g_goto (n := 5) hX dJ7_fill_031fb_17 (by decide) ?_
    refine g_pick (lv' := [(3, .int (nI z)), (2, .int (nI (k + 1))), (0, .ref ar), (1, .int x)]) [1, 0, 2, 3] rfl ?_
    refine ih (k + 1) _ (by omega) ?_
    rw [ef9, hf, up_up, fl_s]
set_option maxHeartbeats 4000000 in
set_option maxRecDepth 100000 in
theorem x_fill (l : Launch) (D : va_G) (K : Nat → ClassId) (L : List Nat) (f : Nat → va_E) (x : Int32) (ar z : Nat) (g : Nat → Int32) (haL : ar ∈ L) (haf : f ar = .inl (K 0, z, .inl g)) (hz2 : z ≤ 100) (hx0 : vp_nar .byte x = x) : Mc l yJ7_fill_031fb (wM yJ7_fill_031fb cJ7_fill_031fb 4 none) (rmL 0 0 0) D (yY K) [.ref ar, .int x] (va_pl L f) (fun v w => v = none ∧ ∃ f1 : Nat → va_E, w = va_pl L f1 ∧ f1 = va_up f ar (.inl (K 0, z, .inl (fl g x z)))) 0 0 := by
  refine m_start (lv := [(0, .ref ar), (1, .int x)]) rfl (Nat.le_of_ble_eq_true rfl) rfl (fun Γ hX hRm hnL hY hDD hLa hR hI hE => ?_)
  have hU : ∀ w ∈ wU, w ∈ wM yJ7_fill_031fb cJ7_fill_031fb 4 none := fun w h => wM_in h
  subst hLa
  subst hDD
  refine g_iconst (n := 1) (v := 0) hX dJ7_fill_031fb_0 rfl rfl ?_
  refine g_istore_n (lv' := [(2, .int 0), (0, .ref ar), (1, .int x)]) (n := 2) hX dJ7_fill_031fb_1 rfl rfl (by rw [hnL]; rfl) rfl ?_
  refine g_aload_n (n := 3) hX dJ7_fill_031fb_2 rfl rfl rfl ?_
  refine g_palen (n := 4) (t0 := 0) (v := nI (z)) hX hY dJ7_fill_031fb_3 rfl haL haf rfl rfl ?_
  refine g_istore_n (lv' := [(3, .int (nI (z))), (2, .int 0), (0, .ref ar), (1, .int x)]) (n := 5) hX dJ7_fill_031fb_4 rfl rfl (by rw [hnL]; rfl) rfl ?_
  refine g_pick (lv' := [(3, .int (nI (z))), (2, .int 0), (0, .ref ar), (1, .int x)]) [0, 1, 2, 3] rfl ?_
  exact lp_fill hX hnL hY L f ar z g x hx0 hz2 haL hR z 0 f (by omega) (by rw [fl_0, up_same f ar haf])

set_option maxHeartbeats 4000000 in
set_option maxRecDepth 100000 in
theorem x_start (l : Launch) (D : va_G) (K : Nat → ClassId) (L : List Nat) (f : Nat → va_E) (o z ra : Nat) (g : Nat → Int32) (mh mp mw : Nat) (mf : Option Nat) (m0 m3 m6 m7 m8 : Int32) (v0 v1 v2 v4 : Int32) (hoL : o ∈ L) (hof : f o = .inr (4, [.int m0, .ref mh, .ref mp, .int m3, .ref mw, va_rf (mf), .int m6, .int m7, .int m8])) (haL : mw ∈ L) (haf : f mw = .inl (K 0, z, .inl g)) (hpL : mp ∈ L) (hpf : f mp = .inr (5, [.int v0, .int v1, .int v2, .ref ra, .int v4])) (hz2 : z ≤ 100) : Mc l yX2_start (wM yX2_start cX2_start 1 (some .boolean)) (rmL 1 0 0) D (yY K) [.ref o] (va_pl L f) (fun v w => v = some (.int (bI (¬ m6 = 0 ∨ v2 = 0))) ∧ ∃ f1 : Nat → va_E, w = va_pl L f1 ∧ f1 = if m6 = 0 then (if v2 = 0 then va_up (va_up f mw (.inl (K 0, z, .inl (fl g 0 z)))) o (.inr (4, [.int m0, .ref mh, .ref mp, .int m3, .ref mw, va_rf (mf), .int 1, .int m7, .int m8])) else va_up f o (.inr (4, [.int m0, .ref mh, .ref mp, .int m3, .ref mw, va_rf (mf), .int m6, .int 1, .int m8]))) else f) 0 0 := by
  refine m_start (lv := [(0, .ref o)]) rfl (Nat.le_of_ble_eq_true rfl) rfl (fun Γ hX hRm hnL hY hDD hLa hR hI hE => ?_)
  have hU : ∀ w ∈ wU, w ∈ wM yX2_start cX2_start 1 (some .boolean) := fun w h => wM_in h
  subst hLa
  subst hDD
  refine g_aload_n (n := 1) hX dX2_start_0 rfl rfl rfl ?_
  refine g_pget (n := 4) ux_X2 rfl hX hU dX2_start_1 rfl hoL hof 6 rfl uf_X2_36 rfl ?_
  refine g_if_eq (n := 7) (tgt := 9) hX dX2_start_4 rfl (by decide) (fun c4 => ?_) (fun c4 => ?_)
  · refine g_aload_n (n := 10) hX dX2_start_9 rfl rfl rfl ?_
    refine g_pget (n := 13) ux_X2 rfl hX hU dX2_start_10 rfl hoL hof 2 rfl uf_X2_19 rfl ?_
    refine g_pget (n := 16) ux_X3 rfl hX hU dX2_start_13 rfl hpL hpf 2 rfl uf_X2_40 rfl ?_
    refine g_if_eq (n := 19) (tgt := 26) hX dX2_start_16 rfl (by decide) (fun c16 => ?_) (fun c16 => ?_)
    · refine g_aload_n (n := 27) hX dX2_start_26 rfl rfl rfl ?_
      refine g_pget (n := 30) ux_X2 rfl hX hU dX2_start_27 rfl hoL hof 4 rfl uf_X2_32 rfl ?_
      refine g_iconst (n := 31) (v := 0) hX dX2_start_30 rfl rfl ?_
      refine g_callS0 (n := 34) (As := [.ref mw, .int 0]) (rest := []) hX hE hU hY dX2_start_31 rfl ys_J7_fill_031fb um_X2_46 (x_fill _ _ K L f 0 mw z g haL haf hz2 rfl) ⟨rfl, rfl⟩ (rm_le hRm rfl rfl) rfl rfl (Nat.le_of_ble_eq_true rfl) ⟨Nat.zero_le _, Nat.zero_le _⟩ (fun v0 w0 hq0 => ?_)
      obtain ⟨rfl, f11, rfl, ef11⟩ := hq0
      show G Γ (va_pl L f11) 0 0 34 [(0, .ref o)] []
      have ho_12 : f11 o = .inr (4, [.int m0, .ref mh, .ref mp, .int m3, .ref mw, va_rf (mf), .int m6, .int m7, .int m8]) := by rw [ef11, va_up_ne _ _ (ne_oa hof haf)]; exact hof
      have hmw_13 : f11 mw = .inl (K 0, z, .inl (fl g 0 z)) := by rw [ef11]; exact va_up_self _ _ _
      have hmp_14 : f11 mp = .inr (5, [.int v0, .int v1, .int v2, .ref ra, .int v4]) := by rw [ef11, va_up_ne _ _ (ne_oa hpf haf)]; exact hpf
      refine g_aload_n (n := 35) hX dX2_start_34 rfl rfl rfl ?_
      refine g_iconst (n := 36) (v := 1) hX dX2_start_35 rfl rfl ?_
      refine g_pput (n := 39) (fs' := [.int m0, .ref mh, .ref mp, .int m3, .ref mw, va_rf (mf), .int 1, .int m7, .int m8]) tyX2 tyX2_ok nmX2 ux_X2 rfl hX hU dX2_start_36 rfl hoL ho_12 6 rfl uf_X2_36 rfl rfl rfl rfl rfl (fun f15 ef15 => ?_)
      have ho_16 : f15 o = .inr (4, [.int m0, .ref mh, .ref mp, .int m3, .ref mw, va_rf (mf), .int 1, .int m7, .int m8]) := by rw [ef15]; exact va_up_self _ _ _
      have hmw_17 : f15 mw = .inl (K 0, z, .inl (fl g 0 z)) := by rw [ef15, va_up_ne _ _ (ne_ao hmw_13 ho_12)]; exact hmw_13
      have hmp_18 : f15 mp = .inr (5, [.int v0, .int v1, .int v2, .ref ra, .int v4]) := by rw [ef15, va_up_ne _ _ (ne_oo hmp_14 ho_12 rfl)]; exact hmp_14
      refine g_iconst (n := 40) (v := 1) hX dX2_start_39 rfl rfl ?_
      exact g_zret hX hR dX2_start_40 rfl ⟨by rw [bI_t (Or.inr c16)], _, rfl, by rw [if_pos c4, if_pos c16]; simp only [ef11, ef15]⟩
    · refine g_aload_n (n := 20) hX dX2_start_19 rfl rfl rfl ?_
      refine g_iconst (n := 21) (v := 1) hX dX2_start_20 rfl rfl ?_
      refine g_pput (n := 24) (fs' := [.int m0, .ref mh, .ref mp, .int m3, .ref mw, va_rf (mf), .int m6, .int 1, .int m8]) tyX2 tyX2_ok nmX2 ux_X2 rfl hX hU dX2_start_21 rfl hoL hof 7 rfl uf_X2_43 rfl rfl rfl rfl rfl (fun f19 ef19 => ?_)
      have ho_20 : f19 o = .inr (4, [.int m0, .ref mh, .ref mp, .int m3, .ref mw, va_rf (mf), .int m6, .int 1, .int m8]) := by rw [ef19]; exact va_up_self _ _ _
      have hmw_21 : f19 mw = .inl (K 0, z, .inl g) := by rw [ef19, va_up_ne _ _ (ne_ao haf hof)]; exact haf
      have hmp_22 : f19 mp = .inr (5, [.int v0, .int v1, .int v2, .ref ra, .int v4]) := by rw [ef19, va_up_ne _ _ (ne_oo hpf hof rfl)]; exact hpf
      refine g_iconst (n := 25) (v := 0) hX dX2_start_24 rfl rfl ?_
      exact g_zret hX hR dX2_start_25 rfl ⟨by rw [bI_f (fun h9 => h9.elim (fun h8 => h8 c4) c16)], _, rfl, by rw [if_pos c4, if_neg c16]; simp only [ef19]⟩
  · refine g_iconst (n := 8) (v := 1) hX dX2_start_7 rfl rfl ?_
    exact g_zret hX hR dX2_start_8 rfl ⟨by rw [bI_t (Or.inl c4)], _, rfl, by rw [if_neg c4]⟩

