/-! rows over the constants outside the worlds: the table of lengths, the texts -/
section GV
variable {Γ : gT} {ws : va_W} {kc ks pc n : Nat} {lv : List (Nat × Value)} {st : List Value} {cc : ByteArray} {Ts : List Cond} {own : String}
theorem g_getsT (h : gOk Γ cc Ts own) (hE : gEv Γ) (hU : ∀ w ∈ wU, w ∈ Ts) {index : Nat} (hdg : decode cc pc = .ok (.getstatic index, 3)) (hn : pc + 3 = n) (hlk : Cond.fieldLink own index "ClassMaker4$FileMaker" "ROW_LENGTHS" "[I" ∈ wU) (k : G Γ ws kc ks n lv (.ref (eT (gD Γ)) :: st)) : G Γ ws kc ks pc lv st := by
  obtain ⟨p, l, e, R, s, m, args, below, meth, c, D, Y, A, Q, nL⟩ := Γ
  obtain ⟨⟨hx, hb, hml, hown, hts⟩, hK, hA⟩ := h
  have hE2 : gE D A s s.heap := hE
  subst hn
  intro H locs ls hP hD hS hl
  exact va_gets hx hb hE2.2.1.1.1 hS hown (hts _ (hU _ hlk)) (fun _ h9 => h9) hdg (k H locs ls hP hD hS hl)
theorem g_tlenT (h : gOk Γ cc Ts own) (hE : gEv Γ) (hdg : decode cc pc = .ok (.arraylength, 1)) (hn : pc + 1 = n) (k : G Γ ws kc ks n lv (.int 14 :: st)) : G Γ ws kc ks pc lv (.ref (eT (gD Γ)) :: st) := by
  obtain ⟨p, l, e, R, s, m, args, below, meth, c, D, Y, A, Q, nL⟩ := Γ
  obtain ⟨⟨hx, hb, hml, hown, hts⟩, hK, hA⟩ := h
  have hE2 : gE D A s s.heap := hE
  subst hn
  intro H locs ls hP hD hS hl
  exact va_tlen hx hb hE2.2.1.1.2 hS rfl hdg (k H locs ls hP hD hS hl)
theorem g_tldT {i v : Int32} (h : gOk Γ cc Ts own) (hE : gEv Γ) (hdg : decode cc pc = .ok (.iaload, 1)) (hn : pc + 1 = n) (hi : vp_in i 14) (hv : rlV i.toNatClampNeg = .int v) (k : G Γ ws kc ks n lv (.int v :: st)) : G Γ ws kc ks pc lv (.int i :: .ref (eT (gD Γ)) :: st) := by
  obtain ⟨p, l, e, R, s, m, args, below, meth, c, D, Y, A, Q, nL⟩ := Γ
  obtain ⟨⟨hx, hb, hml, hown, hts⟩, hK, hA⟩ := h
  have hE2 : gE D A s s.heap := hE
  subst hn
  intro H locs ls hP hD hS hl
  exact va_ti hx hb hE2.2.1.1.2 hS hi hv hdg (k H locs ls hP hD hS hl)
theorem g_getsC (h : gOk Γ cc Ts own) (hE : gEv Γ) (hU : ∀ w ∈ wU, w ∈ Ts) {index : Nat} (hdg : decode cc pc = .ok (.getstatic index, 3)) (hn : pc + 3 = n) (hlk : Cond.fieldLink own index "java/lang/String" "COMPACT_STRINGS" "Z" ∈ wU) (k : G Γ ws kc ks n lv (.int 1 :: st)) : G Γ ws kc ks pc lv st := by
  obtain ⟨p, l, e, R, s, m, args, below, meth, c, D, Y, A, Q, nL⟩ := Γ
  obtain ⟨⟨hx, hb, hml, hown, hts⟩, hK, hA⟩ := h
  have hE2 : gE D A s s.heap := hE
  subst hn
  intro H locs ls hP hD hS hl
  exact va_gets hx hb hE2.2.1.2.1 hS hown (hts _ (hU _ hlk)) (fun _ h9 => h9) hdg (k H locs ls hP hD hS hl)
theorem g_getsF (h : gOk Γ cc Ts own) (hE : gEv Γ) (hU : ∀ w ∈ wU, w ∈ Ts) {index : Nat} (hdg : decode cc pc = .ok (.getstatic index, 3)) (hn : pc + 3 = n) (hlk : Cond.fieldLink own index "jdk/internal/util/Preconditions" "SIOOBE_FORMATTER" "Ljava/util/function/BiFunction;" ∈ wU) (k : ∀ r : Option Nat, G Γ ws kc ks n lv (va_rf r :: st)) : G Γ ws kc ks pc lv st := by
  obtain ⟨p, l, e, R, s, m, args, below, meth, c, D, Y, A, Q, nL⟩ := Γ
  obtain ⟨⟨hx, hb, hml, hown, hts⟩, hK, hA⟩ := h
  have hE2 : gE D A s s.heap := hE
  subst hn
  intro H locs ls hP hD hS hl
  rcases hE2.2.1.2.2.1 with hZ | ⟨t, hZ⟩
  · exact va_gets hx hb hZ hS hown (hts _ (hU _ hlk)) (fun _ h9 => h9) hdg (k none H locs ls hP hD hS hl)
  · exact va_gets hx hb hZ hS hown (hts _ (hU _ hlk)) (fun _ h9 => h9) hdg (k (some t) H locs ls hP hD hS hl)
theorem g_ldcS (i : Nat) {tx : String} {index : Nat} (h : gOk Γ cc Ts own) (hE : gEv Γ) (hq : sTab[i]? = some (own, index, tx)) (hdg : decode cc pc = .ok (.ldc index, 2)) (hn : pc + 2 = n) (k : G Γ ws kc ks n lv (.ref (eK (gD Γ) i) :: st)) : G Γ ws kc ks pc lv st := by
  obtain ⟨p, l, e, R, s, m, args, below, meth, c, D, Y, A, Q, nL⟩ := Γ
  obtain ⟨⟨hx, hb, hml, hown, hts⟩, hK, hA⟩ := h
  have hE2 : gE D A s s.heap := hE
  subst hn
  intro H locs ls hP hD hS hl
  exact va_ldcS hx hb hown (hE2.2.2 i _ hq) hdg (k H locs ls hP hD hS hl)
theorem g_sgetV (i : Nat) (hi : Nat.blt i 18 = true) {index : Nat} (h : gOk Γ cc Ts own) (hE : gEv Γ) (hU : ∀ w ∈ wU, w ∈ Ts) (hdg : decode cc pc = .ok (.getfield index, 3)) (hn : pc + 3 = n) (hlk : Cond.fieldLink own index "java/lang/String" "value" "[B" ∈ wU) (k : G Γ ws kc ks n lv (.ref (eV (gD Γ) i) :: st)) : G Γ ws kc ks pc lv (.ref (eK (gD Γ) i) :: st) := by
  obtain ⟨p, l, e, R, s, m, args, below, meth, c, D, Y, A, Q, nL⟩ := Γ
  obtain ⟨⟨hx, hb, hml, hown, hts⟩, hK, hA⟩ := h
  have hE2 : gE D A s s.heap := hE
  subst hn
  intro H locs ls hP hD hS hl
  exact vk_getf hx hb (hE2.2.1.2.2.2.1 i (Nat.blt_eq ▸ hi)).2.2.1 hS hown (hts _ (hU _ hlk)) (fun _ h9 => h9) hdg (k H locs ls hP hD hS hl)
theorem g_sgetC (i : Nat) (hi : Nat.blt i 18 = true) {index : Nat} (h : gOk Γ cc Ts own) (hE : gEv Γ) (hU : ∀ w ∈ wU, w ∈ Ts) (hdg : decode cc pc = .ok (.getfield index, 3)) (hn : pc + 3 = n) (hlk : Cond.fieldLink own index "java/lang/String" "coder" "B" ∈ wU) (k : G Γ ws kc ks n lv (.int 0 :: st)) : G Γ ws kc ks pc lv (.ref (eK (gD Γ) i) :: st) := by
  obtain ⟨p, l, e, R, s, m, args, below, meth, c, D, Y, A, Q, nL⟩ := Γ
  obtain ⟨⟨hx, hb, hml, hown, hts⟩, hK, hA⟩ := h
  have hE2 : gE D A s s.heap := hE
  subst hn
  intro H locs ls hP hD hS hl
  exact vk_getf hx hb (hE2.2.1.2.2.2.1 i (Nat.blt_eq ▸ hi)).2.1 hS hown (hts _ (hU _ hlk)) (fun _ h9 => h9) hdg (k H locs ls hP hD hS hl)
theorem g_slen (i : Nat) (hi : Nat.blt i 18 = true) {v : Int32} (h : gOk Γ cc Ts own) (hE : gEv Γ) (hdg : decode cc pc = .ok (.arraylength, 1)) (hn : pc + 1 = n) (hv : Int32.ofNat (sLen.getD i 0) = v) (k : G Γ ws kc ks n lv (.int v :: st)) : G Γ ws kc ks pc lv (.ref (eV (gD Γ) i) :: st) := by
  obtain ⟨p, l, e, R, s, m, args, below, meth, c, D, Y, A, Q, nL⟩ := Γ
  obtain ⟨⟨hx, hb, hml, hown, hts⟩, hK, hA⟩ := h
  have hE2 : gE D A s s.heap := hE
  subst hn
  intro H locs ls hP hD hS hl
  exact va_tlen hx hb (hE2.2.1.2.2.2.1 i (Nat.blt_eq ▸ hi)).2.2.2 hS hv hdg (k H locs ls hP hD hS hl)
theorem g_sld (i : Nat) (hi : Nat.blt i 18 = true) {j v : Int32} (h : gOk Γ cc Ts own) (hE : gEv Γ) (hdg : decode cc pc = .ok (.baload, 1)) (hn : pc + 1 = n) (hj : vp_in j (sLen.getD i 0)) (hv : (sByt.getD i []).getD j.toNatClampNeg 0 = v) (k : G Γ ws kc ks n lv (.int v :: st)) : G Γ ws kc ks pc lv (.int j :: .ref (eV (gD Γ) i) :: st) := by
  obtain ⟨p, l, e, R, s, m, args, below, meth, c, D, Y, A, Q, nL⟩ := Γ
  obtain ⟨⟨hx, hb, hml, hown, hts⟩, hK, hA⟩ := h
  have hE2 : gE D A s s.heap := hE
  subst hn
  subst hv
  intro H locs ls hP hD hS hl
  exact va_tb hx hb (hE2.2.1.2.2.2.1 i (Nat.blt_eq ▸ hi)).2.2.2 hS hj rfl hdg (k H locs ls hP hD hS hl)
theorem g_scallV (i : Nat) (hi : Nat.blt i 18 = true) {post : Option Value → va_W → Prop} {ret : Option FieldType} {y : MethodName} {bytes : ByteArray} {maxL index mc ms na : Nat} {rm : Room} {As rest : List Value} (h : gOk Γ cc Ts own) (hE : gEv Γ) (hU : ∀ w ∈ wU, w ∈ Ts) {Yc : List (ClassId × FieldType)} (hYY : gY Γ = Yc) (hdg : decode cc pc = .ok (.invokevirtual index, 3)) (hn : pc + 3 = n) (hy : yV y bytes maxL ret "java/lang/String" na) (hlk : Cond.methodLink own index y ∈ wU)
    (hM : Mc (gLa Γ) y (wM y bytes maxL ret) rm (gD Γ) Yc (.ref (eK (gD Γ) i) :: As) ws post mc ms) (hrm : rm.cells = mc ∧ rm.slots = ms) (hR : rm.frames + 1 ≤ (gRm Γ).frames ∧ 8 + (maxL + 11) + rm.locals ≤ (gRm Γ).locals) (hna : As.length = na)
    (hst : st = As.reverse ++ .ref (eK (gD Γ) i) :: rest) (hcat : (rest.map fun v => v.category).sum ≤ 8) (hcells : kc + mc ≤ (gRm Γ).cells ∧ ks + ms ≤ (gRm Γ).slots)
    (k : ∀ (v : Option Value) (w1 : va_W), post v w1 → G Γ w1 (kc + mc) (ks + ms) n lv (v.toList ++ rest)) : G Γ ws kc ks pc lv st := by
  obtain ⟨p, l, e, R, s, m, args, below, meth, c, D, Y, A, Q, nL⟩ := Γ
  obtain ⟨⟨hx, hb, hml, hown, hts⟩, hK, hA⟩ := h
  obtain ⟨y1, y2, y3, y4, y5⟩ := hy
  have hE2 : gE D A s s.heap := hE
  subst hYY
  subst hn
  subst hst
  intro H locs ls hP hD hS hl
  have hP0 : va_P D vwCl ([] ++ ws ++ []) H := by simpa using hP
  have hD0 : va_D A ([] ++ ws ++ []) := by simpa using hD
  have hFc : ∀ q, va_A ws H.size q → A q := wj_free hD0 hS hA
  have hEc : gE D (va_A ws H.size) s H := (gE.kept hS.2.1 hE2).narrow hFc
  have hGo : GoodIn Ts (wsV own index "java/lang/String" y (wM y bytes maxL ret)) := wU_all (fun w hw => by
    rcases List.mem_append.mp hw with h9 | h9
    · simp only [List.mem_cons, List.not_mem_nil, or_false] at h9
      rcases h9 with rfl | rfl | rfl | rfl
      · exact hlk
      · exact y1
      · exact y2
      · exact y3
    · exact wM_all y4 w h9) hU
  refine run_go (va_runV (As := As) (rest := rest) ⟨hx, hb, hml, hown, hts⟩ (hM H.size) (cwV na hts hGo rfl hrm.1 hrm.2 y5 hR) ⟨pw_blind, vk_recv hE2.2.1.2.2.2 (Nat.blt_eq ▸ hi) hS, fun U hU1 hW => ⟨rfl, by rw [hU1], by rw [hU1]; exact hP, va_K.moved hW.alike hK, hD.weaken (fun _ _ _ _ => trivial), by rw [hU1]; exact hEc.warm hW⟩⟩ rfl hna hl.1 rfl (lv_room hcat) hdg hcells) hS (fun q _ h9 => hFc q h9) hFc (fun v w1 H1 locs1 hp hP1 hD1 hz hk1 hS1 => ?_)
  obtain ⟨hP2, hD2⟩ := wj_join hP0 hD0 hk1 hFc hP1 hD1
  exact k v w1 hp H1 locs1 ls (by simpa using hP2) (by simpa using hD2) hS1 hl
end GV
theorem sTab_len : ∀ i, i < 18 → sLen.getD i 0 = (sByt.getD i []).length ∧ sLen.getD i 0 ≤ 20 := by decide +kernel
theorem sTab_ch : ∀ i, i < 18 → ∀ j, j < 20 → (((sByt.getD i []).getD j 0 &&& 255).toUInt32 % 65536).toInt32 = (sByt.getD i []).getD j 0 ∧ narrow .char (.int ((sByt.getD i []).getD j 0)) = .int ((sByt.getD i []).getD j 0) := by decide +kernel
