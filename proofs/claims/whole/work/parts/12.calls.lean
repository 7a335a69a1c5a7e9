/-! calls: the callee's contract over its world, the rest of the world unchanged -/
section CR
variable {p : Program} {l : Launch} {e : Env} {R : Room} {s : State} {m : MethodId} {args : Array Value} {below : List Frame} {meth : Method} {c : Code} {H : Heap} {locs : List Loc} {cells slots : Nat} {Q : State → Prop}
theorem run_go {D : va_G} {Y : List (ClassId × FieldType)} {A0 A1 : Nat → Prop} {H0 : Heap} {post : Option Value → va_W → Prop} {a : Array Value} {free : Addr → Prop} {mc ms pc : Nat} {ls : Array Slot} {st0 rest : List Value} (hr : va_Run p l e R s m args below meth c H locs cells slots mc ms (F0 m pc ls st0) rest (Qg post D Y A1 a) free) (hS : va_S A0 H0 H locs) (hA : ∀ q, q < H.size → A1 q → A0 q) (hf : ∀ q, free q → A0 q)
    (kk : ∀ (v : Option Value) (w1 : va_W) (H1 : Heap) (locs1 : List Loc), post v w1 → va_P D vwCl w1 H1 → va_D A1 w1 → H.size ≤ H1.size → (∀ q : Nat, q < H.size → ¬ A1 q → H1[q]? = H[q]?) → va_S A0 H0 H1 locs1 → W p l e R s m args below meth c H1 locs1 (cells + mc) (slots + ms) Q (F0 m (pc + 3) ls (v.toList ++ rest))) : W p l e R s m args below meth c H locs cells slots Q (F0 m pc ls st0) := by
  intro T hT X
  obtain ⟨v, st₀, t, T', L, h0, X', hL, e1, e2, ⟨⟨v2, w1, hv, hp, hP1, hK1, hD1⟩, hz, hk⟩, st⟩ := hr T hT X
  have hv2 : v = v2 := by injection hv
  subst hv2
  rw [h0] at hz hk
  obtain ⟨t2, a1, b1⟩ := kk v w1 T'.heap (locs ++ L) hp (by rw [e1]; exact hP1) hD1 (by rw [e1]; exact hz) (fun q h1 h2 => by rw [e1]; exact hk q h1 h2)
    ⟨Nat.le_trans hS.1 (by rw [e1]; exact hz), fun q h1 h2 => by rw [e1, hk q (Nat.lt_of_lt_of_le h1 hS.1) (fun z => h2 (hA q (Nat.lt_of_lt_of_le h1 hS.1) z))]; exact hS.2.1 q h1 h2, fun q hq => by
      rcases List.mem_append.mp hq with h | h
      · exact hS.2.2 q h
      · exact hf _ (hL q h)⟩ T' rfl X'
  exact ⟨t2, st t2 a1, b1⟩
end CR
theorem pw_blind {D : va_G} {Y : List (ClassId × FieldType)} {av : List Value} {ws : va_W} {sz : Nat} : FrameBlind (va_Pc av (PW D Y ws sz)) := fun a U g mk q => by
  obtain ⟨q0, q1, qP, qK, qD, qE⟩ := q
  exact ⟨q0, q1, qP, va_K.moved (u := U) (U := U.calling g mk a) (Vm.Alike.refl U.vm) qK, qD, gE.same (u := U) (U := U.calling g mk a) rfl qE⟩
/-- what a caller needs to know of an instance method y of the class C -/
def yV (y : MethodName) (bytes : ByteArray) (maxL : Nat) (ret : Option FieldType) (C : String) (na : Nat) : Prop := Cond.instanceMethod y ∈ wU ∧ Cond.selects C y y ∈ wU ∧ Cond.initialized C ∈ wU ∧ Cond.code y bytes maxL ret ∈ wU ∧ (y.cls = C ∧ y.cls ≠ "java/lang/invoke/MethodHandle" ∧ y.cls ≠ "java/lang/invoke/VarHandle" ∧ (parseMethodDescriptor y.desc).map (fun d => d.parameters.length) = some na)
def yS (y : MethodName) (bytes : ByteArray) (maxL : Nat) (ret : Option FieldType) (na : Nat) : Prop := Cond.static y ∈ wU ∧ Cond.initialized y.cls ∈ wU ∧ Cond.code y bytes maxL ret ∈ wU ∧ (y.cls ≠ "java/lang/invoke/MethodHandle" ∧ y.cls ≠ "java/lang/invoke/VarHandle" ∧ (parseMethodDescriptor y.desc).map (fun d => d.parameters.length) = some na)
def yI (y : MethodName) (bytes : ByteArray) (maxL : Nat) (na : Nat) : Prop := Cond.instanceMethod y ∈ wU ∧ Cond.initialized y.cls ∈ wU ∧ Cond.code y bytes maxL none ∈ wU ∧ y.name = "<init>" ∧ (y.cls ≠ "java/lang/invoke/MethodHandle" ∧ y.cls ≠ "java/lang/invoke/VarHandle" ∧ (parseMethodDescriptor y.desc).map (fun d => d.parameters.length) = some na)
theorem wU_all {ws : List Cond} (h : ∀ w ∈ ws, w ∈ wU) {Ts : List Cond} (hU : ∀ w ∈ wU, w ∈ Ts) : GoodIn Ts ws := fun w hw => ⟨hU w (h w hw), good_of_word (wU_good w (h w hw))⟩
theorem wM_all {y : MethodName} {bytes : ByteArray} {maxL : Nat} {ret : Option FieldType} (h : Cond.code y bytes maxL ret ∈ wU) : ∀ w ∈ wM y bytes maxL ret, w ∈ wU := fun w hw => by
  rcases List.mem_cons.mp hw with e | e
  · exact e ▸ h
  · exact e
section GC
variable {Γ : gT} {wa wc wb : va_W} {kc ks pc n : Nat} {lv : List (Nat × Value)} {st : List Value} {cc : ByteArray} {Ts : List Cond} {own : String} {post : Option Value → va_W → Prop} {ret : Option FieldType} {y : MethodName} {bytes : ByteArray} {maxL index mc ms na : Nat} {rm : Room} {C : String} {b : Nat} {As rest : List Value}
theorem g_callV (wa wb : va_W) (h : gOk Γ cc Ts own) (hE : gEv Γ) (hU : ∀ w ∈ wU, w ∈ Ts) {Yc : List (ClassId × FieldType)} (hYY : gY Γ = Yc) (hdg : decode cc pc = .ok (.invokevirtual index, 3)) (hn : pc + 3 = n) (hy : yV y bytes maxL ret C na) (hlk : Cond.methodLink own index y ∈ wU)
    (hM : Mc (gLa Γ) y (wM y bytes maxL ret) rm (gD Γ) Yc (.ref b :: As) wc post mc ms) (hrm : rm.cells = mc ∧ rm.slots = ms) (hR : rm.frames + 1 ≤ (gRm Γ).frames ∧ 8 + (maxL + 11) + rm.locals ≤ (gRm Γ).locals) (hna : As.length = na)
    {ci q0 : Nat} {fs : List Value} {cq : vw_C} (hq : wc[q0]? = some (b, .inr (ci, fs))) (hci : vwCl[ci]? = some cq) (hcq : cq.1 = C) (hst : st = As.reverse ++ .ref b :: rest) (hcat : (rest.map fun v => v.category).sum ≤ 8) (hcells : kc + mc ≤ (gRm Γ).cells ∧ ks + ms ≤ (gRm Γ).slots)
    (k : ∀ (v : Option Value) (w1 : va_W), post v w1 → G Γ (wa ++ w1 ++ wb) (kc + mc) (ks + ms) n lv (v.toList ++ rest)) : G Γ (wa ++ wc ++ wb) kc ks pc lv st := by
  obtain ⟨p, l, e, R, s, m, args, below, meth, c, D, Y, A, Q, nL⟩ := Γ
  obtain ⟨⟨hx, hb, hml, hown, hts⟩, hK, hA⟩ := h
  obtain ⟨y1, y2, y3, y4, y5⟩ := hy
  subst hYY
  subst hn
  subst hst
  subst hcq
  intro H locs ls hP hD hS hl
  have hPc := wj_mid hP
  have hDc := wj_midD hD
  have hFc : ∀ q, va_A wc H.size q → A q := wj_free hD hS hA
  have hEc : gE D (va_A wc H.size) s H := (gE.kept hS.2.1 (show gE D A s s.heap from hE)).narrow hFc
  have hGo : GoodIn Ts (wsV own index cq.1 y (wM y bytes maxL ret)) := wU_all (fun w hw => by
    rcases List.mem_append.mp hw with h9 | h9
    · simp only [List.mem_cons, List.not_mem_nil, or_false] at h9
      rcases h9 with rfl | rfl | rfl | rfl
      · exact hlk
      · exact y1
      · exact y2
      · exact y3
    · exact wM_all y4 w h9) hU
  refine run_go (va_runV (As := As) (rest := rest) ⟨hx, hb, hml, hown, hts⟩ (hM H.size) (cwV na hts hGo rfl hrm.1 hrm.2 y5 hR) ⟨pw_blind, va_recv hK hPc hci hq, fun U hU1 hW => ⟨rfl, by rw [hU1], by rw [hU1]; exact hPc, va_K.moved hW.alike hK, hDc.weaken (fun _ _ _ _ => trivial), by rw [hU1]; exact hEc.warm hW⟩⟩ rfl hna hl.1 rfl (lv_room hcat) hdg hcells) hS (fun q _ h9 => hFc q h9) hFc (fun v w1 H1 locs1 hp hP1 hD1 hz hk1 hS1 => ?_)
  obtain ⟨hP2, hD2⟩ := wj_join hP hD hk1 hFc hP1 hD1
  exact k v w1 hp H1 locs1 ls hP2 hD2 hS1 hl
theorem g_callS (wa wb : va_W) (h : gOk Γ cc Ts own) (hE : gEv Γ) (hU : ∀ w ∈ wU, w ∈ Ts) {Yc : List (ClassId × FieldType)} (hYY : gY Γ = Yc) (hdg : decode cc pc = .ok (.invokestatic index, 3)) (hn : pc + 3 = n) (hy : yS y bytes maxL ret na) (hlk : Cond.methodLink own index y ∈ wU)
    (hM : Mc (gLa Γ) y (wM y bytes maxL ret) rm (gD Γ) Yc As wc post mc ms) (hrm : rm.cells = mc ∧ rm.slots = ms) (hR : rm.frames + 1 ≤ (gRm Γ).frames ∧ 8 + (maxL + 11) + rm.locals ≤ (gRm Γ).locals) (hna : As.length = na)
    (hst : st = As.reverse ++ rest) (hcat : (rest.map fun v => v.category).sum ≤ 8) (hcells : kc + mc ≤ (gRm Γ).cells ∧ ks + ms ≤ (gRm Γ).slots)
    (k : ∀ (v : Option Value) (w1 : va_W), post v w1 → G Γ (wa ++ w1 ++ wb) (kc + mc) (ks + ms) n lv (v.toList ++ rest)) : G Γ (wa ++ wc ++ wb) kc ks pc lv st := by
  obtain ⟨p, l, e, R, s, m, args, below, meth, c, D, Y, A, Q, nL⟩ := Γ
  obtain ⟨⟨hx, hb, hml, hown, hts⟩, hK, hA⟩ := h
  obtain ⟨y1, y3, y4, y5⟩ := hy
  subst hYY
  subst hn
  subst hst
  intro H locs ls hP hD hS hl
  have hPc := wj_mid hP
  have hDc := wj_midD hD
  have hFc : ∀ q, va_A wc H.size q → A q := wj_free hD hS hA
  have hEc : gE D (va_A wc H.size) s H := (gE.kept hS.2.1 (show gE D A s s.heap from hE)).narrow hFc
  have hGo : GoodIn Ts (va_wsS own index y (wM y bytes maxL ret)) := wU_all (fun w hw => by
    rcases List.mem_append.mp hw with h9 | h9
    · simp only [List.mem_cons, List.not_mem_nil, or_false] at h9
      rcases h9 with rfl | rfl | rfl
      · exact hlk
      · exact y1
      · exact y3
    · exact wM_all y4 w h9) hU
  refine run_go (va_runS (As := As) (rest := rest) ⟨hx, hb, hml, hown, hts⟩ (hM H.size) (va_cwS na hts hGo rfl hrm.1 hrm.2 y5 hR) ⟨pw_blind, fun U hU1 hW => ⟨rfl, by rw [hU1], by rw [hU1]; exact hPc, va_K.moved hW.alike hK, hDc.weaken (fun _ _ _ _ => trivial), by rw [hU1]; exact hEc.warm hW⟩⟩ rfl hna hl.1 rfl (lv_room hcat) hdg hcells) hS (fun q _ h9 => hFc q h9) hFc (fun v w1 H1 locs1 hp hP1 hD1 hz hk1 hS1 => ?_)
  obtain ⟨hP2, hD2⟩ := wj_join hP hD hk1 hFc hP1 hD1
  exact k v w1 hp H1 locs1 ls hP2 hD2 hS1 hl
theorem g_callI (wa wb : va_W) (h : gOk Γ cc Ts own) (hE : gEv Γ) (hU : ∀ w ∈ wU, w ∈ Ts) {Yc : List (ClassId × FieldType)} (hYY : gY Γ = Yc) (hdg : decode cc pc = .ok (.invokespecial index, 3)) (hn : pc + 3 = n) (hy : yI y bytes maxL na) (hlk : Cond.methodLink own index y ∈ wU)
    (hM : Mc (gLa Γ) y (wM y bytes maxL none) rm (gD Γ) Yc (.ref b :: As) wc post mc ms) (hrm : rm.cells = mc ∧ rm.slots = ms) (hR : rm.frames + 1 ≤ (gRm Γ).frames ∧ 8 + (maxL + 11) + rm.locals ≤ (gRm Γ).locals) (hna : As.length = na)
    (hst : st = As.reverse ++ .ref b :: rest) (hcat : (rest.map fun v => v.category).sum ≤ 8) (hcells : kc + mc ≤ (gRm Γ).cells ∧ ks + ms ≤ (gRm Γ).slots)
    (k : ∀ (v : Option Value) (w1 : va_W), post v w1 → G Γ (wa ++ w1 ++ wb) (kc + mc) (ks + ms) n lv (v.toList ++ rest)) : G Γ (wa ++ wc ++ wb) kc ks pc lv st := by
  obtain ⟨p, l, e, R, s, m, args, below, meth, c, D, Y, A, Q, nL⟩ := Γ
  obtain ⟨⟨hx, hb, hml, hown, hts⟩, hK, hA⟩ := h
  obtain ⟨y1, y3, y4, y6, y5⟩ := hy
  subst hYY
  subst hn
  subst hst
  intro H locs ls hP hD hS hl
  have hPc := wj_mid hP
  have hDc := wj_midD hD
  have hFc : ∀ q, va_A wc H.size q → A q := wj_free hD hS hA
  have hEc : gE D (va_A wc H.size) s H := (gE.kept hS.2.1 (show gE D A s s.heap from hE)).narrow hFc
  have hGo : GoodIn Ts (wM y bytes maxL none) := wU_all (wM_all y4) hU
  refine run_go (va_runI (As := As) (rest := rest) ⟨hx, hb, hml, hown, hts⟩ (hM H.size) (cwI na hts hGo rfl hrm.1 hrm.2 (hts _ (hU _ y3)) (hts _ (hU _ hlk)) (hts _ (hU _ y1)) y6 y5 hR) ⟨pw_blind, fun U hU1 hW => ⟨rfl, by rw [hU1], by rw [hU1]; exact hPc, va_K.moved hW.alike hK, hDc.weaken (fun _ _ _ _ => trivial), by rw [hU1]; exact hEc.warm hW⟩⟩ rfl hna hl.1 rfl (lv_room hcat) hdg hcells) hS (fun q _ h9 => hFc q h9) hFc (fun v w1 H1 locs1 hp hP1 hD1 hz hk1 hS1 => ?_)
  obtain ⟨hP2, hD2⟩ := wj_join hP hD hk1 hFc hP1 hD1
  exact k v w1 hp H1 locs1 ls hP2 hD2 hS1 hl
/-- the same where the callee's world is the whole world -/
theorem g_callV0 (h : gOk Γ cc Ts own) (hE : gEv Γ) (hU : ∀ w ∈ wU, w ∈ Ts) {Yc : List (ClassId × FieldType)} (hYY : gY Γ = Yc) (hdg : decode cc pc = .ok (.invokevirtual index, 3)) (hn : pc + 3 = n) (hy : yV y bytes maxL ret C na) (hlk : Cond.methodLink own index y ∈ wU)
    (hM : Mc (gLa Γ) y (wM y bytes maxL ret) rm (gD Γ) Yc (.ref b :: As) wc post mc ms) (hrm : rm.cells = mc ∧ rm.slots = ms) (hR : rm.frames + 1 ≤ (gRm Γ).frames ∧ 8 + (maxL + 11) + rm.locals ≤ (gRm Γ).locals) (hna : As.length = na)
    {ci q0 : Nat} {fs : List Value} {cq : vw_C} (hq : wc[q0]? = some (b, .inr (ci, fs))) (hci : vwCl[ci]? = some cq) (hcq : cq.1 = C) (hst : st = As.reverse ++ .ref b :: rest) (hcat : (rest.map fun v => v.category).sum ≤ 8) (hcells : kc + mc ≤ (gRm Γ).cells ∧ ks + ms ≤ (gRm Γ).slots)
    (k : ∀ (v : Option Value) (w1 : va_W), post v w1 → G Γ w1 (kc + mc) (ks + ms) n lv (v.toList ++ rest)) : G Γ wc kc ks pc lv st := by
  have := g_callV [] [] h hE hU hYY hdg hn hy hlk hM hrm hR hna hq hci hcq hst hcat hcells (fun v w1 hp => by simpa using k v w1 hp)
  simpa using this
theorem g_callS0 (h : gOk Γ cc Ts own) (hE : gEv Γ) (hU : ∀ w ∈ wU, w ∈ Ts) {Yc : List (ClassId × FieldType)} (hYY : gY Γ = Yc) (hdg : decode cc pc = .ok (.invokestatic index, 3)) (hn : pc + 3 = n) (hy : yS y bytes maxL ret na) (hlk : Cond.methodLink own index y ∈ wU)
    (hM : Mc (gLa Γ) y (wM y bytes maxL ret) rm (gD Γ) Yc As wc post mc ms) (hrm : rm.cells = mc ∧ rm.slots = ms) (hR : rm.frames + 1 ≤ (gRm Γ).frames ∧ 8 + (maxL + 11) + rm.locals ≤ (gRm Γ).locals) (hna : As.length = na)
    (hst : st = As.reverse ++ rest) (hcat : (rest.map fun v => v.category).sum ≤ 8) (hcells : kc + mc ≤ (gRm Γ).cells ∧ ks + ms ≤ (gRm Γ).slots)
    (k : ∀ (v : Option Value) (w1 : va_W), post v w1 → G Γ w1 (kc + mc) (ks + ms) n lv (v.toList ++ rest)) : G Γ wc kc ks pc lv st := by
  have := g_callS [] [] h hE hU hYY hdg hn hy hlk hM hrm hR hna hst hcat hcells (fun v w1 hp => by simpa using k v w1 hp)
  simpa using this
theorem g_callI0 (h : gOk Γ cc Ts own) (hE : gEv Γ) (hU : ∀ w ∈ wU, w ∈ Ts) {Yc : List (ClassId × FieldType)} (hYY : gY Γ = Yc) (hdg : decode cc pc = .ok (.invokespecial index, 3)) (hn : pc + 3 = n) (hy : yI y bytes maxL na) (hlk : Cond.methodLink own index y ∈ wU)
    (hM : Mc (gLa Γ) y (wM y bytes maxL none) rm (gD Γ) Yc (.ref b :: As) wc post mc ms) (hrm : rm.cells = mc ∧ rm.slots = ms) (hR : rm.frames + 1 ≤ (gRm Γ).frames ∧ 8 + (maxL + 11) + rm.locals ≤ (gRm Γ).locals) (hna : As.length = na)
    (hst : st = As.reverse ++ .ref b :: rest) (hcat : (rest.map fun v => v.category).sum ≤ 8) (hcells : kc + mc ≤ (gRm Γ).cells ∧ ks + ms ≤ (gRm Γ).slots)
    (k : ∀ (v : Option Value) (w1 : va_W), post v w1 → G Γ w1 (kc + mc) (ks + ms) n lv (v.toList ++ rest)) : G Γ wc kc ks pc lv st := by
  have := g_callI [] [] h hE hU hYY hdg hn hy hlk hM hrm hR hna hst hcat hcells (fun v w1 hp => by simpa using k v w1 hp)
  simpa using this
theorem g_objInit {a : Nat} {ws : va_W} (h : gOk Γ cc Ts own) (hdg : decode cc pc = .ok (.invokespecial index, 3)) (hn : pc + 3 = n) (hlk : Cond.methodLink own index Lib.objectInit ∈ Ts) (hin : Cond.instanceMethod Lib.objectInit ∈ Ts) (hcd : Cond.code Lib.objectInit ⟨#[0xb1]⟩ 1 none ∈ Ts) (hf : 1 ≤ (gRm Γ).frames) (hcat : (rest.map fun v => v.category).sum ≤ 8) (hlo : 20 ≤ (gRm Γ).locals) (k : G Γ ws kc ks n lv rest) : G Γ ws kc ks pc lv (.ref a :: rest) := by
  obtain ⟨p, l, e, R, s, m, args, below, meth, c, D, Y, A, Q, nL⟩ := Γ
  obtain ⟨⟨hx, hb, hml, hown, hts⟩, hK, hA⟩ := h
  subst hn
  intro H locs ls hP hD hS hl
  refine W.objInit hx hb hown (hts _ hlk) (hts _ hin) (hts _ hcd) rfl (by rw [hml]; exact hl.1) rfl hdg hf ?_ (k H locs ls hP hD hS hl)
  have := lv_room (m := m) (pc := pc) (ls := ls) (rest := .ref a :: rest) hcat
  have hlo2 : 20 ≤ R.locals := hlo
  omega
end GC
