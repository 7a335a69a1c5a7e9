/-! methods that throw, methods that catch -/
def nC : String := "java/lang/NegativeArraySizeException"
def aC : String := "java/lang/ArithmeticException"
def xA : List Cond := vx_atS RX7 103 RJx00060 ["java/lang/IndexOutOfBoundsException", "java/lang/RuntimeException", "java/lang/Exception"]
def xZ : List Cond := vx_atS RX7 149 aC ["java/lang/RuntimeException", "java/lang/Exception"]
def xN : List Cond := vx_atS RX7 154 RJxde1cd ["java/lang/RuntimeException", "java/lang/Exception"]
def tB : List Cond := (xA ++ xZ ++ xN).filter (fun w => !goodWord w)
def isDC : Cond → Bool
  | .declares _ => true
  | .castable _ _ => true
  | _ => false
theorem tB_dc : ∀ w ∈ tB, isDC w = true := by decide +kernel
theorem dc_on {w : Cond} (h : isDC w = true) : w.onTables = true := by
  cases w with
  | declares x => rfl
  | castable a b => rfl
  | _ => exact absurd h (by simp [isDC])
theorem dc_moved {w : Cond} (h : isDC w = true) {u U : State} (hvm : u.vm.Alike U.vm) (hb : w.before #[] u = true) : w.before #[] U = true := by
  cases w with
  | declares x => exact va_tabs rfl (rfl : (u.setVm U.vm).vm = U.vm) (by rw [Cond.declares_setVm hvm]; exact hb)
  | castable a b => exact va_tabs rfl (rfl : (u.setVm U.vm).vm = U.vm) (by rw [Cond.castable_setVm hvm]; exact hb)
  | _ => exact absurd h (by simp [isDC])
def tW (U : State) : Prop := ∀ w ∈ tB, w.before #[] U = true
/-- what a throw needs of what lies outside the worlds -/
def tE (A : Nat → Prop) (U : State) (H : Heap) : Prop := vx_Zq Bundle.tN "UNASSIGNED_STACK" Bundle.steD A U H ∧ vx_Zq Bundle.tN "SUPPRESSED_SENTINEL" Bundle.listD A U H ∧ va_Nc nC aC U ∧ tW U
theorem tE.moved {A : Nat → Prop} {u U : State} {H : Heap} (hvm : u.vm.Alike U.vm) (h : tE A u H) : tE A U H := ⟨h.1.moved hvm, h.2.1.moved hvm, h.2.2.1.moved hvm, fun w hw => dc_moved (tB_dc w hw) hvm (h.2.2.2 w hw)⟩
theorem tE.kept {A : Nat → Prop} {U : State} {H H1 : Heap} (hk : ∀ q : Nat, q < H.size → ¬ A q → H1[q]? = H[q]?) (h : tE A U H) : tE A U H1 := ⟨h.1.kept hk, h.2.1.kept hk, h.2.2⟩
theorem tE.narrow {A A1 : Nat → Prop} {U : State} {H : Heap} (hA : ∀ q : Nat, A1 q → A q) (h : tE A U H) : tE A1 U H := ⟨h.1.narrow hA, h.2.1.narrow hA, h.2.2⟩
def PWx (D : va_G) (Y : List (ClassId × FieldType)) (ws : va_W) (sz : Nat) (U : State) : Prop := PW D Y ws sz U ∧ tE (va_A ws sz) U U.heap
theorem pwx_blind {D : va_G} {Y : List (ClassId × FieldType)} {av : List Value} {ws : va_W} {sz : Nat} : FrameBlind (va_Pc av (PWx D Y ws sz)) := fun a U g mk q => by
  obtain ⟨q0, ⟨q1, qP, qK, qD, qE⟩, qT⟩ := q
  exact ⟨q0, ⟨q1, qP, va_K.moved (u := U) (U := U.calling g mk a) (Vm.Alike.refl U.vm) qK, qD, gE.same (u := U) (U := U.calling g mk a) rfl qE⟩, tE.moved (u := U) (U := U.calling g mk a) (Vm.Alike.refl U.vm) qT⟩
def xC (postX : String → va_W → Prop) (D : va_G) (Y : List (ClassId × FieldType)) (A : Nat → Prop) : String → State → State → Prop := fun E st t => (∃ ws1 : va_W, postX E ws1 ∧ va_P D vwCl ws1 t.heap ∧ va_K D vwCl Y t ∧ va_D A ws1) ∧ va_F A st t
/-- the contract of a method that returns or throws -/
def McX (l : Launch) (y : MethodName) (wm : List Cond) (rm : Room) (D : va_G) (Y : List (ClassId × FieldType)) (av : List Value) (ws : va_W) (post : Option Value → va_W → Prop) (postX : String → va_W → Prop) (mc ms : Nat) : Prop := ∀ sz : Nat, vx_Met l y wm rm (va_Pc av (PWx D Y ws sz)) (Qg post D Y (va_A ws sz)) (xC postX D Y (va_A ws sz)) mc ms (va_A ws sz)
def gRetX : gT → Option FieldType → (Option Value → va_W → Prop) → (String → va_W → Prop) → Nat → Nat → Prop
  | (_, _, _, _, s, _, args, below, meth, _, D, Y, A, Q, _), ret, post, postX, mc, ms => meth.sig.returnType = ret ∧ meth.locks = false ∧ Q = vx_MQ below (Qg post D Y A) (xC postX D Y A) args s mc ms A
def gTv : gT → Prop
  | (_, _, _, _, s, _, _, _, _, _, _, _, A, _, _) => tE A s s.heap
def gTb : gT → List (Nat × Nat × Nat × Nat) → Prop
  | (_, _, _, _, _, _, _, _, _, c, _, _, _, _, _), hh => c.exceptionTable.toList = tableOf hh
theorem mx_start {l : Launch} {y : MethodName} {rm : Room} {mc ms : Nat} {cc : ByteArray} {maxL : Nat} {ret : Option FieldType} {D : va_G} {Y : List (ClassId × FieldType)} {av : List Value} {ws : va_W} {post : Option Value → va_W → Prop} {postX : String → va_W → Prop} {lv : List (Nat × Value)} (hy : plainName y.cls = true) (hav : (lg_sl av).length ≤ maxL) (hlv : lv_args 0 av = lv)
    (body : ∀ Γ : gT, gOk Γ cc (wM y cc maxL ret) y.cls → gRm Γ = rm → gnL Γ = maxL → gY Γ = Y → gD Γ = D → gLa Γ = l → gRetX Γ ret post postX mc ms → gTb Γ [] → gEv Γ → gTv Γ → G Γ ws 0 0 0 lv []) : McX l y (wM y cc maxL ret) rm D Y av ws post postX mc ms := by
  intro sz
  refine vx_ofW (cc := cc) (maxL := maxL) (ret := ret) hy rfl ?_
  intro p e s m args below meth c s₁ B hml htab hv
  obtain ⟨rfl, ⟨hsz, hP, hK, hD0, hE⟩, hT⟩ := hv
  subst hsz
  have hx := B.exec
  have hb := B.bytes
  have hr := B.returns
  have hts := atoms_spec (ws := wM y cc maxL ret) B.pre
  have hown : s.vm.findClass y.cls = some m.cls := findClass_of_methodNamed B.named
  have hlocks := B.notSynchronized
  have hD := hD0.self (sz := s.heap.size)
  have hl := lv_entry av (n := maxL) hav
  have htb : c.exceptionTable.toList = tableOf [] := by
    cases hq : c.exceptionTable.toList with
    | nil => rfl
    | cons a t => exact (htab a (by rw [hq]; exact List.mem_cons_self)).elim
  rw [lg_entry_eq]
  rw [hlv] at hl
  have hb2 := body (p, l, e, (headSpec (wM y cc maxL ret) rm).room, s, m, av.toArray, below, meth, c, D, Y, va_A ws s.heap.size, vx_MQ below (Qg post D Y (va_A ws s.heap.size)) (xC postX D Y (va_A ws s.heap.size)) av.toArray s mc ms (va_A ws s.heap.size), maxL)
    ⟨⟨hx, hb, hml, hown, hts⟩, hK, fun q h => Or.inr h⟩ rfl rfl rfl rfl rfl ⟨hr, hlocks, rfl⟩ htb hE hT
  exact hb2 s.heap [] _ hP hD va_S.rf hl
def wMW (y : MethodName) (cc : ByteArray) (maxL : Nat) (ret : Option FieldType) (hh : List (Nat × Nat × Nat × Nat)) : List Cond := Cond.codeWith y cc maxL ret hh :: wU
theorem mw_start {l : Launch} {y : MethodName} {rm : Room} {mc ms : Nat} {cc : ByteArray} {maxL : Nat} {ret : Option FieldType} {hh : List (Nat × Nat × Nat × Nat)} {D : va_G} {Y : List (ClassId × FieldType)} {av : List Value} {ws : va_W} {post : Option Value → va_W → Prop} {postX : String → va_W → Prop} {lv : List (Nat × Value)} (hy : plainName y.cls = true) (hav : (lg_sl av).length ≤ maxL) (hlv : lv_args 0 av = lv)
    (body : ∀ Γ : gT, gOk Γ cc (wMW y cc maxL ret hh) y.cls → gRm Γ = rm → gnL Γ = maxL → gY Γ = Y → gD Γ = D → gLa Γ = l → gRetX Γ ret post postX mc ms → gTb Γ hh → gEv Γ → gTv Γ → G Γ ws 0 0 0 lv []) : McX l y (wMW y cc maxL ret hh) rm D Y av ws post postX mc ms := by
  intro sz
  refine vx_ofWH (cc := cc) (maxL := maxL) (ret := ret) (hh := hh) hy rfl ?_
  intro p e s m args below meth c s₁ B hml hv
  obtain ⟨rfl, ⟨hsz, hP, hK, hD0, hE⟩, hT⟩ := hv
  subst hsz
  have hx := B.exec
  have hb := B.bytes
  have hr := B.returns
  have hts := atoms_spec (ws := wMW y cc maxL ret hh) B.pre
  have hown : s.vm.findClass y.cls = some m.cls := findClass_of_methodNamed B.named
  have hlocks := B.notSynchronized
  have hD := hD0.self (sz := s.heap.size)
  have hl := lv_entry av (n := maxL) hav
  have htb : c.exceptionTable.toList = tableOf hh := vx_table (x := y) B (hts _ List.mem_cons_self)
  rw [lg_entry_eq]
  rw [hlv] at hl
  have hb2 := body (p, l, e, (headSpec (wMW y cc maxL ret hh) rm).room, s, m, av.toArray, below, meth, c, D, Y, va_A ws s.heap.size, vx_MQ below (Qg post D Y (va_A ws s.heap.size)) (xC postX D Y (va_A ws s.heap.size)) av.toArray s mc ms (va_A ws s.heap.size), maxL)
    ⟨⟨hx, hb, hml, hown, hts⟩, hK, fun q h => Or.inr h⟩ rfl rfl rfl rfl rfl ⟨hr, hlocks, rfl⟩ htb hE hT
  exact hb2 s.heap [] _ hP hD va_S.rf hl
section GXR
variable {Γ : gT} {ws : va_W} {kc ks pc n : Nat} {lv : List (Nat × Value)} {st : List Value} {cc : ByteArray} {Ts : List Cond} {own : String} {post : Option Value → va_W → Prop} {postX : String → va_W → Prop} {ret : Option FieldType}
theorem gx_iret {v : Int32} (h : gOk Γ cc Ts own) (hR : gRetX Γ (some .int) post postX kc ks) (hdg : decode cc pc = .ok (.ireturn, 1)) (hp : post (some (.int v)) ws) : G Γ ws kc ks pc lv [.int v] := by
  obtain ⟨p, l, e, R, s, m, args, below, meth, c, D, Y, A, Q, nL⟩ := Γ
  obtain ⟨⟨hx, hb, hml, hown, hts⟩, hK, hA⟩ := h
  obtain ⟨hr, hlocks, rfl⟩ := hR
  intro H locs ls hP hD hS hl
  exact vx_ret (W.iret hx hb hr (fun t ht hW => ⟨⟨some (.int v), ws, rfl, hp, by rw [ht]; exact hP, va_K.moved hW.alike hK, hD⟩, hS.F ht⟩) hS.2.2 hdg hlocks)
theorem gx_zret {v : Int32} {ty : FieldType} (h : gOk Γ cc Ts own) (hR : gRetX Γ (some ty) post postX kc ks) (hdg : decode cc pc = .ok (.ireturn, 1)) (hn : narrow ty (.int v) = .int v) (hp : post (some (.int v)) ws) : G Γ ws kc ks pc lv [.int v] := by
  obtain ⟨p, l, e, R, s, m, args, below, meth, c, D, Y, A, Q, nL⟩ := Γ
  obtain ⟨⟨hx, hb, hml, hown, hts⟩, hK, hA⟩ := h
  obtain ⟨hr, hlocks, rfl⟩ := hR
  intro H locs ls hP hD hS hl
  exact vx_ret (W.zret hx hb hr hn (fun t ht hW => ⟨⟨some (.int v), ws, rfl, hp, by rw [ht]; exact hP, va_K.moved hW.alike hK, hD⟩, hS.F ht⟩) hS.2.2 hdg hlocks)
theorem gx_lret {v : Int64} (h : gOk Γ cc Ts own) (hR : gRetX Γ (some .long) post postX kc ks) (hdg : decode cc pc = .ok (.lreturn, 1)) (hp : post (some (.long v)) ws) : G Γ ws kc ks pc lv [.long v] := by
  obtain ⟨p, l, e, R, s, m, args, below, meth, c, D, Y, A, Q, nL⟩ := Γ
  obtain ⟨⟨hx, hb, hml, hown, hts⟩, hK, hA⟩ := h
  obtain ⟨hr, hlocks, rfl⟩ := hR
  intro H locs ls hP hD hS hl
  exact vx_ret (W.lret hx hb hr (fun t ht hW => ⟨⟨some (.long v), ws, rfl, hp, by rw [ht]; exact hP, va_K.moved hW.alike hK, hD⟩, hS.F ht⟩) hS.2.2 hdg hlocks)
/-- new, dup, ldc, <init>, athrow, out of the method -/
theorem gx_throw (i : Nat) {cls text : String} {names : List String} {ik is ic mc ms : Nat} (h : gOk Γ cc Ts own) (hU : ∀ w ∈ wU, w ∈ Ts) (hst : (gLa Γ).stackTraces = false) (hE : gEv Γ) (hT : gTv Γ) (hR : gRetX Γ ret post postX mc ms) (hB : gTb Γ []) (hq : sTab[i]? = some (own, is, text)) (hcls : Bundle.fit cls = true) (hnames : ∀ n ∈ names, Bundle.fit n = true) (hk : Cond.classLink own ik cls ∈ wU) (hini : Cond.initialized cls ∈ wU) (hat : ∀ w ∈ (vx_atS own ic cls names).filter goodWord, w ∈ wU) (hat2 : ∀ w ∈ (vx_atS own ic cls names).filter (fun w => !goodWord w), w ∈ tB) (hgood : ∀ w ∈ Cond.classLink own ik cls :: Cond.initialized cls :: vx_atS own ic cls names, vx_ot w = true)
    (d0 : decode cc pc = .ok (.new ik, 3)) (d3 : decode cc (pc + 3) = .ok (.dup, 1)) (d4 : decode cc (pc + 4) = .ok (.ldc is, 2)) (d6 : decode cc (pc + 6) = .ok (.invokespecial ic, 3)) (d9 : decode cc (pc + 9) = .ok (.athrow, 1)) (hfr : names.length + 3 < (gRm Γ).frames) (hlo : (st.map fun v => v.category).sum + (13 * (names.length + 1) + 43) ≤ (gRm Γ).locals) (hc : kc + 1 ≤ (gRm Γ).cells) (hs : ks + 6 ≤ (gRm Γ).slots) (hcm : kc + 1 ≤ mc) (hsm : ks + 6 ≤ ms) (hp : postX cls ws) : G Γ ws kc ks pc lv st := by
  obtain ⟨p, l, e, R, s, m, args, below, meth, c, D, Y, A, Q, nL⟩ := Γ
  obtain ⟨⟨hx, hb, hml, hown, hts⟩, hK, hA⟩ := h
  obtain ⟨hr, hlocks, rfl⟩ := hR
  have hB : c.exceptionTable.toList = [] := hB
  intro H locs ls hP hD hS hl
  refine vx_throwS (A := A) (sa := eK D i) hx hb hst hown hcls hnames (hts _ (hU _ hk)) (hts _ (hU _ hini)) (hE.2.2 i _ hq) (vx_hat (fun w hw => hts _ (hU _ (hat w hw))) hat2 (fun w hw => va_any (dc_on (tB_dc w hw)) (hT.2.2.2 w hw))) hgood hT.1 hT.2.1 hS (hl.1.trans hml.symm) d0 d3 d4 d6 d9 (fun x hx => by rw [hB] at hx; cases hx) hfr hlo hc hs hlocks (fun t ht hz hk => ⟨⟨ws, hp, fun k q hkq => (hP k q hkq).kept (hk q.1 (hP k q hkq).lt), va_K.moved ht hK, hD⟩, Nat.le_trans hS.1 hz, fun q h1 h2 => (hk q (Nat.lt_of_lt_of_le h1 hS.1)).trans (hS.2.1 q h1 h2)⟩) hS.2.2 hcm hsm
end GXR
section GXC
variable {Γ : gT} {kc ks pc n : Nat} {lv : List (Nat × Value)} {st : List Value} {cc : ByteArray} {Ts : List Cond} {own : String} {post : Option Value → va_W → Prop} {postX : String → va_W → Prop} {ret : Option FieldType} {y : MethodName} {bytes : ByteArray} {maxL index mc ms na : Nat} {rm : Room} {C : String} {b : Nat} {As rest : List Value} {wc wb : va_W}
/-- a call of a method that returns or throws, where this method's table takes what is thrown -/
theorem gx_callV (wb : va_W) {hh : List (Nat × Nat × Nat × Nat)} (h : gOk Γ cc Ts own) (hE : gEv Γ) (hT : gTv Γ) (hB : gTb Γ hh) (hU : ∀ w ∈ wU, w ∈ Ts) {Yc : List (ClassId × FieldType)} (hYY : gY Γ = Yc) (hdg : decode cc pc = .ok (.invokevirtual index, 3)) (hn : pc + 3 = n) (hy : yV y bytes maxL ret C na) (hlk : Cond.methodLink own index y ∈ wU)
    (hM : McX (gLa Γ) y (wM y bytes maxL ret) rm (gD Γ) Yc (.ref b :: As) wc post postX mc ms) (hrm : rm.cells = mc ∧ rm.slots = ms) (hR : rm.frames + 1 ≤ (gRm Γ).frames ∧ 8 + (maxL + 11) + rm.locals ≤ (gRm Γ).locals) (hna : As.length = na)
    {ci q0 : Nat} {fs : List Value} {cq : vw_C} (hq : wc[q0]? = some (b, .inr (ci, fs))) (hci : vwCl[ci]? = some cq) (hcq : cq.1 = C) (hst : st = As.reverse ++ .ref b :: rest) (hcat : (rest.map fun v => v.category).sum ≤ 8) (hcells : kc + mc ≤ (gRm Γ).cells ∧ ks + ms ≤ (gRm Γ).slots)
    (k : ∀ (v : Option Value) (w1 : va_W), post v w1 → G Γ (w1 ++ wb) (kc + mc) (ks + ms) n lv (v.toList ++ rest))
    (kx : ∀ (E : String) (w1 : va_W), postX E w1 → ∃ (pre : List ExceptionTableEntry) (x : ExceptionTableEntry) (suf : List ExceptionTableEntry) (name : String), tableOf hh = pre ++ x :: suf ∧ (∀ z ∈ pre, z.catchType ≠ 0 ∧ ∃ nm : String, Cond.classLink own z.catchType nm ∈ wU ∧ E = nC ∧ nm = aC) ∧ covers x pc = true ∧ x.catchType ≠ 0 ∧ Cond.classLink own x.catchType name ∈ wU ∧ Cond.castable E name ∈ tB ∧ ∀ q : Nat, G Γ (w1 ++ wb) (kc + mc) (ks + ms) x.handlerPc lv [.ref q]) : G Γ (wc ++ wb) kc ks pc lv st := by
  obtain ⟨p, l, e, R, s, m, args, below, meth, c, D, Y, A, Q, nL⟩ := Γ
  obtain ⟨⟨hx, hb, hml, hown, hts⟩, hK, hA⟩ := h
  obtain ⟨y1, y2, y3, y4, y5⟩ := hy
  subst hYY
  subst hn
  subst hst
  subst hcq
  intro H locs ls hP hD hS hl
  have hP' : va_P D vwCl ([] ++ wc ++ wb) H := by simpa using hP
  have hD' : va_D A ([] ++ wc ++ wb) := by simpa using hD
  have hPc := wj_mid hP'
  have hDc := wj_midD hD'
  have hFc : ∀ q, va_A wc H.size q → A q := wj_free hD' hS hA
  have hEc : gE D (va_A wc H.size) s H := (gE.kept hS.2.1 (show gE D A s s.heap from hE)).narrow hFc
  have hTc : tE (va_A wc H.size) s H := (tE.kept hS.2.1 (show tE A s s.heap from hT)).narrow hFc
  have hGo : GoodIn Ts (wsV own index cq.1 y (wM y bytes maxL ret)) := wU_all (fun w hw => by
    rcases List.mem_append.mp hw with h9 | h9
    · simp only [List.mem_cons, List.not_mem_nil, or_false] at h9
      rcases h9 with rfl | rfl | rfl | rfl
      · exact hlk
      · exact y1
      · exact y2
      · exact y3
    · exact wM_all y4 w h9) hU
  have hr := vx_runV (p := p) (e := e) (below := below) (meth := meth) (locs := locs) (cells := kc) (slots := ks) (g := F0 m pc ls (As.reverse ++ .ref b :: rest)) (As := As) (rest := rest) ⟨hx, hb, hml, hown, hts⟩ (hM H.size) (cwV na hts hGo rfl hrm.1 hrm.2 y5 hR) ⟨pwx_blind, va_recv hK hPc hci hq, fun U hU1 hW => ⟨rfl, ⟨by rw [hU1], by rw [hU1]; exact hPc, va_K.moved hW.alike hK, hDc.weaken (fun _ _ _ _ => trivial), by rw [hU1]; exact hEc.warm hW⟩, by rw [hU1]; exact hTc.moved hW.alike⟩⟩ rfl hna hl.1 rfl (lv_room hcat) hdg hcells
  have hfin : ∀ (w1 : va_W) (H1 : Heap), va_P D vwCl w1 H1 → va_D (va_A wc H.size) w1 → (∀ q : Nat, q < H.size → ¬ va_A wc H.size q → H1[q]? = H[q]?) → va_P D vwCl (w1 ++ wb) H1 ∧ va_D A (w1 ++ wb) := fun w1 H1 h1 h2 h3 => by
    have := wj_join hP' hD' h3 hFc h1 h2
    simpa using this
  intro T hTT X
  rcases hr T hTT X with ⟨v, st₀, t, T', L, h0, X', hL, e1, e2, ⟨⟨v2, w1, hv, hp, hP1, hK1, hD1⟩, hF⟩, stp⟩ | ⟨q, st₀, t, T', L, E, ce, h0, X', hL, e1, e2, ⟨⟨w1, hp, hP1, hK1, hD1⟩, hF⟩, hce, hcv, hcl, stp⟩
  · have hv2 : v = v2 := by injection hv
    subst hv2
    obtain ⟨k1, k2, k3⟩ := vx_keep h0 e1 hS (fun q _ h9 => hFc q h9) hFc hL hF
    obtain ⟨hP2, hD2⟩ := hfin w1 T'.heap (by rw [e1]; exact hP1) hD1 k2
    obtain ⟨t2, a1, b1⟩ := k v w1 hp T'.heap (locs ++ L) ls hP2 hD2 k3 hl T' rfl X'
    exact ⟨t2, stp t2 a1, b1⟩
  · obtain ⟨k1, k2, k3⟩ := vx_keep h0 e1 hS (fun q _ h9 => hFc q h9) hFc hL hF
    obtain ⟨hP2, hD2⟩ := hfin w1 T'.heap (by rw [e1]; exact hP1) hD1 k2
    obtain ⟨pre, x, suf, name, t1, t2, t3, t4, t5, t6, t7⟩ := kx E w1 hp
    have hBB : c.exceptionTable.toList = tableOf hh := hB
    have hW := vx_catch (p := p) (l := l) (e := e) (R := R) (args := args) (below := below) (meth := meth) (cells := kc + mc) (slots := ks + ms) (Q := Q) (locs := locs ++ L) (rest := rest) (ls := ls) (pc := pc) hown pre x suf (hBB.trans t1) (fun z hz => by
      obtain ⟨z1, nm, z2, z3, z4⟩ := t2 z hz
      exact Or.inr ⟨z1, nm, hts _ (hU _ z2), by rw [z3, z4]; exact hT.2.2.1⟩) t3 t4 (hts _ (hU _ t5)) (va_any (dc_on (tB_dc _ t6)) (hT.2.2.2 _ t6)) (show T'.heap[q]? = some ce by rw [e1]; exact hce) hcv hcl (t7 q T'.heap (locs ++ L) ls hP2 hD2 k3 hl)
    obtain ⟨t9, a1, b1⟩ := hW T' rfl X'
    exact ⟨t9, stp.trans a1, b1⟩
def ySW (y : MethodName) (bytes : ByteArray) (maxL : Nat) (ret : Option FieldType) (hh : List (Nat × Nat × Nat × Nat)) (na : Nat) : Prop := Cond.static y ∈ wU ∧ Cond.initialized y.cls ∈ wU ∧ Cond.codeWith y bytes maxL ret hh ∈ wU ∧ (y.cls ≠ "java/lang/invoke/MethodHandle" ∧ y.cls ≠ "java/lang/invoke/VarHandle" ∧ (parseMethodDescriptor y.desc).map (fun d => d.parameters.length) = some na)
theorem McX.met {l : Launch} {wm : List Cond} {D : va_G} {Y : List (ClassId × FieldType)} {av : List Value} {ws : va_W} (h : McX l y wm rm D Y av ws post (fun _ _ => False) mc ms) (sz : Nat) : Met l y wm rm (va_Pc av (PWx D Y ws sz)) (Qg post D Y (va_A ws sz)) mc ms (va_A ws sz) := by
  intro p e ha hc hk s m args below hf happ hP hK
  obtain ⟨n, o, h1, h2, h3, h4⟩ := h sz p e ha hc hk s m args below hf happ hP hK
  refine ⟨n, o, h1, h2, h3, ?_⟩
  rcases h4 with h4 | ⟨q, e1, E, ce, L, ⟨⟨w1, h5, -⟩, -⟩, -⟩
  · exact h4
  · exact h5.elim
/-- a static call of a method that has a table and returns -/
theorem gx_callS {hh : List (Nat × Nat × Nat × Nat)} (h : gOk Γ cc Ts own) (hE : gEv Γ) (hT : gTv Γ) (hU : ∀ w ∈ wU, w ∈ Ts) {Yc : List (ClassId × FieldType)} (hYY : gY Γ = Yc) (hdg : decode cc pc = .ok (.invokestatic index, 3)) (hn : pc + 3 = n) (hy : ySW y bytes maxL ret hh na) (hlk : Cond.methodLink own index y ∈ wU)
    (hM : McX (gLa Γ) y (wMW y bytes maxL ret hh) rm (gD Γ) Yc As wc post (fun _ _ => False) mc ms) (hrm : rm.cells = mc ∧ rm.slots = ms) (hR : rm.frames + 1 ≤ (gRm Γ).frames ∧ 8 + (maxL + 11) + rm.locals ≤ (gRm Γ).locals) (hna : As.length = na)
    (hst : st = As.reverse ++ rest) (hcat : (rest.map fun v => v.category).sum ≤ 8) (hcells : kc + mc ≤ (gRm Γ).cells ∧ ks + ms ≤ (gRm Γ).slots)
    (k : ∀ (v : Option Value) (w1 : va_W), post v w1 → G Γ w1 (kc + mc) (ks + ms) n lv (v.toList ++ rest)) : G Γ wc kc ks pc lv st := by
  obtain ⟨p, l, e, R, s, m, args, below, meth, c, D, Y, A, Q, nL⟩ := Γ
  obtain ⟨⟨hx, hb, hml, hown, hts⟩, hK, hA⟩ := h
  obtain ⟨y1, y3, y4, y5⟩ := hy
  subst hYY
  subst hn
  subst hst
  intro H locs ls hP hD hS hl
  have hP' : va_P D vwCl ([] ++ wc ++ []) H := by simpa using hP
  have hD' : va_D A ([] ++ wc ++ []) := by simpa using hD
  have hFc : ∀ q, va_A wc H.size q → A q := wj_free hD' hS hA
  have hEc : gE D (va_A wc H.size) s H := (gE.kept hS.2.1 (show gE D A s s.heap from hE)).narrow hFc
  have hTc : tE (va_A wc H.size) s H := (tE.kept hS.2.1 (show tE A s s.heap from hT)).narrow hFc
  have hGo : GoodIn Ts (va_wsS own index y (wMW y bytes maxL ret hh)) := wU_all (fun w hw => by
    rcases List.mem_append.mp hw with h9 | h9
    · simp only [List.mem_cons, List.not_mem_nil, or_false] at h9
      rcases h9 with rfl | rfl | rfl
      · exact hlk
      · exact y1
      · exact y3
    · rcases List.mem_cons.mp h9 with rfl | h9
      · exact y4
      · exact h9) hU
  refine run_go (vx_runSW (As := As) (rest := rest) ⟨hx, hb, hml, hown, hts⟩ (hM.met H.size) (vx_cwSW na hts hGo rfl hrm.1 hrm.2 y5 hR) ⟨pwx_blind, fun U hU1 hW => ⟨rfl, ⟨by rw [hU1], by rw [hU1]; exact hP, va_K.moved hW.alike hK, hD.weaken (fun _ _ _ _ => trivial), by rw [hU1]; exact hEc.warm hW⟩, by rw [hU1]; exact hTc.moved hW.alike⟩⟩ rfl hna hl.1 rfl (lv_room hcat) hdg hcells) hS (fun q _ h9 => hFc q h9) hFc (fun v w1 H1 locs1 hp hP1 hD1 hz hk1 hS1 => ?_)
  obtain ⟨hP2, hD2⟩ := wj_join hP' hD' hk1 hFc hP1 hD1
  exact k v w1 hp H1 locs1 ls (by simpa using hP2) (by simpa using hD2) hS1 hl
end GXC
section GLW
variable {Γ : gT} {ws : va_W} {kc ks pc n : Nat} {lv : List (Nat × Value)} {st : List Value} {cc : ByteArray} {Ts : List Cond} {own : String}
theorem vp_01 : vp_in 0 1 := by
  have h := vp_in_nI (n := 0) (N := 1) (by decide) (by decide)
  rwa [nI_0] at h
def gSc : gT → Nat → Nat → (Nat → Int32) → Prop
  | (_, _, _, _, s, _, _, _, _, _, _, _, A, _, _), b, L, xs => va_X b L xs s s.heap ∧ b < s.heap.size ∧ ¬ A b
theorem g_scl {b L : Nat} {xs : Nat → Int32} {i v : Int32} (h : gOk Γ cc Ts own) (hX : gSc Γ b L xs) (hdg : decode cc pc = .ok (.iaload, 1)) (hn : pc + 1 = n) (hi : vp_in i L) (hv : xs i.toNatClampNeg = v) (k : G Γ ws kc ks n lv (.int v :: st)) : G Γ ws kc ks pc lv (.int i :: .ref b :: st) := by
  obtain ⟨p, l, e, R, s, m, args, below, meth, c, D, Y, A, Q, nL⟩ := Γ
  obtain ⟨⟨hx, hb, hml, hown, hts⟩, hK, hA⟩ := h
  subst hn
  subst hv
  intro H locs ls hP hD hS hl
  exact va_sld hx hb hX.1 hX.2.1 hX.2.2 hS hi hdg (k H locs ls hP hD hS hl)
theorem g_sclen {b L : Nat} {xs : Nat → Int32} (h : gOk Γ cc Ts own) (hX : gSc Γ b L xs) (hdg : decode cc pc = .ok (.arraylength, 1)) (hn : pc + 1 = n) (k : G Γ ws kc ks n lv (.int (nI L) :: st)) : G Γ ws kc ks pc lv (.ref b :: st) := by
  obtain ⟨p, l, e, R, s, m, args, below, meth, c, D, Y, A, Q, nL⟩ := Γ
  obtain ⟨⟨hx, hb, hml, hown, hts⟩, hK, hA⟩ := h
  subst hn
  intro H locs ls hP hD hS hl
  exact va_slen hx hb hX.1 hX.2.1 hX.2.2 hS hdg (k H locs ls hP hD hS hl)
theorem g_lnew {K : Nat → ClassId} (h : gOk Γ cc Ts own) (hU : ∀ w ∈ wU, w ∈ Ts) (hY : gY Γ = yY K) (hdg : decode cc pc = .ok (.newarray .long, 2)) (hn : pc + 2 = n) (hcells : kc + 1 ≤ (gRm Γ).cells) (hslots : ks + 1 ≤ (gRm Γ).slots) (k : ∀ q : Nat, G Γ (ws ++ [(q, .inl (K 7, 1, .inr (.inl (fun _ => 0))))]) (kc + 1) (ks + 1) n lv (.ref q :: st)) : G Γ ws kc ks pc lv (.int 1 :: st) := by
  obtain ⟨p, l, e, R, s, m, args, below, meth, c, D, Y, A, Q, nL⟩ := Γ
  obtain ⟨⟨hx, hb, hml, hown, hts⟩, hK, hA⟩ := h
  subst hn
  have hY2 : Y = yY K := hY
  intro H locs ls hP hD hS hl
  refine va_newa hx hb (hts _ (hU _ (show Cond.arrayClass (newarray.typeOf .long) ∈ wU from ua_long))) rfl hK hP hD hS hA (fun cA => (rfl : vp_cell cA (1, .inr (.inl (fun _ => 0))) = arrV cA 1 (fun _ => defaultValue .long))) (show ¬ (1 : Int32) < 0 by decide) (show (1 : Int32).toNatClampNeg = 1 from rfl) (by decide) hcells hslots hdg (fun q cA H1 hK1 hP1 hD1 hS1 => ?_)
  rw [K_prim (t0 := 7) hY2 rfl hK1 (Or.inr (Or.inr (Or.inr rfl)))] at hP1 hD1
  exact k q H1 locs ls hP1 hD1 hS1 hl
theorem g_lst {K : Nat → ClassId} {wa : va_W} {a : Nat} {f : Nat → Int64} {x : Int64} (h : gOk Γ cc Ts own) (hY : gY Γ = yY K) (hdg : decode cc pc = .ok (.lastore, 1)) (hn : pc + 1 = n) (k : G Γ (wa ++ [(a, .inl (K 7, 1, .inr (.inl (vp_updL f 0 x))))]) kc ks n lv st) : G Γ (wa ++ [(a, .inl (K 7, 1, .inr (.inl f)))]) kc ks pc lv (.long x :: .int 0 :: .ref a :: st) := by
  obtain ⟨p, l, e, R, s, m, args, below, meth, c, D, Y, A, Q, nL⟩ := Γ
  obtain ⟨⟨hx, hb, hml, hown, hts⟩, hK, hA⟩ := h
  subst hn
  have hY2 : Y = yY K := hY
  intro H locs ls hP hD hS hl
  refine va_last hx hb hK hP hD hS wa.length 7 (by rw [List.getElem?_append_right (Nat.le_refl _), Nat.sub_self]; rfl) (by rw [hY2]; rfl) vp_01 hdg (fun H1 locs1 hP1 hD1 hS1 => ?_)
  rw [List.set_append_right _ _ (Nat.le_refl _), Nat.sub_self] at hP1 hD1
  exact k H1 locs1 ls hP1 hD1 hS1 hl
theorem g_lld {K : Nat → ClassId} {wa : va_W} {a : Nat} {f : Nat → Int64} {v : Int64} (h : gOk Γ cc Ts own) (hY : gY Γ = yY K) (hdg : decode cc pc = .ok (.laload, 1)) (hn : pc + 1 = n) (hv : f 0 = v) (k : G Γ (wa ++ [(a, .inl (K 7, 1, .inr (.inl f)))]) kc ks n lv (.long v :: st)) : G Γ (wa ++ [(a, .inl (K 7, 1, .inr (.inl f)))]) kc ks pc lv (.int 0 :: .ref a :: st) := by
  obtain ⟨p, l, e, R, s, m, args, below, meth, c, D, Y, A, Q, nL⟩ := Γ
  obtain ⟨⟨hx, hb, hml, hown, hts⟩, hK, hA⟩ := h
  subst hn
  subst hv
  have hY2 : Y = yY K := hY
  intro H locs ls hP hD hS hl
  exact va_lald hx hb hK hP wa.length 7 (by rw [List.getElem?_append_right (Nat.le_refl _), Nat.sub_self]; rfl) (by rw [hY2]; rfl) vp_01 hdg (k H locs ls hP hD hS hl)
end GLW
