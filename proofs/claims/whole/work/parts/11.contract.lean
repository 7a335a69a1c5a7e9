/-! what lies outside the worlds and never changes: the addresses of the constants stand in D (places 1000 on, which no class uses) -/
def eK (D : va_G) (i : Nat) : Nat := D.2 1000 i
def eV (D : va_G) (i : Nat) : Nat := D.2 1001 i
def eT (D : va_G) : Nat := D.2 1002 0
/-- the text constants: owner, place, text -/
def sTab : List (String × Nat × String) := [("ClassMaker4$FileMaker", 88, "java/lang/Object"), ("ClassMaker4$FileMaker", 93, "W"), ("ClassMaker4$FileMaker", 95, "[B"), ("ClassMaker4$FileMaker", 100, "K"), ("ClassMaker4$FileMaker", 102, "call"), ("ClassMaker4$FileMaker", 104, "(I)V"), ("ClassMaker4$FileMaker", 105, "mark"), ("ClassMaker4$FileMaker", 107, "stop"), ("ClassMaker4$FileMaker", 109, "size"), ("ClassMaker4$FileMaker", 111, "Code"), ("ClassMaker4$FileMaker", 113, "(I)I"), ("ClassMaker4$FileMaker", 115, "<clinit>"), ("ClassMaker4$FileMaker", 117, "()V"), ("ClassMaker4", 101, "no such working byte"), ("ClassMaker4", 133, "no such class"), ("ClassMaker4", 139, "no such byte"), ("ClassMaker4", 147, "/ by zero"), ("ClassMaker4", 152, "below 0")]
def sLen : List Nat := [16, 1, 2, 1, 4, 4, 4, 4, 4, 4, 4, 8, 3, 20, 13, 12, 9, 7]
def sByt : List (List Int32) := [[106, 97, 118, 97, 47, 108, 97, 110, 103, 47, 79, 98, 106, 101, 99, 116], [87], [91, 66], [75], [99, 97, 108, 108], [40, 73, 41, 86], [109, 97, 114, 107], [115, 116, 111, 112], [115, 105, 122, 101], [67, 111, 100, 101], [40, 73, 41, 73], [60, 99, 108, 105, 110, 105, 116, 62], [40, 41, 86], [110, 111, 32, 115, 117, 99, 104, 32, 119, 111, 114, 107, 105, 110, 103, 32, 98, 121, 116, 101], [110, 111, 32, 115, 117, 99, 104, 32, 99, 108, 97, 115, 115], [110, 111, 32, 115, 117, 99, 104, 32, 98, 121, 116, 101], [47, 32, 98, 121, 32, 122, 101, 114, 111], [98, 101, 108, 111, 119, 32, 48]]
def rlV (j : Nat) : Value := .int ([8, 12, 20, 20, 20, 20, 20, 16, 9, 0, 5, 5, 5, 16].getD j 0)
def gAO (U : State) : Prop := va_AO "ClassMaker4$Program" U ∧ va_AO "ClassMaker4$MadeClass" U ∧ va_AO "ClassMaker4$RunUnit" U ∧ va_AO "ClassMaker4$Row" U
theorem gAO.moved {u U : State} (hvm : u.vm.Alike U.vm) (h : gAO u) : gAO U := ⟨h.1.moved hvm, h.2.1.moved hvm, h.2.2.1.moved hvm, h.2.2.2.moved hvm⟩
def sRef (D : va_G) (U : State) : Prop := ∀ (i : Nat) (q : String × Nat × String), sTab[i]? = some q → vk_R q.1 q.2.1 q.2.2 (eK D i) U
def gH (D : va_G) (A : Nat → Prop) (U : State) (H : Heap) : Prop := (va_Z "ClassMaker4$FileMaker" "ROW_LENGTHS" "[I" (.ref (eT D)) A U H ∧ va_T .int (eT D) 14 rlV A U H) ∧ va_Z "java/lang/String" "COMPACT_STRINGS" "Z" (.int 1) A U H ∧ va_Zq "jdk/internal/util/Preconditions" "SIOOBE_FORMATTER" "Ljava/util/function/BiFunction;" A U H ∧ vk_S 18 sLen sByt (eK D) (eV D) A U H
def gE (D : va_G) (A : Nat → Prop) (U : State) (H : Heap) : Prop := gAO U ∧ gH D A U H ∧ sRef D U
theorem gH.moved {D : va_G} {A : Nat → Prop} {u U : State} {H : Heap} (hvm : u.vm.Alike U.vm) (h : gH D A u H) : gH D A U H := ⟨⟨h.1.1.moved hvm, h.1.2.moved hvm⟩, h.2.1.moved hvm, h.2.2.1.moved hvm, h.2.2.2.moved hvm⟩
theorem gE.warm {D : va_G} {A : Nat → Prop} {u U : State} {H : Heap} (hW : u.WarmedH U.vm) (h : gE D A u H) : gE D A U H := ⟨h.1.moved hW.alike, h.2.1.moved hW.alike, fun i q hq => (h.2.2 i q hq).warm hW⟩
theorem gE.same {D : va_G} {A : Nat → Prop} {u U : State} {H : Heap} (hv : U.vm = u.vm) (h : gE D A u H) : gE D A U H := ⟨h.1.moved (by rw [hv]; exact Vm.Alike.refl _), h.2.1.moved (by rw [hv]; exact Vm.Alike.refl _), fun i q hq => (h.2.2 i q hq).same hv⟩
theorem gE.kept {D : va_G} {A : Nat → Prop} {U : State} {H H1 : Heap} (hk : ∀ q : Nat, q < H.size → ¬ A q → H1[q]? = H[q]?) (h : gE D A U H) : gE D A U H1 := ⟨h.1, ⟨⟨h.2.1.1.1.kept hk, h.2.1.1.2.kept hk⟩, h.2.1.2.1.kept hk, h.2.1.2.2.1.kept hk, h.2.1.2.2.2.kept hk⟩, h.2.2⟩
theorem gE.narrow {D : va_G} {A A1 : Nat → Prop} {U : State} {H : Heap} (hA : ∀ q : Nat, A1 q → A q) (h : gE D A U H) : gE D A1 U H := ⟨h.1, ⟨⟨h.2.1.1.1.narrow hA, h.2.1.1.2.narrow hA⟩, h.2.1.2.1.narrow hA, h.2.1.2.2.1.narrow hA, h.2.1.2.2.2.narrow hA⟩, h.2.2⟩
/-- a method's start: its world, the classes, what lies outside -/
def PW (D : va_G) (Y : List (ClassId × FieldType)) (ws : va_W) (sz : Nat) (U : State) : Prop := U.heap.size = sz ∧ va_P D vwCl ws U.heap ∧ va_K D vwCl Y U ∧ va_D (fun _ => True) ws ∧ gE D (va_A ws sz) U U.heap
def Qg (post : Option Value → va_W → Prop) (D : va_G) (Y : List (ClassId × FieldType)) (A : Nat → Prop) : Array Value → State → Outcome → State → Prop := fun _ st oc t => (∃ (v : Option Value) (ws1 : va_W), oc = .returned v ∧ post v ws1 ∧ va_P D vwCl ws1 t.heap ∧ va_K D vwCl Y t ∧ va_D A ws1) ∧ va_F A st t
/-- the contract of y: from the world ws with arguments av it returns, and 'post answer world' holds -/
def Mc (l : Launch) (y : MethodName) (wm : List Cond) (rm : Room) (D : va_G) (Y : List (ClassId × FieldType)) (av : List Value) (ws : va_W) (post : Option Value → va_W → Prop) (mc ms : Nat) : Prop := ∀ sz : Nat, Met l y wm rm (va_Pc av (PW D Y ws sz)) (Qg post D Y (va_A ws sz)) mc ms (va_A ws sz)
def gLa : gT → Launch | (_, l, _) => l
/-- what a frame owes where it returns -/
def gRet : gT → Option FieldType → (Option Value → va_W → Prop) → Nat → Nat → Prop
  | (_, _, _, _, s, _, args, below, meth, _, D, Y, A, Q, _), ret, post, mc, ms => meth.sig.returnType = ret ∧ meth.locks = false ∧ Q = MQ below (Qg post D Y A) args s mc ms A
def gEv : gT → Prop
  | (_, _, _, _, s, _, _, _, _, _, D, _, A, _, _) => gE D A s s.heap
def wM (y : MethodName) (cc : ByteArray) (maxL : Nat) (ret : Option FieldType) : List Cond := Cond.code y cc maxL ret :: wU
theorem wM_in {y : MethodName} {cc : ByteArray} {maxL : Nat} {ret : Option FieldType} {w : Cond} (h : w ∈ wU) : w ∈ wM y cc maxL ret := List.mem_cons_of_mem _ h
theorem m_start {l : Launch} {y : MethodName} {rm : Room} {mc ms : Nat} {cc : ByteArray} {maxL : Nat} {ret : Option FieldType} {D : va_G} {Y : List (ClassId × FieldType)} {av : List Value} {ws : va_W} {post : Option Value → va_W → Prop} {lv : List (Nat × Value)} (hy : plainName y.cls = true) (hav : (lg_sl av).length ≤ maxL) (hlv : lv_args 0 av = lv)
    (body : ∀ Γ : gT, gOk Γ cc (wM y cc maxL ret) y.cls → gRm Γ = rm → gnL Γ = maxL → gY Γ = Y → gD Γ = D → gLa Γ = l → gRet Γ ret post mc ms → (y.name = "<init>" → gInit Γ) → gEv Γ → G Γ ws 0 0 0 lv []) : Mc l y (wM y cc maxL ret) rm D Y av ws post mc ms := by
  intro sz
  refine Met.ofW (cc := cc) (maxL := maxL) (ret := ret) hy rfl ?_
  intro p e s m args below meth c s₁ B hml hv
  obtain ⟨rfl, hsz, hP, hK, hD0, hE⟩ := hv
  subst hsz
  have hx := B.exec
  have hb := B.bytes
  have hr := B.returns
  have hts := atoms_spec (ws := wM y cc maxL ret) B.pre
  have hown : s.vm.findClass y.cls = some m.cls := findClass_of_methodNamed B.named
  have hlocks := B.notSynchronized
  have hD := hD0.self (sz := s.heap.size)
  have hl := lv_entry av (n := maxL) hav
  rw [lg_entry_eq]
  rw [hlv] at hl
  have hb2 := body (p, l, e, (headSpec (wM y cc maxL ret) rm).room, s, m, av.toArray, below, meth, c, D, Y, va_A ws s.heap.size, MQ below (Qg post D Y (va_A ws s.heap.size)) av.toArray s mc ms (va_A ws s.heap.size), maxL)
    ⟨⟨hx, hb, hml, hown, hts⟩, hK, fun q h => Or.inr h⟩ rfl rfl rfl rfl rfl ⟨hr, hlocks, rfl⟩ (fun hn => (name_of_methodNamed B.named B.method).1.trans hn) hE
  exact hb2 s.heap [] _ hP hD va_S.rf hl
section GR
variable {Γ : gT} {ws : va_W} {kc ks pc n : Nat} {lv : List (Nat × Value)} {st : List Value} {cc : ByteArray} {Ts : List Cond} {own : String} {post : Option Value → va_W → Prop} {ret : Option FieldType}
theorem g_vret (h : gOk Γ cc Ts own) (hR : gRet Γ none post kc ks) (hdg : decode cc pc = .ok (.return_, 1)) (hp : post none ws) : G Γ ws kc ks pc lv [] := by
  obtain ⟨p, l, e, R, s, m, args, below, meth, c, D, Y, A, Q, nL⟩ := Γ
  obtain ⟨⟨hx, hb, hml, hown, hts⟩, hK, hA⟩ := h
  obtain ⟨hr, hlocks, rfl⟩ := hR
  intro H locs ls hP hD hS hl
  exact W.vret hx hb hr (fun t ht hW => ⟨⟨none, ws, rfl, hp, by rw [ht]; exact hP, va_K.moved hW.alike hK, hD⟩, hS.F ht⟩) hS.2.2 hdg hlocks
theorem g_iret {v : Int32} (h : gOk Γ cc Ts own) (hR : gRet Γ (some .int) post kc ks) (hdg : decode cc pc = .ok (.ireturn, 1)) (hp : post (some (.int v)) ws) : G Γ ws kc ks pc lv [.int v] := by
  obtain ⟨p, l, e, R, s, m, args, below, meth, c, D, Y, A, Q, nL⟩ := Γ
  obtain ⟨⟨hx, hb, hml, hown, hts⟩, hK, hA⟩ := h
  obtain ⟨hr, hlocks, rfl⟩ := hR
  intro H locs ls hP hD hS hl
  exact W.iret hx hb hr (fun t ht hW => ⟨⟨some (.int v), ws, rfl, hp, by rw [ht]; exact hP, va_K.moved hW.alike hK, hD⟩, hS.F ht⟩) hS.2.2 hdg hlocks
theorem g_zret {v : Int32} {ty : FieldType} (h : gOk Γ cc Ts own) (hR : gRet Γ (some ty) post kc ks) (hdg : decode cc pc = .ok (.ireturn, 1)) (hn : narrow ty (.int v) = .int v) (hp : post (some (.int v)) ws) : G Γ ws kc ks pc lv [.int v] := by
  obtain ⟨p, l, e, R, s, m, args, below, meth, c, D, Y, A, Q, nL⟩ := Γ
  obtain ⟨⟨hx, hb, hml, hown, hts⟩, hK, hA⟩ := h
  obtain ⟨hr, hlocks, rfl⟩ := hR
  intro H locs ls hP hD hS hl
  exact W.zret hx hb hr hn (fun t ht hW => ⟨⟨some (.int v), ws, rfl, hp, by rw [ht]; exact hP, va_K.moved hW.alike hK, hD⟩, hS.F ht⟩) hS.2.2 hdg hlocks
theorem g_lret {v : Int64} (h : gOk Γ cc Ts own) (hR : gRet Γ (some .long) post kc ks) (hdg : decode cc pc = .ok (.lreturn, 1)) (hp : post (some (.long v)) ws) : G Γ ws kc ks pc lv [.long v] := by
  obtain ⟨p, l, e, R, s, m, args, below, meth, c, D, Y, A, Q, nL⟩ := Γ
  obtain ⟨⟨hx, hb, hml, hown, hts⟩, hK, hA⟩ := h
  obtain ⟨hr, hlocks, rfl⟩ := hR
  intro H locs ls hP hD hS hl
  exact W.lret hx hb hr (fun t ht hW => ⟨⟨some (.long v), ws, rfl, hp, by rw [ht]; exact hP, va_K.moved hW.alike hK, hD⟩, hS.F ht⟩) hS.2.2 hdg hlocks
theorem g_aret {v : Value} {rt : FieldType} (h : gOk Γ cc Ts own) (hR : gRet Γ (some rt) post kc ks) (hdg : decode cc pc = .ok (.areturn, 1)) (hrt : (∃ n, rt = .object n) ∨ ∃ t, rt = .array t) (hv : v = .null ∨ ∃ a, v = .ref a) (hp : post (some v) ws) : G Γ ws kc ks pc lv [v] := by
  obtain ⟨p, l, e, R, s, m, args, below, meth, c, D, Y, A, Q, nL⟩ := Γ
  obtain ⟨⟨hx, hb, hml, hown, hts⟩, hK, hA⟩ := h
  obtain ⟨hr, hlocks, rfl⟩ := hR
  intro H locs ls hP hD hS hl
  exact W.aret hx hb hr hrt hv (fun t ht hW => ⟨⟨some v, ws, rfl, hp, by rw [ht]; exact hP, va_K.moved hW.alike hK, hD⟩, hS.F ht⟩) hS.2.2 hdg hlocks
end GR
/-! the frame rule: a callee's world wc among wa ++ wc ++ wb -/
theorem wj_get {wa wc wb : va_W} {k : Nat} {q : Nat × va_E} (h : wc[k]? = some q) : (wa ++ wc ++ wb)[wa.length + k]? = some q := by
  have hk : k < wc.length := (List.getElem?_eq_some_iff.mp h).1
  rw [List.getElem?_append_left (by rw [List.length_append]; omega), List.getElem?_append_right (by omega)]
  rw [show wa.length + k - wa.length = k by omega]; exact h
theorem wj_mid {D : va_G} {cl : List vw_C} {wa wc wb : va_W} {H : Heap} (h : va_P D cl (wa ++ wc ++ wb) H) : va_P D cl wc H := fun k q hk => h (wa.length + k) q (wj_get hk)
theorem wj_midD {A : Nat → Prop} {wa wc wb : va_W} (h : va_D A (wa ++ wc ++ wb)) : va_D A wc :=
  ⟨fun i j p q hi hj e => by have := h.1 _ _ p q (wj_get hi) (wj_get hj) e; omega, fun k q hk => h.2 _ q (wj_get hk)⟩
theorem wj_free {A0 : Nat → Prop} {wa wc wb : va_W} {H0 H : Heap} {locs : List Loc} (hD : va_D A0 (wa ++ wc ++ wb)) (hS : va_S A0 H0 H locs) (hA : ∀ q, H0.size ≤ q → A0 q) : ∀ q, va_A wc H.size q → A0 q := by
  intro q h
  rcases h with ⟨k, e, hk⟩ | h
  · exact hD.2 _ _ (wj_get hk)
  · exact hA q (Nat.le_trans hS.1 h)
theorem wj_side {wa wc wb : va_W} {k : Nat} {q : Nat × va_E} (h : (wa ++ wc ++ wb)[k]? = some q) : (∃ j, wc[j]? = some q ∧ k = wa.length + j) ∨ (k < wa.length ∧ wa[k]? = some q) ∨ (∃ j, wb[j]? = some q ∧ k = wa.length + wc.length + j) := by
  rcases Nat.lt_or_ge k wa.length with h1 | h1
  · refine Or.inr (Or.inl ⟨h1, ?_⟩)
    rw [List.append_assoc, List.getElem?_append_left h1] at h; exact h
  · rcases Nat.lt_or_ge k (wa.length + wc.length) with h2 | h2
    · refine Or.inl ⟨k - wa.length, ?_, by omega⟩
      rw [List.getElem?_append_left (by rw [List.length_append]; exact h2), List.getElem?_append_right h1] at h; exact h
    · refine Or.inr (Or.inr ⟨k - (wa.length + wc.length), ?_, by omega⟩)
      rw [List.getElem?_append_right (by rw [List.length_append]; exact h2), List.length_append] at h; exact h
theorem wj_set {wa wc wb : va_W} {k : Nat} {q : Nat × va_E} (h : (wa ++ wb)[k]? = some q) : ∃ j, (wa ++ wc ++ wb)[j]? = some q ∧ ∀ i x, wc[i]? = some x → j ≠ wa.length + i := by
  rcases Nat.lt_or_ge k wa.length with h1 | h1
  · rw [List.getElem?_append_left h1] at h
    exact ⟨k, by rw [List.append_assoc, List.getElem?_append_left h1]; exact h, fun i x _ => by omega⟩
  · rw [List.getElem?_append_right h1] at h
    refine ⟨wa.length + wc.length + (k - wa.length), ?_, fun i x hi => ?_⟩
    · rw [List.getElem?_append_right (by rw [List.length_append]; omega), List.length_append, show wa.length + wc.length + (k - wa.length) - (wa.length + wc.length) = k - wa.length by omega]; exact h
    · have := (List.getElem?_eq_some_iff.mp hi).1; omega
theorem wj_join {A0 : Nat → Prop} {D : va_G} {cl : List vw_C} {wa wc wb w1 : va_W} {H H1 : Heap} (hP : va_P D cl (wa ++ wc ++ wb) H) (hD : va_D A0 (wa ++ wc ++ wb)) (hk : ∀ q : Nat, q < H.size → ¬ va_A wc H.size q → H1[q]? = H[q]?) (hF : ∀ q, va_A wc H.size q → A0 q) (hP1 : va_P D cl w1 H1) (hD1 : va_D (va_A wc H.size) w1) : va_P D cl (wa ++ w1 ++ wb) H1 ∧ va_D A0 (wa ++ w1 ++ wb) := by
  have key : ∀ {k : Nat} {q : Nat × va_E}, (k < wa.length ∧ wa[k]? = some q) ∨ (∃ j, wb[j]? = some q ∧ k = wa.length + w1.length + j) → ∃ j, (wa ++ wc ++ wb)[j]? = some q ∧ (∀ i x, wc[i]? = some x → j ≠ wa.length + i) ∧ (k < wa.length → j = k) ∧ (∀ i, k = wa.length + w1.length + i → j = wa.length + wc.length + i) := by
    intro k q h
    rcases h with ⟨h1, h⟩ | ⟨j, h, e⟩
    · exact ⟨k, by rw [List.append_assoc, List.getElem?_append_left h1]; exact h, fun i x _ => by omega, fun _ => rfl, fun i e => by omega⟩
    · refine ⟨wa.length + wc.length + j, ?_, fun i x hi => ?_, fun h9 => by omega, fun i e9 => by omega⟩
      · rw [List.getElem?_append_right (by rw [List.length_append]; omega), List.length_append, show wa.length + wc.length + j - (wa.length + wc.length) = j by omega]; exact h
      · have := (List.getElem?_eq_some_iff.mp hi).1; omega
  have out : ∀ {j : Nat} {q : Nat × va_E}, (wa ++ wc ++ wb)[j]? = some q → (∀ i x, wc[i]? = some x → j ≠ wa.length + i) → q.1 < H.size ∧ ¬ va_A wc H.size q.1 := by
    intro j q hj hn
    have hlt : q.1 < H.size := va_at.lt (hP j q hj)
    refine ⟨hlt, ?_⟩
    rintro (⟨i, e, hi⟩ | h)
    · exact hn i _ hi (hD.1 _ _ _ _ hj (wj_get hi) rfl)
    · omega
  refine ⟨?_, ?_, ?_⟩
  · intro k q h
    rcases wj_side h with ⟨j, hj, -⟩ | h2
    · exact hP1 j q hj
    · obtain ⟨j, hj, hn, -⟩ := key h2
      obtain ⟨o1, o2⟩ := out hj hn
      exact (hP j q hj).kept (hk q.1 o1 o2)
  · intro i j p q hi hj e
    rcases wj_side hi with ⟨a, ha, ea⟩ | ha <;> rcases wj_side hj with ⟨b, hb, eb⟩ | hb
    · have := hD1.1 a b p q ha hb e; omega
    · obtain ⟨x, hx, hn, -⟩ := key hb
      exact absurd (e ▸ hD1.2 a p ha) (out hx hn).2
    · obtain ⟨x, hx, hn, -⟩ := key ha
      exact absurd (e.symm ▸ hD1.2 b q hb) (out hx hn).2
    · obtain ⟨x, hx, -, x1, x2⟩ := key ha
      obtain ⟨y, hy, -, y1, y2⟩ := key hb
      have hxy := hD.1 x y p q hx hy e
      rcases ha with ⟨a1, -⟩ | ⟨a1, -, a2⟩ <;> rcases hb with ⟨b1, -⟩ | ⟨b1, -, b2⟩
      · have := x1 a1; have := y1 b1; omega
      · have := x1 a1; have := y2 b1 b2; omega
      · have := x2 a1 a2; have := y1 b1; omega
      · have := x2 a1 a2; have := y2 b1 b2; omega
  · intro k q h
    rcases wj_side h with ⟨j, hj, -⟩ | h2
    · exact hF _ (hD1.2 j q hj)
    · obtain ⟨j, hj, -⟩ := key h2
      exact hD.2 j q hj
