/-! the walk's own judgement: the frame's constants in one tuple; heap, locations and locals' slots out of sight -/
abbrev gT : Type := Program × Launch × Env × Room × State × MethodId × Array Value × List Frame × Method × Code × va_G × List (ClassId × FieldType) × (Nat → Prop) × (State → Prop) × Nat
def G : gT → va_W → Nat → Nat → Nat → List (Nat × Value) → List Value → Prop
  | (p, l, e, R, s, m, args, below, meth, c, D, _, A, Q, nL), ws, kc, ks, pc, lv, st => ∀ (H : Heap) (locs : List Loc) (ls : Array Slot), va_P D vwCl ws H → va_D A ws → va_S A s.heap H locs → lv_has ls nL lv → W p l e R s m args below meth c H locs kc ks Q (F0 m pc ls st)
def gOk : gT → ByteArray → List Cond → String → Prop
  | (p, _, _, _, s, m, args, _, _, c, D, Y, A, _, nL), cc, Ts, own => (CallFix p m c cc nL s args Ts own) ∧ va_K D vwCl Y s ∧ ∀ q : Nat, s.heap.size ≤ q → A q
def gRm : gT → Room | (_, _, _, R, _) => R
def gnL : gT → Nat | (_, _, _, _, _, _, _, _, _, _, _, _, _, _, nL) => nL
def gY : gT → List (ClassId × FieldType) | (_, _, _, _, _, _, _, _, _, _, _, Y, _) => Y
def gD : gT → va_G | (_, _, _, _, _, _, _, _, _, _, D, _) => D
def gl : List (Nat × Value) → Nat → Option Value
  | [], _ => none
  | (j, v) :: r, i => cond (Nat.beq j i) (some v) (gl r i)
theorem gl_in : ∀ {lv : List (Nat × Value)} {i : Nat} {v : Value}, gl lv i = some v → (i, v) ∈ lv
  | [], _, _, h => by simp [gl] at h
  | (j, u) :: r, i, v, h => by
    unfold gl at h
    cases hb : Nat.beq j i with
    | true =>
      rw [hb] at h
      have h1 : u = v := by simpa using h
      have h2 : j = i := Nat.eq_of_beq_eq_true hb
      rw [h1, h2]; exact List.mem_cons_self
    | false =>
      rw [hb] at h
      exact List.mem_cons_of_mem _ (gl_in (by simpa using h))
theorem gl_at {ls : Array Slot} {nL i : Nat} {lv : List (Nat × Value)} {v : Value} (h : lv_has ls nL lv) (hv : gl lv i = some v) : ls[i]? = some (.val v) := h.2.2 (i, v) (gl_in hv)
def gst (lv : List (Nat × Value)) (i : Nat) (v : Value) : List (Nat × Value) := (i, v) :: lv.filter (fun q => !(q.1 == i) && !(q.1 + 1 == i && q.2.category == 2))
def gst2 (lv : List (Nat × Value)) (i : Nat) (v : Value) : List (Nat × Value) := (i, v) :: lv.filter (fun q => !(q.1 == i) && (!(q.1 == i + 1) && !(q.1 + 1 == i && q.2.category == 2)))
section GW
variable {Γ : gT} {ws : va_W} {kc ks pc n : Nat} {lv lv' : List (Nat × Value)} {st : List Value} {cc : ByteArray} {Ts : List Cond} {own : String}
theorem g_iconst {z : Int} {v : Int32} (h : gOk Γ cc Ts own) (hdg : decode cc pc = .ok (.iconst z, 1)) (hn : pc + 1 = n) (hv : Int32.ofInt z = v) (k : G Γ ws kc ks n lv (.int v :: st)) : G Γ ws kc ks pc lv (st) := by
  obtain ⟨p, l, e, R, s, m, args, below, meth, c, D, Y, A, Q, nL⟩ := Γ
  obtain ⟨⟨hx, hb, hml, hown, hts⟩, hK, hA⟩ := h
  subst hn
  intro H locs ls hP hD hS hl
  exact lv_iconst hx hb hdg hv (k H locs ls hP hD hS hl)
theorem g_bipush {z : Int} {v : Int32} (h : gOk Γ cc Ts own) (hdg : decode cc pc = .ok (.bipush z, 2)) (hn : pc + 2 = n) (hv : (Int8.ofInt z).toInt32 = v) (k : G Γ ws kc ks n lv (.int v :: st)) : G Γ ws kc ks pc lv (st) := by
  obtain ⟨p, l, e, R, s, m, args, below, meth, c, D, Y, A, Q, nL⟩ := Γ
  obtain ⟨⟨hx, hb, hml, hown, hts⟩, hK, hA⟩ := h
  subst hn
  intro H locs ls hP hD hS hl
  exact lv_bipush hx hb hdg hv (k H locs ls hP hD hS hl)
theorem g_sipush {z : Int} {v : Int32} (h : gOk Γ cc Ts own) (hdg : decode cc pc = .ok (.sipush z, 3)) (hn : pc + 3 = n) (hv : (Int16.ofInt z).toInt32 = v) (k : G Γ ws kc ks n lv (.int v :: st)) : G Γ ws kc ks pc lv (st) := by
  obtain ⟨p, l, e, R, s, m, args, below, meth, c, D, Y, A, Q, nL⟩ := Γ
  obtain ⟨⟨hx, hb, hml, hown, hts⟩, hK, hA⟩ := h
  subst hn
  intro H locs ls hP hD hS hl
  exact lv_sipush hx hb hdg hv (k H locs ls hP hD hS hl)
theorem g_lconst {z : Fin 2} {v : Int64} (h : gOk Γ cc Ts own) (hdg : decode cc pc = .ok (.lconst z, 1)) (hn : pc + 1 = n) (hv : Int64.ofNat (z : Nat) = v) (k : G Γ ws kc ks n lv (.long v :: st)) : G Γ ws kc ks pc lv (st) := by
  obtain ⟨p, l, e, R, s, m, args, below, meth, c, D, Y, A, Q, nL⟩ := Γ
  obtain ⟨⟨hx, hb, hml, hown, hts⟩, hK, hA⟩ := h
  subst hn
  intro H locs ls hP hD hS hl
  exact lv_lconst hx hb hdg hv (k H locs ls hP hD hS hl)
theorem g_iload_n {z : Fin 4} {i : Nat} {x : Int32} (h : gOk Γ cc Ts own) (hdg : decode cc pc = .ok (.iload_n z, 1)) (hn : pc + 1 = n) (hi : (z : Nat) = i) (hv : gl lv i = some (.int x)) (k : G Γ ws kc ks n lv (.int x :: st)) : G Γ ws kc ks pc lv (st) := by
  obtain ⟨p, l, e, R, s, m, args, below, meth, c, D, Y, A, Q, nL⟩ := Γ
  obtain ⟨⟨hx, hb, hml, hown, hts⟩, hK, hA⟩ := h
  subst hn
  intro H locs ls hP hD hS hl
  exact lv_iload_n hx hb hdg hi (gl_at hl hv) (k H locs ls hP hD hS hl)
theorem g_iload {i : Nat} {x : Int32} (h : gOk Γ cc Ts own) (hdg : decode cc pc = .ok (.iload i, 2)) (hn : pc + 2 = n) (hv : gl lv i = some (.int x)) (k : G Γ ws kc ks n lv (.int x :: st)) : G Γ ws kc ks pc lv (st) := by
  obtain ⟨p, l, e, R, s, m, args, below, meth, c, D, Y, A, Q, nL⟩ := Γ
  obtain ⟨⟨hx, hb, hml, hown, hts⟩, hK, hA⟩ := h
  subst hn
  intro H locs ls hP hD hS hl
  exact lv_iload hx hb hdg (gl_at hl hv) (k H locs ls hP hD hS hl)
theorem g_lload_n {z : Fin 4} {i : Nat} {x : Int64} (h : gOk Γ cc Ts own) (hdg : decode cc pc = .ok (.lload_n z, 1)) (hn : pc + 1 = n) (hi : (z : Nat) = i) (hv : gl lv i = some (.long x)) (k : G Γ ws kc ks n lv (.long x :: st)) : G Γ ws kc ks pc lv (st) := by
  obtain ⟨p, l, e, R, s, m, args, below, meth, c, D, Y, A, Q, nL⟩ := Γ
  obtain ⟨⟨hx, hb, hml, hown, hts⟩, hK, hA⟩ := h
  subst hn
  intro H locs ls hP hD hS hl
  exact lv_lload_n hx hb hdg hi (gl_at hl hv) (k H locs ls hP hD hS hl)
theorem g_lload {i : Nat} {x : Int64} (h : gOk Γ cc Ts own) (hdg : decode cc pc = .ok (.lload i, 2)) (hn : pc + 2 = n) (hv : gl lv i = some (.long x)) (k : G Γ ws kc ks n lv (.long x :: st)) : G Γ ws kc ks pc lv (st) := by
  obtain ⟨p, l, e, R, s, m, args, below, meth, c, D, Y, A, Q, nL⟩ := Γ
  obtain ⟨⟨hx, hb, hml, hown, hts⟩, hK, hA⟩ := h
  subst hn
  intro H locs ls hP hD hS hl
  exact lv_lload hx hb hdg (gl_at hl hv) (k H locs ls hP hD hS hl)
theorem g_aload_n {z : Fin 4} {i : Nat} {x : Nat} (h : gOk Γ cc Ts own) (hdg : decode cc pc = .ok (.aload_n z, 1)) (hn : pc + 1 = n) (hi : (z : Nat) = i) (hv : gl lv i = some (.ref x)) (k : G Γ ws kc ks n lv (.ref x :: st)) : G Γ ws kc ks pc lv (st) := by
  obtain ⟨p, l, e, R, s, m, args, below, meth, c, D, Y, A, Q, nL⟩ := Γ
  obtain ⟨⟨hx, hb, hml, hown, hts⟩, hK, hA⟩ := h
  subst hn
  intro H locs ls hP hD hS hl
  exact lv_aload_n hx hb hdg hi (gl_at hl hv) (k H locs ls hP hD hS hl)
theorem g_aload {i : Nat} {x : Nat} (h : gOk Γ cc Ts own) (hdg : decode cc pc = .ok (.aload i, 2)) (hn : pc + 2 = n) (hv : gl lv i = some (.ref x)) (k : G Γ ws kc ks n lv (.ref x :: st)) : G Γ ws kc ks pc lv (st) := by
  obtain ⟨p, l, e, R, s, m, args, below, meth, c, D, Y, A, Q, nL⟩ := Γ
  obtain ⟨⟨hx, hb, hml, hown, hts⟩, hK, hA⟩ := h
  subst hn
  intro H locs ls hP hD hS hl
  exact lv_aload hx hb hdg (gl_at hl hv) (k H locs ls hP hD hS hl)
theorem g_aload_nN {z : Fin 4} {i : Nat} (h : gOk Γ cc Ts own) (hdg : decode cc pc = .ok (.aload_n z, 1)) (hn : pc + 1 = n) (hi : (z : Nat) = i) (hv : gl lv i = some .null) (k : G Γ ws kc ks n lv (.null :: st)) : G Γ ws kc ks pc lv (st) := by
  obtain ⟨p, l, e, R, s, m, args, below, meth, c, D, Y, A, Q, nL⟩ := Γ
  obtain ⟨⟨hx, hb, hml, hown, hts⟩, hK, hA⟩ := h
  subst hn
  intro H locs ls hP hD hS hl
  exact lv_aload_nN hx hb hdg hi (gl_at hl hv) (k H locs ls hP hD hS hl)
theorem g_aloadN {i : Nat} (h : gOk Γ cc Ts own) (hdg : decode cc pc = .ok (.aload i, 2)) (hn : pc + 2 = n) (hv : gl lv i = some .null) (k : G Γ ws kc ks n lv (.null :: st)) : G Γ ws kc ks pc lv (st) := by
  obtain ⟨p, l, e, R, s, m, args, below, meth, c, D, Y, A, Q, nL⟩ := Γ
  obtain ⟨⟨hx, hb, hml, hown, hts⟩, hK, hA⟩ := h
  subst hn
  intro H locs ls hP hD hS hl
  exact lv_aloadN hx hb hdg (gl_at hl hv) (k H locs ls hP hD hS hl)
theorem g_null  (h : gOk Γ cc Ts own) (hdg : decode cc pc = .ok (.aconst_null, 1)) (hn : pc + 1 = n) (k : G Γ ws kc ks n lv (.null :: st)) : G Γ ws kc ks pc lv (st) := by
  obtain ⟨p, l, e, R, s, m, args, below, meth, c, D, Y, A, Q, nL⟩ := Γ
  obtain ⟨⟨hx, hb, hml, hown, hts⟩, hK, hA⟩ := h
  subst hn
  intro H locs ls hP hD hS hl
  exact lv_null hx hb hdg (k H locs ls hP hD hS hl)
theorem g_iadd {x y v : Int32} (h : gOk Γ cc Ts own) (hdg : decode cc pc = .ok (.iadd, 1)) (hn : pc + 1 = n) (hv : x + y = v) (k : G Γ ws kc ks n lv (.int v :: st)) : G Γ ws kc ks pc lv (.int y :: .int x :: st) := by
  obtain ⟨p, l, e, R, s, m, args, below, meth, c, D, Y, A, Q, nL⟩ := Γ
  obtain ⟨⟨hx, hb, hml, hown, hts⟩, hK, hA⟩ := h
  subst hn
  subst hv
  intro H locs ls hP hD hS hl
  exact lv_iadd hx hb hdg (k H locs ls hP hD hS hl)
theorem g_isub {x y v : Int32} (h : gOk Γ cc Ts own) (hdg : decode cc pc = .ok (.isub, 1)) (hn : pc + 1 = n) (hv : x - y = v) (k : G Γ ws kc ks n lv (.int v :: st)) : G Γ ws kc ks pc lv (.int y :: .int x :: st) := by
  obtain ⟨p, l, e, R, s, m, args, below, meth, c, D, Y, A, Q, nL⟩ := Γ
  obtain ⟨⟨hx, hb, hml, hown, hts⟩, hK, hA⟩ := h
  subst hn
  subst hv
  intro H locs ls hP hD hS hl
  exact lv_isub hx hb hdg (k H locs ls hP hD hS hl)
theorem g_imul {x y v : Int32} (h : gOk Γ cc Ts own) (hdg : decode cc pc = .ok (.imul, 1)) (hn : pc + 1 = n) (hv : x * y = v) (k : G Γ ws kc ks n lv (.int v :: st)) : G Γ ws kc ks pc lv (.int y :: .int x :: st) := by
  obtain ⟨p, l, e, R, s, m, args, below, meth, c, D, Y, A, Q, nL⟩ := Γ
  obtain ⟨⟨hx, hb, hml, hown, hts⟩, hK, hA⟩ := h
  subst hn
  subst hv
  intro H locs ls hP hD hS hl
  exact lv_imul hx hb hdg (k H locs ls hP hD hS hl)
theorem g_iand {x y v : Int32} (h : gOk Γ cc Ts own) (hdg : decode cc pc = .ok (.iand, 1)) (hn : pc + 1 = n) (hv : x &&& y = v) (k : G Γ ws kc ks n lv (.int v :: st)) : G Γ ws kc ks pc lv (.int y :: .int x :: st) := by
  obtain ⟨p, l, e, R, s, m, args, below, meth, c, D, Y, A, Q, nL⟩ := Γ
  obtain ⟨⟨hx, hb, hml, hown, hts⟩, hK, hA⟩ := h
  subst hn
  subst hv
  intro H locs ls hP hD hS hl
  exact lv_iand hx hb hdg (k H locs ls hP hD hS hl)
theorem g_ior {x y v : Int32} (h : gOk Γ cc Ts own) (hdg : decode cc pc = .ok (.ior, 1)) (hn : pc + 1 = n) (hv : x ||| y = v) (k : G Γ ws kc ks n lv (.int v :: st)) : G Γ ws kc ks pc lv (.int y :: .int x :: st) := by
  obtain ⟨p, l, e, R, s, m, args, below, meth, c, D, Y, A, Q, nL⟩ := Γ
  obtain ⟨⟨hx, hb, hml, hown, hts⟩, hK, hA⟩ := h
  subst hn
  subst hv
  intro H locs ls hP hD hS hl
  exact lv_ior hx hb hdg (k H locs ls hP hD hS hl)
theorem g_ladd {x y v : Int64} (h : gOk Γ cc Ts own) (hdg : decode cc pc = .ok (.ladd, 1)) (hn : pc + 1 = n) (hv : x + y = v) (k : G Γ ws kc ks n lv (.long v :: st)) : G Γ ws kc ks pc lv (.long y :: .long x :: st) := by
  obtain ⟨p, l, e, R, s, m, args, below, meth, c, D, Y, A, Q, nL⟩ := Γ
  obtain ⟨⟨hx, hb, hml, hown, hts⟩, hK, hA⟩ := h
  subst hn
  subst hv
  intro H locs ls hP hD hS hl
  exact lv_ladd hx hb hdg (k H locs ls hP hD hS hl)
theorem g_lsub {x y v : Int64} (h : gOk Γ cc Ts own) (hdg : decode cc pc = .ok (.lsub, 1)) (hn : pc + 1 = n) (hv : x - y = v) (k : G Γ ws kc ks n lv (.long v :: st)) : G Γ ws kc ks pc lv (.long y :: .long x :: st) := by
  obtain ⟨p, l, e, R, s, m, args, below, meth, c, D, Y, A, Q, nL⟩ := Γ
  obtain ⟨⟨hx, hb, hml, hown, hts⟩, hK, hA⟩ := h
  subst hn
  subst hv
  intro H locs ls hP hD hS hl
  exact lv_lsub hx hb hdg (k H locs ls hP hD hS hl)
theorem g_lmul {x y v : Int64} (h : gOk Γ cc Ts own) (hdg : decode cc pc = .ok (.lmul, 1)) (hn : pc + 1 = n) (hv : x * y = v) (k : G Γ ws kc ks n lv (.long v :: st)) : G Γ ws kc ks pc lv (.long y :: .long x :: st) := by
  obtain ⟨p, l, e, R, s, m, args, below, meth, c, D, Y, A, Q, nL⟩ := Γ
  obtain ⟨⟨hx, hb, hml, hown, hts⟩, hK, hA⟩ := h
  subst hn
  subst hv
  intro H locs ls hP hD hS hl
  exact lv_lmul hx hb hdg (k H locs ls hP hD hS hl)
theorem g_land {x y v : Int64} (h : gOk Γ cc Ts own) (hdg : decode cc pc = .ok (.land, 1)) (hn : pc + 1 = n) (hv : x &&& y = v) (k : G Γ ws kc ks n lv (.long v :: st)) : G Γ ws kc ks pc lv (.long y :: .long x :: st) := by
  obtain ⟨p, l, e, R, s, m, args, below, meth, c, D, Y, A, Q, nL⟩ := Γ
  obtain ⟨⟨hx, hb, hml, hown, hts⟩, hK, hA⟩ := h
  subst hn
  subst hv
  intro H locs ls hP hD hS hl
  exact lv_land hx hb hdg (k H locs ls hP hD hS hl)
theorem g_lor {x y v : Int64} (h : gOk Γ cc Ts own) (hdg : decode cc pc = .ok (.lor, 1)) (hn : pc + 1 = n) (hv : x ||| y = v) (k : G Γ ws kc ks n lv (.long v :: st)) : G Γ ws kc ks pc lv (.long y :: .long x :: st) := by
  obtain ⟨p, l, e, R, s, m, args, below, meth, c, D, Y, A, Q, nL⟩ := Γ
  obtain ⟨⟨hx, hb, hml, hown, hts⟩, hK, hA⟩ := h
  subst hn
  subst hv
  intro H locs ls hP hD hS hl
  exact lv_lor hx hb hdg (k H locs ls hP hD hS hl)
theorem g_ishl {x y v : Int32} (h : gOk Γ cc Ts own) (hdg : decode cc pc = .ok (.ishl, 1)) (hn : pc + 1 = n) (hv : x <<< (y &&& 31) = v) (k : G Γ ws kc ks n lv (.int v :: st)) : G Γ ws kc ks pc lv (.int y :: .int x :: st) := by
  obtain ⟨p, l, e, R, s, m, args, below, meth, c, D, Y, A, Q, nL⟩ := Γ
  obtain ⟨⟨hx, hb, hml, hown, hts⟩, hK, hA⟩ := h
  subst hn
  subst hv
  intro H locs ls hP hD hS hl
  exact lv_ishl hx hb hdg (k H locs ls hP hD hS hl)
theorem g_ishr {x y v : Int32} (h : gOk Γ cc Ts own) (hdg : decode cc pc = .ok (.ishr, 1)) (hn : pc + 1 = n) (hv : x >>> (y &&& 31) = v) (k : G Γ ws kc ks n lv (.int v :: st)) : G Γ ws kc ks pc lv (.int y :: .int x :: st) := by
  obtain ⟨p, l, e, R, s, m, args, below, meth, c, D, Y, A, Q, nL⟩ := Γ
  obtain ⟨⟨hx, hb, hml, hown, hts⟩, hK, hA⟩ := h
  subst hn
  subst hv
  intro H locs ls hP hD hS hl
  exact lv_ishr hx hb hdg (k H locs ls hP hD hS hl)
theorem g_idiv {x y v : Int32} (h : gOk Γ cc Ts own) (hdg : decode cc pc = .ok (.idiv, 1)) (hn : pc + 1 = n) (hne : ¬ y = 0) (hv : x / y = v) (k : G Γ ws kc ks n lv (.int v :: st)) : G Γ ws kc ks pc lv (.int y :: .int x :: st) := by
  obtain ⟨p, l, e, R, s, m, args, below, meth, c, D, Y, A, Q, nL⟩ := Γ
  obtain ⟨⟨hx, hb, hml, hown, hts⟩, hK, hA⟩ := h
  subst hn
  subst hv
  intro H locs ls hP hD hS hl
  exact lv_idiv hx hb hdg hne (k H locs ls hP hD hS hl)
theorem g_irem {x y v : Int32} (h : gOk Γ cc Ts own) (hdg : decode cc pc = .ok (.irem, 1)) (hn : pc + 1 = n) (hne : ¬ y = 0) (hv : x - x / y * y = v) (k : G Γ ws kc ks n lv (.int v :: st)) : G Γ ws kc ks pc lv (.int y :: .int x :: st) := by
  obtain ⟨p, l, e, R, s, m, args, below, meth, c, D, Y, A, Q, nL⟩ := Γ
  obtain ⟨⟨hx, hb, hml, hown, hts⟩, hK, hA⟩ := h
  subst hn
  subst hv
  intro H locs ls hP hD hS hl
  exact lv_irem hx hb hdg hne (k H locs ls hP hD hS hl)
theorem g_ldiv {x y v : Int64} (h : gOk Γ cc Ts own) (hdg : decode cc pc = .ok (.ldiv, 1)) (hn : pc + 1 = n) (hne : ¬ y = 0) (hv : x / y = v) (k : G Γ ws kc ks n lv (.long v :: st)) : G Γ ws kc ks pc lv (.long y :: .long x :: st) := by
  obtain ⟨p, l, e, R, s, m, args, below, meth, c, D, Y, A, Q, nL⟩ := Γ
  obtain ⟨⟨hx, hb, hml, hown, hts⟩, hK, hA⟩ := h
  subst hn
  subst hv
  intro H locs ls hP hD hS hl
  exact lv_ldiv hx hb hdg hne (k H locs ls hP hD hS hl)
theorem g_lrem {x y v : Int64} (h : gOk Γ cc Ts own) (hdg : decode cc pc = .ok (.lrem, 1)) (hn : pc + 1 = n) (hne : ¬ y = 0) (hv : x - x / y * y = v) (k : G Γ ws kc ks n lv (.long v :: st)) : G Γ ws kc ks pc lv (.long y :: .long x :: st) := by
  obtain ⟨p, l, e, R, s, m, args, below, meth, c, D, Y, A, Q, nL⟩ := Γ
  obtain ⟨⟨hx, hb, hml, hown, hts⟩, hK, hA⟩ := h
  subst hn
  subst hv
  intro H locs ls hP hD hS hl
  exact lv_lrem hx hb hdg hne (k H locs ls hP hD hS hl)
theorem g_lshl {x v : Int64} {y : Int32} (h : gOk Γ cc Ts own) (hdg : decode cc pc = .ok (.lshl, 1)) (hn : pc + 1 = n) (hv : x <<< (y.toInt64 &&& 63) = v) (k : G Γ ws kc ks n lv (.long v :: st)) : G Γ ws kc ks pc lv (.int y :: .long x :: st) := by
  obtain ⟨p, l, e, R, s, m, args, below, meth, c, D, Y, A, Q, nL⟩ := Γ
  obtain ⟨⟨hx, hb, hml, hown, hts⟩, hK, hA⟩ := h
  subst hn
  intro H locs ls hP hD hS hl
  exact lv_lshl hx hb hdg hv (k H locs ls hP hD hS hl)
theorem g_lshr {x v : Int64} {y : Int32} (h : gOk Γ cc Ts own) (hdg : decode cc pc = .ok (.lshr, 1)) (hn : pc + 1 = n) (hv : x >>> (y.toInt64 &&& 63) = v) (k : G Γ ws kc ks n lv (.long v :: st)) : G Γ ws kc ks pc lv (.int y :: .long x :: st) := by
  obtain ⟨p, l, e, R, s, m, args, below, meth, c, D, Y, A, Q, nL⟩ := Γ
  obtain ⟨⟨hx, hb, hml, hown, hts⟩, hK, hA⟩ := h
  subst hn
  intro H locs ls hP hD hS hl
  exact lv_lshr hx hb hdg hv (k H locs ls hP hD hS hl)
theorem g_i2l {x : Int32} {v : Int64} (h : gOk Γ cc Ts own) (hdg : decode cc pc = .ok (.i2l, 1)) (hn : pc + 1 = n) (hv : x.toInt64 = v) (k : G Γ ws kc ks n lv (.long v :: st)) : G Γ ws kc ks pc lv (.int x :: st) := by
  obtain ⟨p, l, e, R, s, m, args, below, meth, c, D, Y, A, Q, nL⟩ := Γ
  obtain ⟨⟨hx, hb, hml, hown, hts⟩, hK, hA⟩ := h
  subst hn
  intro H locs ls hP hD hS hl
  exact lv_i2l hx hb hdg hv (k H locs ls hP hD hS hl)
theorem g_l2i {x : Int64} {v : Int32} (h : gOk Γ cc Ts own) (hdg : decode cc pc = .ok (.l2i, 1)) (hn : pc + 1 = n) (hv : x.toInt32 = v) (k : G Γ ws kc ks n lv (.int v :: st)) : G Γ ws kc ks pc lv (.long x :: st) := by
  obtain ⟨p, l, e, R, s, m, args, below, meth, c, D, Y, A, Q, nL⟩ := Γ
  obtain ⟨⟨hx, hb, hml, hown, hts⟩, hK, hA⟩ := h
  subst hn
  intro H locs ls hP hD hS hl
  exact lv_l2i hx hb hdg hv (k H locs ls hP hD hS hl)
theorem g_i2b {x : Int32} {v : Int32} (h : gOk Γ cc Ts own) (hdg : decode cc pc = .ok (.i2b, 1)) (hn : pc + 1 = n) (hv : x.toInt8.toInt32 = v) (k : G Γ ws kc ks n lv (.int v :: st)) : G Γ ws kc ks pc lv (.int x :: st) := by
  obtain ⟨p, l, e, R, s, m, args, below, meth, c, D, Y, A, Q, nL⟩ := Γ
  obtain ⟨⟨hx, hb, hml, hown, hts⟩, hK, hA⟩ := h
  subst hn
  intro H locs ls hP hD hS hl
  exact lv_i2b hx hb hdg hv (k H locs ls hP hD hS hl)
theorem g_i2c {x : Int32} {v : Int32} (h : gOk Γ cc Ts own) (hdg : decode cc pc = .ok (.i2c, 1)) (hn : pc + 1 = n) (hv : (x.toUInt32 % 65536).toInt32 = v) (k : G Γ ws kc ks n lv (.int v :: st)) : G Γ ws kc ks pc lv (.int x :: st) := by
  obtain ⟨p, l, e, R, s, m, args, below, meth, c, D, Y, A, Q, nL⟩ := Γ
  obtain ⟨⟨hx, hb, hml, hown, hts⟩, hK, hA⟩ := h
  subst hn
  intro H locs ls hP hD hS hl
  exact lv_i2c hx hb hdg hv (k H locs ls hP hD hS hl)
theorem g_dup {va : Value} (h : gOk Γ cc Ts own) (hdg : decode cc pc = .ok (.dup, 1)) (hn : pc + 1 = n) (hva : va.category = 1) (k : G Γ ws kc ks n lv (va :: va :: st)) : G Γ ws kc ks pc lv (va :: st) := by
  obtain ⟨p, l, e, R, s, m, args, below, meth, c, D, Y, A, Q, nL⟩ := Γ
  obtain ⟨⟨hx, hb, hml, hown, hts⟩, hK, hA⟩ := h
  subst hn
  intro H locs ls hP hD hS hl
  exact lv_dup hx hb hdg hva (k H locs ls hP hD hS hl)
theorem g_pop {va : Value} (h : gOk Γ cc Ts own) (hdg : decode cc pc = .ok (.pop, 1)) (hn : pc + 1 = n) (hva : va.category = 1) (k : G Γ ws kc ks n lv (st)) : G Γ ws kc ks pc lv (va :: st) := by
  obtain ⟨p, l, e, R, s, m, args, below, meth, c, D, Y, A, Q, nL⟩ := Γ
  obtain ⟨⟨hx, hb, hml, hown, hts⟩, hK, hA⟩ := h
  subst hn
  intro H locs ls hP hD hS hl
  exact lv_pop hx hb hdg hva (k H locs ls hP hD hS hl)
theorem g_dup2 {va vb : Value} (h : gOk Γ cc Ts own) (hdg : decode cc pc = .ok (.dup2, 1)) (hn : pc + 1 = n) (hva : va.category = 1) (hvb : vb.category = 1) (k : G Γ ws kc ks n lv (va :: vb :: va :: vb :: st)) : G Γ ws kc ks pc lv (va :: vb :: st) := by
  obtain ⟨p, l, e, R, s, m, args, below, meth, c, D, Y, A, Q, nL⟩ := Γ
  obtain ⟨⟨hx, hb, hml, hown, hts⟩, hK, hA⟩ := h
  subst hn
  intro H locs ls hP hD hS hl
  exact lv_dup2_11 hx hb hdg hva hvb (k H locs ls hP hD hS hl)
theorem g_lcmp {x y : Int64} (h : gOk Γ cc Ts own) (hdg : decode cc pc = .ok (.lcmp, 1)) (hn : pc + 1 = n) (k : G Γ ws kc ks n lv (.int (lg_cmp x y) :: st)) : G Γ ws kc ks pc lv (.long y :: .long x :: st) := by
  obtain ⟨p, l, e, R, s, m, args, below, meth, c, D, Y, A, Q, nL⟩ := Γ
  obtain ⟨⟨hx, hb, hml, hown, hts⟩, hK, hA⟩ := h
  subst hn
  intro H locs ls hP hD hS hl
  exact W.lcmp hx hb hdg (k H locs ls hP hD hS hl)
theorem g_ldc {index : Nat} {v : Int32} (h : gOk Γ cc Ts own) (hdg : decode cc pc = .ok (.ldc index, 2)) (hn : pc + 2 = n) (hc : Jvm.Cond.constant own index v ∈ Ts) (k : G Γ ws kc ks n lv (.int v :: st)) : G Γ ws kc ks pc lv (st) := by
  obtain ⟨p, l, e, R, s, m, args, below, meth, c, D, Y, A, Q, nL⟩ := Γ
  obtain ⟨⟨hx, hb, hml, hown, hts⟩, hK, hA⟩ := h
  subst hn
  intro H locs ls hP hD hS hl
  exact lv_ldc hx hb hown (hts _ hc) hdg (k H locs ls hP hD hS hl)
theorem g_ldc2 {index : Nat} {v : Int64} (h : gOk Γ cc Ts own) (hdg : decode cc pc = .ok (.ldc2_w index, 3)) (hn : pc + 3 = n) (hc : Jvm.Cond.constantLong own index v ∈ Ts) (k : G Γ ws kc ks n lv (.long v :: st)) : G Γ ws kc ks pc lv (st) := by
  obtain ⟨p, l, e, R, s, m, args, below, meth, c, D, Y, A, Q, nL⟩ := Γ
  obtain ⟨⟨hx, hb, hml, hown, hts⟩, hK, hA⟩ := h
  subst hn
  intro H locs ls hP hD hS hl
  exact lv_ldc2 hx hb hown (hts _ hc) hdg (k H locs ls hP hD hS hl)
theorem g_goto {off : Int} (h : gOk Γ cc Ts own) (hdg : decode cc pc = .ok (.goto off, 3)) (ht : (pc : Int) + off = (n : Int)) (k : G Γ ws kc ks n lv st) : G Γ ws kc ks pc lv st := by
  obtain ⟨p, l, e, R, s, m, args, below, meth, c, D, Y, A, Q, nL⟩ := Γ
  obtain ⟨⟨hx, hb, hml, hown, hts⟩, hK, hA⟩ := h
  intro H locs ls hP hD hS hl
  exact lv_goto hx hb hdg ht (k H locs ls hP hD hS hl)
theorem g_if_eq {x : Int32} {off : Int} {tgt : Nat} (h : gOk Γ cc Ts own) (hdg : decode cc pc = .ok (.ifCond .eq off, 3)) (hn : pc + 3 = n) (ht : (pc : Int) + off = (tgt : Int)) (kt : x = 0 → G Γ ws kc ks tgt lv st) (kf : ¬ x = 0 → G Γ ws kc ks n lv st) : G Γ ws kc ks pc lv (.int x :: st) := by
  obtain ⟨p, l, e, R, s, m, args, below, meth, c, D, Y, A, Q, nL⟩ := Γ
  obtain ⟨⟨hx, hb, hml, hown, hts⟩, hK, hA⟩ := h
  subst hn
  intro H locs ls hP hD hS hl
  exact lv_if_eq hx hb hdg ht (fun q => kt q H locs ls hP hD hS hl) (fun q => kf q H locs ls hP hD hS hl)
theorem g_if_ne {x : Int32} {off : Int} {tgt : Nat} (h : gOk Γ cc Ts own) (hdg : decode cc pc = .ok (.ifCond .ne off, 3)) (hn : pc + 3 = n) (ht : (pc : Int) + off = (tgt : Int)) (kt : ¬ x = 0 → G Γ ws kc ks tgt lv st) (kf : x = 0 → G Γ ws kc ks n lv st) : G Γ ws kc ks pc lv (.int x :: st) := by
  obtain ⟨p, l, e, R, s, m, args, below, meth, c, D, Y, A, Q, nL⟩ := Γ
  obtain ⟨⟨hx, hb, hml, hown, hts⟩, hK, hA⟩ := h
  subst hn
  intro H locs ls hP hD hS hl
  exact lv_if_ne hx hb hdg ht (fun q => kt q H locs ls hP hD hS hl) (fun q => kf q H locs ls hP hD hS hl)
theorem g_if_lt {x : Int32} {off : Int} {tgt : Nat} (h : gOk Γ cc Ts own) (hdg : decode cc pc = .ok (.ifCond .lt off, 3)) (hn : pc + 3 = n) (ht : (pc : Int) + off = (tgt : Int)) (kt : x < 0 → G Γ ws kc ks tgt lv st) (kf : ¬ x < 0 → G Γ ws kc ks n lv st) : G Γ ws kc ks pc lv (.int x :: st) := by
  obtain ⟨p, l, e, R, s, m, args, below, meth, c, D, Y, A, Q, nL⟩ := Γ
  obtain ⟨⟨hx, hb, hml, hown, hts⟩, hK, hA⟩ := h
  subst hn
  intro H locs ls hP hD hS hl
  exact lv_if_lt hx hb hdg ht (fun q => kt q H locs ls hP hD hS hl) (fun q => kf q H locs ls hP hD hS hl)
theorem g_if_ge {x : Int32} {off : Int} {tgt : Nat} (h : gOk Γ cc Ts own) (hdg : decode cc pc = .ok (.ifCond .ge off, 3)) (hn : pc + 3 = n) (ht : (pc : Int) + off = (tgt : Int)) (kt : 0 ≤ x → G Γ ws kc ks tgt lv st) (kf : ¬ 0 ≤ x → G Γ ws kc ks n lv st) : G Γ ws kc ks pc lv (.int x :: st) := by
  obtain ⟨p, l, e, R, s, m, args, below, meth, c, D, Y, A, Q, nL⟩ := Γ
  obtain ⟨⟨hx, hb, hml, hown, hts⟩, hK, hA⟩ := h
  subst hn
  intro H locs ls hP hD hS hl
  exact lv_if_ge hx hb hdg ht (fun q => kt q H locs ls hP hD hS hl) (fun q => kf q H locs ls hP hD hS hl)
theorem g_if_gt {x : Int32} {off : Int} {tgt : Nat} (h : gOk Γ cc Ts own) (hdg : decode cc pc = .ok (.ifCond .gt off, 3)) (hn : pc + 3 = n) (ht : (pc : Int) + off = (tgt : Int)) (kt : 0 < x → G Γ ws kc ks tgt lv st) (kf : ¬ 0 < x → G Γ ws kc ks n lv st) : G Γ ws kc ks pc lv (.int x :: st) := by
  obtain ⟨p, l, e, R, s, m, args, below, meth, c, D, Y, A, Q, nL⟩ := Γ
  obtain ⟨⟨hx, hb, hml, hown, hts⟩, hK, hA⟩ := h
  subst hn
  intro H locs ls hP hD hS hl
  exact lv_if_gt hx hb hdg ht (fun q => kt q H locs ls hP hD hS hl) (fun q => kf q H locs ls hP hD hS hl)
theorem g_if_le {x : Int32} {off : Int} {tgt : Nat} (h : gOk Γ cc Ts own) (hdg : decode cc pc = .ok (.ifCond .le off, 3)) (hn : pc + 3 = n) (ht : (pc : Int) + off = (tgt : Int)) (kt : x ≤ 0 → G Γ ws kc ks tgt lv st) (kf : ¬ x ≤ 0 → G Γ ws kc ks n lv st) : G Γ ws kc ks pc lv (.int x :: st) := by
  obtain ⟨p, l, e, R, s, m, args, below, meth, c, D, Y, A, Q, nL⟩ := Γ
  obtain ⟨⟨hx, hb, hml, hown, hts⟩, hK, hA⟩ := h
  subst hn
  intro H locs ls hP hD hS hl
  exact lv_if_le hx hb hdg ht (fun q => kt q H locs ls hP hD hS hl) (fun q => kf q H locs ls hP hD hS hl)
theorem g_icmp_eq {x y : Int32} {off : Int} {tgt : Nat} (h : gOk Γ cc Ts own) (hdg : decode cc pc = .ok (.if_icmp .eq off, 3)) (hn : pc + 3 = n) (ht : (pc : Int) + off = (tgt : Int)) (kt : x = y → G Γ ws kc ks tgt lv st) (kf : ¬ x = y → G Γ ws kc ks n lv st) : G Γ ws kc ks pc lv (.int y :: .int x :: st) := by
  obtain ⟨p, l, e, R, s, m, args, below, meth, c, D, Y, A, Q, nL⟩ := Γ
  obtain ⟨⟨hx, hb, hml, hown, hts⟩, hK, hA⟩ := h
  subst hn
  intro H locs ls hP hD hS hl
  exact lv_icmp_eq hx hb hdg ht (fun q => kt q H locs ls hP hD hS hl) (fun q => kf q H locs ls hP hD hS hl)
theorem g_icmp_ne {x y : Int32} {off : Int} {tgt : Nat} (h : gOk Γ cc Ts own) (hdg : decode cc pc = .ok (.if_icmp .ne off, 3)) (hn : pc + 3 = n) (ht : (pc : Int) + off = (tgt : Int)) (kt : ¬ x = y → G Γ ws kc ks tgt lv st) (kf : x = y → G Γ ws kc ks n lv st) : G Γ ws kc ks pc lv (.int y :: .int x :: st) := by
  obtain ⟨p, l, e, R, s, m, args, below, meth, c, D, Y, A, Q, nL⟩ := Γ
  obtain ⟨⟨hx, hb, hml, hown, hts⟩, hK, hA⟩ := h
  subst hn
  intro H locs ls hP hD hS hl
  exact lv_icmp_ne hx hb hdg ht (fun q => kt q H locs ls hP hD hS hl) (fun q => kf q H locs ls hP hD hS hl)
theorem g_icmp_lt {x y : Int32} {off : Int} {tgt : Nat} (h : gOk Γ cc Ts own) (hdg : decode cc pc = .ok (.if_icmp .lt off, 3)) (hn : pc + 3 = n) (ht : (pc : Int) + off = (tgt : Int)) (kt : x < y → G Γ ws kc ks tgt lv st) (kf : ¬ x < y → G Γ ws kc ks n lv st) : G Γ ws kc ks pc lv (.int y :: .int x :: st) := by
  obtain ⟨p, l, e, R, s, m, args, below, meth, c, D, Y, A, Q, nL⟩ := Γ
  obtain ⟨⟨hx, hb, hml, hown, hts⟩, hK, hA⟩ := h
  subst hn
  intro H locs ls hP hD hS hl
  exact lv_icmp_lt hx hb hdg ht (fun q => kt q H locs ls hP hD hS hl) (fun q => kf q H locs ls hP hD hS hl)
theorem g_icmp_ge {x y : Int32} {off : Int} {tgt : Nat} (h : gOk Γ cc Ts own) (hdg : decode cc pc = .ok (.if_icmp .ge off, 3)) (hn : pc + 3 = n) (ht : (pc : Int) + off = (tgt : Int)) (kt : y ≤ x → G Γ ws kc ks tgt lv st) (kf : ¬ y ≤ x → G Γ ws kc ks n lv st) : G Γ ws kc ks pc lv (.int y :: .int x :: st) := by
  obtain ⟨p, l, e, R, s, m, args, below, meth, c, D, Y, A, Q, nL⟩ := Γ
  obtain ⟨⟨hx, hb, hml, hown, hts⟩, hK, hA⟩ := h
  subst hn
  intro H locs ls hP hD hS hl
  exact lv_icmp_ge hx hb hdg ht (fun q => kt q H locs ls hP hD hS hl) (fun q => kf q H locs ls hP hD hS hl)
theorem g_icmp_gt {x y : Int32} {off : Int} {tgt : Nat} (h : gOk Γ cc Ts own) (hdg : decode cc pc = .ok (.if_icmp .gt off, 3)) (hn : pc + 3 = n) (ht : (pc : Int) + off = (tgt : Int)) (kt : y < x → G Γ ws kc ks tgt lv st) (kf : ¬ y < x → G Γ ws kc ks n lv st) : G Γ ws kc ks pc lv (.int y :: .int x :: st) := by
  obtain ⟨p, l, e, R, s, m, args, below, meth, c, D, Y, A, Q, nL⟩ := Γ
  obtain ⟨⟨hx, hb, hml, hown, hts⟩, hK, hA⟩ := h
  subst hn
  intro H locs ls hP hD hS hl
  exact lv_icmp_gt hx hb hdg ht (fun q => kt q H locs ls hP hD hS hl) (fun q => kf q H locs ls hP hD hS hl)
theorem g_icmp_le {x y : Int32} {off : Int} {tgt : Nat} (h : gOk Γ cc Ts own) (hdg : decode cc pc = .ok (.if_icmp .le off, 3)) (hn : pc + 3 = n) (ht : (pc : Int) + off = (tgt : Int)) (kt : x ≤ y → G Γ ws kc ks tgt lv st) (kf : ¬ x ≤ y → G Γ ws kc ks n lv st) : G Γ ws kc ks pc lv (.int y :: .int x :: st) := by
  obtain ⟨p, l, e, R, s, m, args, below, meth, c, D, Y, A, Q, nL⟩ := Γ
  obtain ⟨⟨hx, hb, hml, hown, hts⟩, hK, hA⟩ := h
  subst hn
  intro H locs ls hP hD hS hl
  exact lv_icmp_le hx hb hdg ht (fun q => kt q H locs ls hP hD hS hl) (fun q => kf q H locs ls hP hD hS hl)
theorem g_ifnonnull {x : Nat} {off : Int} {tgt : Nat} (h : gOk Γ cc Ts own) (hdg : decode cc pc = .ok (.ifnonnull off, 3)) (ht : (pc : Int) + off = (tgt : Int)) (k : G Γ ws kc ks tgt lv st) : G Γ ws kc ks pc lv (.ref x :: st) := by
  obtain ⟨p, l, e, R, s, m, args, below, meth, c, D, Y, A, Q, nL⟩ := Γ
  obtain ⟨⟨hx, hb, hml, hown, hts⟩, hK, hA⟩ := h
  intro H locs ls hP hD hS hl
  exact lv_ifnonnull hx hb hdg ht (k H locs ls hP hD hS hl)
theorem g_ifnonnullN {off : Int} (h : gOk Γ cc Ts own) (hdg : decode cc pc = .ok (.ifnonnull off, 3)) (hn : pc + 3 = n) (k : G Γ ws kc ks n lv st) : G Γ ws kc ks pc lv (.null :: st) := by
  obtain ⟨p, l, e, R, s, m, args, below, meth, c, D, Y, A, Q, nL⟩ := Γ
  obtain ⟨⟨hx, hb, hml, hown, hts⟩, hK, hA⟩ := h
  subst hn
  intro H locs ls hP hD hS hl
  exact lv_ifnonnullN hx hb hdg (k H locs ls hP hD hS hl)
theorem g_ifnull {x : Nat} {off : Int} (h : gOk Γ cc Ts own) (hdg : decode cc pc = .ok (.ifnull off, 3)) (hn : pc + 3 = n) (k : G Γ ws kc ks n lv st) : G Γ ws kc ks pc lv (.ref x :: st) := by
  obtain ⟨p, l, e, R, s, m, args, below, meth, c, D, Y, A, Q, nL⟩ := Γ
  obtain ⟨⟨hx, hb, hml, hown, hts⟩, hK, hA⟩ := h
  subst hn
  intro H locs ls hP hD hS hl
  exact lv_ifnull hx hb hdg (k H locs ls hP hD hS hl)
theorem g_ifnullN {off : Int} {tgt : Nat} (h : gOk Γ cc Ts own) (hdg : decode cc pc = .ok (.ifnull off, 3)) (ht : (pc : Int) + off = (tgt : Int)) (k : G Γ ws kc ks tgt lv st) : G Γ ws kc ks pc lv (.null :: st) := by
  obtain ⟨p, l, e, R, s, m, args, below, meth, c, D, Y, A, Q, nL⟩ := Γ
  obtain ⟨⟨hx, hb, hml, hown, hts⟩, hK, hA⟩ := h
  intro H locs ls hP hD hS hl
  exact lv_ifnullN hx hb hdg ht (k H locs ls hP hD hS hl)
theorem g_acmp_eq {rx ry : Option Nat} {off : Int} {tgt : Nat} (h : gOk Γ cc Ts own) (hdg : decode cc pc = .ok (.if_acmp .eq off, 3)) (hn : pc + 3 = n) (ht : (pc : Int) + off = (tgt : Int)) (kt : rx = ry → G Γ ws kc ks tgt lv st) (kf : ¬ rx = ry → G Γ ws kc ks n lv st) : G Γ ws kc ks pc lv (va_rf ry :: va_rf rx :: st) := by
  obtain ⟨p, l, e, R, s, m, args, below, meth, c, D, Y, A, Q, nL⟩ := Γ
  obtain ⟨⟨hx, hb, hml, hown, hts⟩, hK, hA⟩ := h
  subst hn
  intro H locs ls hP hD hS hl
  exact lv_acmp_eq hx hb hdg ht (fun q => kt q H locs ls hP hD hS hl) (fun q => kf q H locs ls hP hD hS hl)
theorem g_acmp_ne {rx ry : Option Nat} {off : Int} {tgt : Nat} (h : gOk Γ cc Ts own) (hdg : decode cc pc = .ok (.if_acmp .ne off, 3)) (hn : pc + 3 = n) (ht : (pc : Int) + off = (tgt : Int)) (kt : ¬ rx = ry → G Γ ws kc ks tgt lv st) (kf : rx = ry → G Γ ws kc ks n lv st) : G Γ ws kc ks pc lv (va_rf ry :: va_rf rx :: st) := by
  obtain ⟨p, l, e, R, s, m, args, below, meth, c, D, Y, A, Q, nL⟩ := Γ
  obtain ⟨⟨hx, hb, hml, hown, hts⟩, hK, hA⟩ := h
  subst hn
  intro H locs ls hP hD hS hl
  exact lv_acmp_ne hx hb hdg ht (fun q => kt q H locs ls hP hD hS hl) (fun q => kf q H locs ls hP hD hS hl)
theorem g_tableOut {dflt lo hi : Int} {offs : Array Int} {len : Nat} {x : Int32} (h : gOk Γ cc Ts own) (hdg : decode cc pc = .ok (.tableswitch dflt lo hi offs, len)) (hr : x.toInt < lo ∨ hi < x.toInt) (ht : (pc : Int) + dflt = (n : Int)) (k : G Γ ws kc ks n lv st) : G Γ ws kc ks pc lv (.int x :: st) := by
  obtain ⟨p, l, e, R, s, m, args, below, meth, c, D, Y, A, Q, nL⟩ := Γ
  obtain ⟨⟨hx, hb, hml, hown, hts⟩, hK, hA⟩ := h
  intro H locs ls hP hD hS hl
  exact lv_tableOut hx hb hdg hr ht (k H locs ls hP hD hS hl)
theorem g_tableIn {dflt lo hi : Int} {offs : Array Int} {len : Nat} {x : Int32} {off : Int} (h : gOk Γ cc Ts own) (hdg : decode cc pc = .ok (.tableswitch dflt lo hi offs, len)) (h1 : ¬ x.toInt < lo) (h2 : ¬ hi < x.toInt) (ho : offs[(x.toInt - lo).toNat]? = some off) (ht : (pc : Int) + off = (n : Int)) (k : G Γ ws kc ks n lv st) : G Γ ws kc ks pc lv (.int x :: st) := by
  obtain ⟨p, l, e, R, s, m, args, below, meth, c, D, Y, A, Q, nL⟩ := Γ
  obtain ⟨⟨hx, hb, hml, hown, hts⟩, hK, hA⟩ := h
  intro H locs ls hP hD hS hl
  exact lv_tableIn hx hb hdg h1 h2 ho ht (k H locs ls hP hD hS hl)
theorem g_istore_n {z : Fin 4} {i : Nat} {x : Int32} (h : gOk Γ cc Ts own) (hdg : decode cc pc = .ok (.istore_n z, 1)) (hn : pc + 1 = n) (hi : (z : Nat) = i) (hs : Nat.blt i (gnL Γ) = true) (hv : gst lv i (.int x) = lv') (k : G Γ ws kc ks n lv' st) : G Γ ws kc ks pc lv (.int x :: st) := by
  obtain ⟨p, l, e, R, s, m, args, below, meth, c, D, Y, A, Q, nL⟩ := Γ
  obtain ⟨⟨hx, hb, hml, hown, hts⟩, hK, hA⟩ := h
  subst hn
  intro H locs ls hP hD hS hl
  exact lv_istore_n hx hb hdg hi hl (Nat.blt_eq ▸ hs) hv (fun ls1 hl1 => k H locs ls1 hP hD hS hl1)
theorem g_istore {i : Nat} {x : Int32} (h : gOk Γ cc Ts own) (hdg : decode cc pc = .ok (.istore i, 2)) (hn : pc + 2 = n) (hs : Nat.blt i (gnL Γ) = true) (hv : gst lv i (.int x) = lv') (k : G Γ ws kc ks n lv' st) : G Γ ws kc ks pc lv (.int x :: st) := by
  obtain ⟨p, l, e, R, s, m, args, below, meth, c, D, Y, A, Q, nL⟩ := Γ
  obtain ⟨⟨hx, hb, hml, hown, hts⟩, hK, hA⟩ := h
  subst hn
  intro H locs ls hP hD hS hl
  exact lv_istore hx hb hdg hl (Nat.blt_eq ▸ hs) hv (fun ls1 hl1 => k H locs ls1 hP hD hS hl1)
theorem g_astore_n {z : Fin 4} {i : Nat} {x : Nat} (h : gOk Γ cc Ts own) (hdg : decode cc pc = .ok (.astore_n z, 1)) (hn : pc + 1 = n) (hi : (z : Nat) = i) (hs : Nat.blt i (gnL Γ) = true) (hv : gst lv i (.ref x) = lv') (k : G Γ ws kc ks n lv' st) : G Γ ws kc ks pc lv (.ref x :: st) := by
  obtain ⟨p, l, e, R, s, m, args, below, meth, c, D, Y, A, Q, nL⟩ := Γ
  obtain ⟨⟨hx, hb, hml, hown, hts⟩, hK, hA⟩ := h
  subst hn
  intro H locs ls hP hD hS hl
  exact lv_astore_n hx hb hdg hi hl (Nat.blt_eq ▸ hs) hv (fun ls1 hl1 => k H locs ls1 hP hD hS hl1)
theorem g_astore {i : Nat} {x : Nat} (h : gOk Γ cc Ts own) (hdg : decode cc pc = .ok (.astore i, 2)) (hn : pc + 2 = n) (hs : Nat.blt i (gnL Γ) = true) (hv : gst lv i (.ref x) = lv') (k : G Γ ws kc ks n lv' st) : G Γ ws kc ks pc lv (.ref x :: st) := by
  obtain ⟨p, l, e, R, s, m, args, below, meth, c, D, Y, A, Q, nL⟩ := Γ
  obtain ⟨⟨hx, hb, hml, hown, hts⟩, hK, hA⟩ := h
  subst hn
  intro H locs ls hP hD hS hl
  exact lv_astore hx hb hdg hl (Nat.blt_eq ▸ hs) hv (fun ls1 hl1 => k H locs ls1 hP hD hS hl1)
theorem g_astore_nN {z : Fin 4} {i : Nat} (h : gOk Γ cc Ts own) (hdg : decode cc pc = .ok (.astore_n z, 1)) (hn : pc + 1 = n) (hi : (z : Nat) = i) (hs : Nat.blt i (gnL Γ) = true) (hv : gst lv i .null = lv') (k : G Γ ws kc ks n lv' st) : G Γ ws kc ks pc lv (.null :: st) := by
  obtain ⟨p, l, e, R, s, m, args, below, meth, c, D, Y, A, Q, nL⟩ := Γ
  obtain ⟨⟨hx, hb, hml, hown, hts⟩, hK, hA⟩ := h
  subst hn
  intro H locs ls hP hD hS hl
  exact lv_astore_nN hx hb hdg hi hl (Nat.blt_eq ▸ hs) hv (fun ls1 hl1 => k H locs ls1 hP hD hS hl1)
theorem g_astoreN {i : Nat} (h : gOk Γ cc Ts own) (hdg : decode cc pc = .ok (.astore i, 2)) (hn : pc + 2 = n) (hs : Nat.blt i (gnL Γ) = true) (hv : gst lv i .null = lv') (k : G Γ ws kc ks n lv' st) : G Γ ws kc ks pc lv (.null :: st) := by
  obtain ⟨p, l, e, R, s, m, args, below, meth, c, D, Y, A, Q, nL⟩ := Γ
  obtain ⟨⟨hx, hb, hml, hown, hts⟩, hK, hA⟩ := h
  subst hn
  intro H locs ls hP hD hS hl
  exact lv_astoreN hx hb hdg hl (Nat.blt_eq ▸ hs) hv (fun ls1 hl1 => k H locs ls1 hP hD hS hl1)
theorem g_lstore {i : Nat} {x : Int64} (h : gOk Γ cc Ts own) (hdg : decode cc pc = .ok (.lstore i, 2)) (hn : pc + 2 = n) (hs : Nat.blt (i + 1) (gnL Γ) = true) (hv : gst2 lv i (.long x) = lv') (k : G Γ ws kc ks n lv' st) : G Γ ws kc ks pc lv (.long x :: st) := by
  obtain ⟨p, l, e, R, s, m, args, below, meth, c, D, Y, A, Q, nL⟩ := Γ
  obtain ⟨⟨hx, hb, hml, hown, hts⟩, hK, hA⟩ := h
  subst hn
  intro H locs ls hP hD hS hl
  exact lv_lstore hx hb hdg hl (Nat.blt_eq ▸ hs) hv (fun ls1 hl1 => k H locs ls1 hP hD hS hl1)
theorem g_iinc {i : Nat} {z : Int} {x v : Int32} (h : gOk Γ cc Ts own) (hdg : decode cc pc = .ok (.iinc i z, 3)) (hn : pc + 3 = n) (hx0 : gl lv i = some (.int x)) (hv : x + Int32.ofInt z = v) (hs : Nat.blt i (gnL Γ) = true) (hv2 : gst lv i (.int v) = lv') (k : G Γ ws kc ks n lv' st) : G Γ ws kc ks pc lv st := by
  obtain ⟨p, l, e, R, s, m, args, below, meth, c, D, Y, A, Q, nL⟩ := Γ
  obtain ⟨⟨hx, hb, hml, hown, hts⟩, hK, hA⟩ := h
  subst hn
  intro H locs ls hP hD hS hl
  obtain ⟨k0, hk0⟩ := List.getElem?_of_mem (gl_in hx0)
  exact lv_iinc hx hb hdg hl (k := k0) hk0 hv (Nat.blt_eq ▸ hs) hv2 (fun ls1 hl1 => k H locs ls1 hP hD hS hl1)
theorem g_lv {lv' : List (Nat × Value)} (hv : ∀ q ∈ lv', q ∈ lv) (k : G Γ ws kc ks pc lv' st) : G Γ ws kc ks pc lv st := by
  obtain ⟨p, l, e, R, s, m, args, below, meth, c, D, Y, A, Q, nL⟩ := Γ
  intro H locs ls hP hD hS hl
  exact k H locs ls hP hD hS ⟨hl.1, hl.2.1, fun q h => hl.2.2 q (hv q h)⟩
theorem g_widen {kc' ks' : Nat} (h1 : kc ≤ kc') (h2 : ks ≤ ks') (k : G Γ ws kc' ks' pc lv st) : G Γ ws kc ks pc lv st := by
  obtain ⟨p, l, e, R, s, m, args, below, meth, c, D, Y, A, Q, nL⟩ := Γ
  intro H locs ls hP hD hS hl
  exact W.widen h1 h2 (k H locs ls hP hD hS hl)
theorem g_ws {ws' : va_W} (e : ws = ws') (k : G Γ ws' kc ks pc lv st) : G Γ ws kc ks pc lv st := e ▸ k
theorem g_topi {x : Int32} (k : ∀ y : Int32, y = x → G Γ ws kc ks pc lv (.int y :: st)) : G Γ ws kc ks pc lv (.int x :: st) := k x rfl
theorem g_get {C ref : String} {T : u_T} {N ci index a : Nat} (h : gOk Γ cc Ts own) (hdg : decode cc pc = .ok (.getfield index, 3)) (hn : pc + 3 = n) (hin : ∀ w ∈ u_ws C T N, w ∈ Ts) (q0 : Nat) {fs : List Value} (he : ws[q0]? = some (a, .inr (ci, fs))) (hc : vwCl[ci]? = some (C, T, N)) (k0 : Nat) (hk : k0 < N) (hlink : Cond.fieldLink own index ref (T k0).2.1 (T k0).2.2.1 ∈ Ts) (href : (T k0).1 = ref) {v : Value} (hv : fs[k0]? = some v) (k : G Γ ws kc ks n lv (v :: st)) : G Γ ws kc ks pc lv (.ref a :: st) := by
  obtain ⟨p, l, e, R, s, m, args, below, meth, c, D, Y, A, Q, nL⟩ := Γ
  obtain ⟨⟨hx, hb, hml, hown, hts⟩, hK, hA⟩ := h
  subst hn
  intro H locs ls hP hD hS hl
  exact va_get hx hb hts hin hown hK hP q0 he hc k0 hk (hts _ hlink) (fun _ h9 => by rw [← href]; exact h9) hv hdg (k H locs ls hP hD hS hl)
theorem g_put {C ref : String} {T : u_T} {N ci index a : Nat} (ty0 : Nat → FieldType) (hty : ∀ k, k < N → parseFieldDescriptor (T k).2.2.1 = some (ty0 k)) (hnm : ∀ a, a < N → ∀ b, b < N → a ≠ b → (T a).2.1 ≠ (T b).2.1) (h : gOk Γ cc Ts own) (hdg : decode cc pc = .ok (.putfield index, 3)) (hn : pc + 3 = n) (hin : ∀ w ∈ u_ws C T N, w ∈ Ts) (q0 : Nat) {fs : List Value} (he : ws[q0]? = some (a, .inr (ci, fs))) (hc : vwCl[ci]? = some (C, T, N)) (k0 : Nat) (hk : k0 < N) (hlink : Cond.fieldLink own index ref (T k0).2.1 (T k0).2.2.1 ∈ Ts) (href : (T k0).1 = ref) (hfin : (T k0).2.2.2 = false) {v : Value} (hna : narrow (ty0 k0) v = v) (hfit : fits (ty0 k0) v = true) (hle : k0 < fs.length) (k : G Γ (ws.set q0 (a, .inr (ci, fs.set k0 v))) kc ks n lv st) : G Γ ws kc ks pc lv (v :: .ref a :: st) := by
  obtain ⟨p, l, e, R, s, m, args, below, meth, c, D, Y, A, Q, nL⟩ := Γ
  obtain ⟨⟨hx, hb, hml, hown, hts⟩, hK, hA⟩ := h
  subst hn
  intro H locs ls hP hD hS hl
  exact va_put hx hb hts hin ty0 hty hnm hown hK hP hD hS q0 he hc k0 hk (hts _ hlink) (fun _ h9 => by rw [← href]; exact h9) hfin (hty k0 hk) hna hfit hle hdg (fun H1 locs1 hP1 hD1 hS1 => k H1 locs1 ls hP1 hD1 hS1 hl)
def gInit : gT → Prop | (_, _, _, _, _, _, _, _, meth, _) => meth.name = "<init>"
theorem g_putF {C ref : String} {T : u_T} {N ci index a : Nat} (ty0 : Nat → FieldType) (hty : ∀ k, k < N → parseFieldDescriptor (T k).2.2.1 = some (ty0 k)) (hnm : ∀ a, a < N → ∀ b, b < N → a ≠ b → (T a).2.1 ≠ (T b).2.1) (h : gOk Γ cc Ts own) (hI : gInit Γ) (hdg : decode cc pc = .ok (.putfield index, 3)) (hn : pc + 3 = n) (hin : ∀ w ∈ u_ws C T N, w ∈ Ts) (q0 : Nat) {fs : List Value} (he : ws[q0]? = some (a, .inr (ci, fs))) (hc : vwCl[ci]? = some (C, T, N)) (k0 : Nat) (hk : k0 < N) (hlink : Cond.fieldLink own index ref (T k0).2.1 (T k0).2.2.1 ∈ Ts) (href : (T k0).1 = ref) (hfin : (T k0).2.2.2 = true) (hdecl : (T k0).1 = own) {v : Value} (hna : narrow (ty0 k0) v = v) (hfit : fits (ty0 k0) v = true) (hle : k0 < fs.length) (k : G Γ (ws.set q0 (a, .inr (ci, fs.set k0 v))) kc ks n lv st) : G Γ ws kc ks pc lv (v :: .ref a :: st) := by
  obtain ⟨p, l, e, R, s, m, args, below, meth, c, D, Y, A, Q, nL⟩ := Γ
  obtain ⟨⟨hx, hb, hml, hown, hts⟩, hK, hA⟩ := h
  subst hn
  intro H locs ls hP hD hS hl
  exact va_putF hx hb hts hin ty0 hty hnm hown hK hP hD hS q0 he hc k0 hk (hts _ hlink) (fun _ h9 => by rw [← href]; exact h9) hfin hI hdecl (hty k0 hk) hna hfit hle hdg (fun H1 locs1 hP1 hD1 hS1 => k H1 locs1 ls hP1 hD1 hS1 hl)
theorem g_iald {a : Nat} (h : gOk Γ cc Ts own) (hdg : decode cc pc = .ok (.iaload, 1)) (hn : pc + 1 = n) (q0 t0 : Nat) {cA : ClassId} {N : Nat} {f : Nat → Int32} (ha : ws[q0]? = some (a, .inl (cA, N, .inl f))) (ht : (gY Γ)[t0]? = some (cA, .int)) {i : Int32} (hi : vp_in i N) {v : Int32} (hv : f i.toNatClampNeg = v) (k : G Γ ws kc ks n lv (.int v :: st)) : G Γ ws kc ks pc lv (.int i :: .ref a :: st) := by
  obtain ⟨p, l, e, R, s, m, args, below, meth, c, D, Y, A, Q, nL⟩ := Γ
  obtain ⟨⟨hx, hb, hml, hown, hts⟩, hK, hA⟩ := h
  subst hn
  subst hv
  intro H locs ls hP hD hS hl
  exact va_iald hx hb hK hP q0 t0 ha ht hi hdg (k H locs ls hP hD hS hl)
theorem g_bald {a : Nat} (h : gOk Γ cc Ts own) (hdg : decode cc pc = .ok (.baload, 1)) (hn : pc + 1 = n) (q0 t0 : Nat) {cA : ClassId} {N : Nat} {f : Nat → Int32} (ha : ws[q0]? = some (a, .inl (cA, N, .inl f))) (ht : (gY Γ)[t0]? = some (cA, .byte)) {i : Int32} (hi : vp_in i N) {v : Int32} (hv : f i.toNatClampNeg = v) (k : G Γ ws kc ks n lv (.int v :: st)) : G Γ ws kc ks pc lv (.int i :: .ref a :: st) := by
  obtain ⟨p, l, e, R, s, m, args, below, meth, c, D, Y, A, Q, nL⟩ := Γ
  obtain ⟨⟨hx, hb, hml, hown, hts⟩, hK, hA⟩ := h
  subst hn
  subst hv
  intro H locs ls hP hD hS hl
  exact va_bald hx hb hK hP q0 t0 ha ht hi hdg (k H locs ls hP hD hS hl)
theorem g_zald {a : Nat} (h : gOk Γ cc Ts own) (hdg : decode cc pc = .ok (.baload, 1)) (hn : pc + 1 = n) (q0 t0 : Nat) {cA : ClassId} {N : Nat} {f : Nat → Int32} (ha : ws[q0]? = some (a, .inl (cA, N, .inl f))) (ht : (gY Γ)[t0]? = some (cA, .boolean)) {i : Int32} (hi : vp_in i N) {v : Int32} (hv : f i.toNatClampNeg = v) (k : G Γ ws kc ks n lv (.int v :: st)) : G Γ ws kc ks pc lv (.int i :: .ref a :: st) := by
  obtain ⟨p, l, e, R, s, m, args, below, meth, c, D, Y, A, Q, nL⟩ := Γ
  obtain ⟨⟨hx, hb, hml, hown, hts⟩, hK, hA⟩ := h
  subst hn
  subst hv
  intro H locs ls hP hD hS hl
  exact va_zald hx hb hK hP q0 t0 ha ht hi hdg (k H locs ls hP hD hS hl)
theorem g_lald {a : Nat} (h : gOk Γ cc Ts own) (hdg : decode cc pc = .ok (.laload, 1)) (hn : pc + 1 = n) (q0 t0 : Nat) {cA : ClassId} {N : Nat} {f : Nat → Int64} (ha : ws[q0]? = some (a, .inl (cA, N, .inr (.inl f)))) (ht : (gY Γ)[t0]? = some (cA, .long)) {i : Int32} (hi : vp_in i N) {v : Int64} (hv : f i.toNatClampNeg = v) (k : G Γ ws kc ks n lv (.long v :: st)) : G Γ ws kc ks pc lv (.int i :: .ref a :: st) := by
  obtain ⟨p, l, e, R, s, m, args, below, meth, c, D, Y, A, Q, nL⟩ := Γ
  obtain ⟨⟨hx, hb, hml, hown, hts⟩, hK, hA⟩ := h
  subst hn
  subst hv
  intro H locs ls hP hD hS hl
  exact va_lald hx hb hK hP q0 t0 ha ht hi hdg (k H locs ls hP hD hS hl)
theorem g_aald {a : Nat} (h : gOk Γ cc Ts own) (hdg : decode cc pc = .ok (.aaload, 1)) (hn : pc + 1 = n) (q0 t0 : Nat) {cA : ClassId} {C : String} {N : Nat} {f : Nat → Option Nat} (ha : ws[q0]? = some (a, .inl (cA, N, .inr (.inr (.inr (.inr f)))))) (ht : (gY Γ)[t0]? = some (cA, .object C)) {i : Int32} (hi : vp_in i N) {r : Option Nat} (hv : f i.toNatClampNeg = r) (k : G Γ ws kc ks n lv (va_rf r :: st)) : G Γ ws kc ks pc lv (.int i :: .ref a :: st) := by
  obtain ⟨p, l, e, R, s, m, args, below, meth, c, D, Y, A, Q, nL⟩ := Γ
  obtain ⟨⟨hx, hb, hml, hown, hts⟩, hK, hA⟩ := h
  subst hn
  subst hv
  intro H locs ls hP hD hS hl
  exact va_aldq hx hb hK hP q0 t0 ha ht hi hdg (k H locs ls hP hD hS hl)
theorem g_iast {a : Nat} (h : gOk Γ cc Ts own) (hdg : decode cc pc = .ok (.iastore, 1)) (hn : pc + 1 = n) (q0 t0 : Nat) {cA : ClassId} {N : Nat} {f : Nat → Int32} (ha : ws[q0]? = some (a, .inl (cA, N, .inl f))) (ht : (gY Γ)[t0]? = some (cA, .int)) {i x : Int32} (hi : vp_in i N) (k : G Γ (ws.set q0 (a, .inl (cA, N, .inl (upd f i.toNatClampNeg (x))))) kc ks n lv st) : G Γ ws kc ks pc lv (.int x :: .int i :: .ref a :: st) := by
  obtain ⟨p, l, e, R, s, m, args, below, meth, c, D, Y, A, Q, nL⟩ := Γ
  obtain ⟨⟨hx, hb, hml, hown, hts⟩, hK, hA⟩ := h
  subst hn
  intro H locs ls hP hD hS hl
  exact va_iast hx hb hK hP hD hS q0 t0 ha ht hi hdg (fun H1 locs1 hP1 hD1 hS1 => k H1 locs1 ls hP1 hD1 hS1 hl)
theorem g_bast {a : Nat} (h : gOk Γ cc Ts own) (hdg : decode cc pc = .ok (.bastore, 1)) (hn : pc + 1 = n) (q0 t0 : Nat) {cA : ClassId} {N : Nat} {f : Nat → Int32} (ha : ws[q0]? = some (a, .inl (cA, N, .inl f))) (ht : (gY Γ)[t0]? = some (cA, .byte)) {i x : Int32} (hi : vp_in i N) (k : G Γ (ws.set q0 (a, .inl (cA, N, .inl (upd f i.toNatClampNeg (vp_nar .byte x))))) kc ks n lv st) : G Γ ws kc ks pc lv (.int x :: .int i :: .ref a :: st) := by
  obtain ⟨p, l, e, R, s, m, args, below, meth, c, D, Y, A, Q, nL⟩ := Γ
  obtain ⟨⟨hx, hb, hml, hown, hts⟩, hK, hA⟩ := h
  subst hn
  intro H locs ls hP hD hS hl
  exact va_bast hx hb hK hP hD hS q0 t0 ha ht hi hdg (fun H1 locs1 hP1 hD1 hS1 => k H1 locs1 ls hP1 hD1 hS1 hl)
theorem g_zast {a : Nat} (h : gOk Γ cc Ts own) (hdg : decode cc pc = .ok (.bastore, 1)) (hn : pc + 1 = n) (q0 t0 : Nat) {cA : ClassId} {N : Nat} {f : Nat → Int32} (ha : ws[q0]? = some (a, .inl (cA, N, .inl f))) (ht : (gY Γ)[t0]? = some (cA, .boolean)) {i x : Int32} (hi : vp_in i N) (k : G Γ (ws.set q0 (a, .inl (cA, N, .inl (upd f i.toNatClampNeg (vp_nar .boolean x))))) kc ks n lv st) : G Γ ws kc ks pc lv (.int x :: .int i :: .ref a :: st) := by
  obtain ⟨p, l, e, R, s, m, args, below, meth, c, D, Y, A, Q, nL⟩ := Γ
  obtain ⟨⟨hx, hb, hml, hown, hts⟩, hK, hA⟩ := h
  subst hn
  intro H locs ls hP hD hS hl
  exact va_zast hx hb hK hP hD hS q0 t0 ha ht hi hdg (fun H1 locs1 hP1 hD1 hS1 => k H1 locs1 ls hP1 hD1 hS1 hl)
theorem g_last {a : Nat} (h : gOk Γ cc Ts own) (hdg : decode cc pc = .ok (.lastore, 1)) (hn : pc + 1 = n) (q0 t0 : Nat) {cA : ClassId} {N : Nat} {f : Nat → Int64} (ha : ws[q0]? = some (a, .inl (cA, N, .inr (.inl f)))) (ht : (gY Γ)[t0]? = some (cA, .long)) {i : Int32} {x : Int64} (hi : vp_in i N) (k : G Γ (ws.set q0 (a, .inl (cA, N, .inr (.inl (vp_updL f i.toNatClampNeg x))))) kc ks n lv st) : G Γ ws kc ks pc lv (.long x :: .int i :: .ref a :: st) := by
  obtain ⟨p, l, e, R, s, m, args, below, meth, c, D, Y, A, Q, nL⟩ := Γ
  obtain ⟨⟨hx, hb, hml, hown, hts⟩, hK, hA⟩ := h
  subst hn
  intro H locs ls hP hD hS hl
  exact va_last hx hb hK hP hD hS q0 t0 ha ht hi hdg (fun H1 locs1 hP1 hD1 hS1 => k H1 locs1 ls hP1 hD1 hS1 hl)
theorem g_aast {a : Nat} (h : gOk Γ cc Ts own) (hdg : decode cc pc = .ok (.aastore, 1)) (hn : pc + 1 = n) (q0 t0 qk ci : Nat) {cA : ClassId} {r : vw_C} {N v : Nat} {vs : List Value} {f : Nat → Option Nat} (ha : ws[q0]? = some (a, .inl (cA, N, .inr (.inr (.inr (.inr f)))))) (ht : (gY Γ)[t0]? = some (cA, .object r.1)) (hv : ws[qk]? = some (v, .inr (ci, vs))) (hc : vwCl[ci]? = some r) {i : Int32} (hi : vp_in i N) (k : G Γ (ws.set q0 (a, .inl (cA, N, .inr (.inr (.inr (.inr (va_up f i.toNatClampNeg (some v)))))))) kc ks n lv st) : G Γ ws kc ks pc lv (.ref v :: .int i :: .ref a :: st) := by
  obtain ⟨p, l, e, R, s, m, args, below, meth, c, D, Y, A, Q, nL⟩ := Γ
  obtain ⟨⟨hx, hb, hml, hown, hts⟩, hK, hA⟩ := h
  subst hn
  intro H locs ls hP hD hS hl
  exact va_astq hx hb hK hP hD hS q0 t0 qk ci ha ht hv hc hi hdg (fun H1 locs1 hP1 hD1 hS1 => k H1 locs1 ls hP1 hD1 hS1 hl)
theorem g_alen {a : Nat} (h : gOk Γ cc Ts own) (hdg : decode cc pc = .ok (.arraylength, 1)) (hn : pc + 1 = n) (q0 t0 : Nat) {cA : ClassId} {x : vp_A} (ha : ws[q0]? = some (a, .inl (cA, x))) {ty : FieldType} (ht : (gY Γ)[t0]? = some (cA, ty)) {v : Int32} (hv : Int32.ofNat x.1 = v) (k : G Γ ws kc ks n lv (.int v :: st)) : G Γ ws kc ks pc lv (.ref a :: st) := by
  obtain ⟨p, l, e, R, s, m, args, below, meth, c, D, Y, A, Q, nL⟩ := Γ
  obtain ⟨⟨hx, hb, hml, hown, hts⟩, hK, hA⟩ := h
  subst hn
  intro H locs ls hP hD hS hl
  exact va_alen hx hb hK hP q0 t0 ha ht hv hdg (k H locs ls hP hD hS hl)
theorem g_new {C : String} {T : u_T} {N ci index : Nat} (ty : Nat → FieldType) (hty : ∀ k, k < N → parseFieldDescriptor (T k).2.2.1 = some (ty k)) (h : gOk Γ cc Ts own) (hdg : decode cc pc = .ok (.new index, 3)) (hn : pc + 3 = n) (hin : ∀ w ∈ u_ws C T N, w ∈ Ts) (hcl : Cond.classLink own index C ∈ Ts) (hinst : Cond.instantiable C N ∈ Ts) (hini : Cond.initialized C ∈ Ts) (hc : vwCl[ci]? = some (C, T, N)) {fs : List Value} (hfs : ∀ j, j < N → defaultValue (ty j) = vp_V fs j) (hcells : kc + 1 ≤ (gRm Γ).cells) (hslots : ks + N ≤ (gRm Γ).slots) (k : ∀ q : Nat, (∀ e ∈ ws, e.1 ≠ q) → G Γ (ws ++ [(q, .inr (ci, fs))]) (kc + 1) (ks + N) n lv (.ref q :: st)) : G Γ ws kc ks pc lv st := by
  obtain ⟨p, l, e, R, s, m, args, below, meth, c, D, Y, A, Q, nL⟩ := Γ
  obtain ⟨⟨hx, hb, hml, hown, hts⟩, hK, hA⟩ := h
  subst hn
  intro H locs ls hP hD hS hl
  refine va_new hx hb hts hin ty hty hown (hts _ hcl) (hts _ hinst) (hts _ hini) hK hP hD hS hA hc hfs hcells hslots hdg (fun q H1 hP1 hD1 hS1 => ?_)
  refine k q (fun e9 he9 e8 => ?_) H1 locs ls hP1 hD1 hS1 hl
  obtain ⟨i9, hi9⟩ := List.getElem?_of_mem he9
  have hlt : i9 < ws.length := (List.getElem?_eq_some_iff.mp hi9).1
  have h1 : (ws ++ [(q, Sum.inr (ci, fs))])[i9]? = some e9 := by rw [List.getElem?_append_left hlt]; exact hi9
  have h2 : (ws ++ [(q, (Sum.inr (ci, fs) : va_E))])[ws.length]? = some (q, Sum.inr (ci, fs)) := by simp
  exact absurd (hD1.1 i9 ws.length _ _ h1 h2 e8) (by omega)
end GW
