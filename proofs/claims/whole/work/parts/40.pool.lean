/-! the class's world: a pool of cells (L: the addresses, f: what lies there); rows -/
theorem p_at {L : List Nat} {f : Nat → va_E} {a : Nat} (h : a ∈ L) : ∃ k : Nat, (va_pl L f)[k]? = some (a, f a) := by
  obtain ⟨k, hk⟩ := va_pl_get (X := []) (f := f) h
  exact ⟨k, by simpa using hk⟩
theorem p_set {A : Nat → Prop} {L : List Nat} {f : Nat → va_E} {a k : Nat} {e : va_E} (hD : va_D A (va_pl L f)) (h : a ∈ L) (hk : (va_pl L f)[k]? = some (a, f a)) : (va_pl L f).set k (a, e) = va_pl L (va_up f a e) := by
  have := va_pl_set (X := []) (e := e) (by simpa using hD) h (by simpa using hk)
  simpa using this
abbrev rE (g : Nat → Option Nat) : (Nat → Int32) ⊕ (Nat → Int64) ⊕ (Nat → UInt32) ⊕ (Nat → UInt64) ⊕ (Nat → Option Nat) := .inr (.inr (.inr (.inr g)))
theorem ne_oo {f : Nat → va_E} {a b c1 c2 : Nat} {l1 l2 : List Value} (hb : f b = .inr (c1, l1)) (ha : f a = .inr (c2, l2)) (h : Nat.beq c1 c2 = false) : b ≠ a := by
  rintro rfl
  rw [hb] at ha
  have h1 : c1 = c2 := by injection ha with h1; injection h1
  rw [h1] at h
  have h2 : Nat.beq c2 c2 = true := Nat.beq_refl c2
  rw [h2] at h
  exact absurd h (by decide)
theorem ne_oa {f : Nat → va_E} {a b : Nat} {x : Nat × List Value} {y : ClassId × vp_A} (hb : f b = .inr x) (ha : f a = .inl y) : b ≠ a := by
  rintro rfl
  rw [hb] at ha
  exact absurd ha (by simp)
theorem ne_ao {f : Nat → va_E} {a b : Nat} {x : Nat × List Value} {y : ClassId × vp_A} (hb : f b = .inl y) (ha : f a = .inr x) : b ≠ a := (ne_oa ha hb).symm
theorem ne_aa {f : Nat → va_E} {a b : Nat} {c1 c2 : ClassId} {n1 n2 : Nat} {x y : (Nat → Int32) ⊕ (Nat → Int64) ⊕ (Nat → UInt32) ⊕ (Nat → UInt64) ⊕ (Nat → Option Nat)} (hb : f b = .inl (c1, n1, x)) (ha : f a = .inl (c2, n2, y)) (h : Nat.beq n1 n2 = false) : b ≠ a := by
  rintro rfl
  rw [hb] at ha
  have h1 : n1 = n2 := by injection ha with h1; injection h1 with _ h1; injection h1
  rw [h1] at h
  have h2 : Nat.beq n2 n2 = true := Nat.beq_refl n2
  rw [h2] at h
  exact absurd h (by decide)
theorem ne_new {L : List Nat} {a q : Nat} (h : a ∈ L) (hq : q ∉ L) : a ≠ q := fun e => hq (e ▸ h)
theorem in_app {L : List Nat} {a q : Nat} (h : a ∈ L) : a ∈ L ++ [q] := List.mem_append_left _ h
theorem in_new {L : List Nat} {q : Nat} : q ∈ L ++ [q] := List.mem_append_right _ (List.mem_singleton.mpr rfl)
section GP
variable {Γ : gT} {L : List Nat} {f : Nat → va_E} {kc ks pc n : Nat} {lv : List (Nat × Value)} {st : List Value} {cc : ByteArray} {Ts : List Cond} {own : String}
theorem g_pget {C : String} {T : u_T} {N ci index a : Nat} (hin : ∀ w ∈ u_ws C T N, w ∈ wU) (hc : vwCl[ci]? = some (C, T, N)) (h : gOk Γ cc Ts own) (hU : ∀ w ∈ wU, w ∈ Ts) (hdg : decode cc pc = .ok (.getfield index, 3)) (hn : pc + 3 = n) (hL : a ∈ L) {fs : List Value} (hf : f a = .inr (ci, fs)) (k0 : Nat) (hk : Nat.blt k0 N = true) (hlink : Cond.fieldLink own index (T k0).1 (T k0).2.1 (T k0).2.2.1 ∈ wU) {v : Value} (hv : fs[k0]? = some v) (k : G Γ (va_pl L f) kc ks n lv (v :: st)) : G Γ (va_pl L f) kc ks pc lv (.ref a :: st) := by
  obtain ⟨q0, hq⟩ := p_at (f := f) hL
  exact g_get h hdg hn (fun w hw => hU w (hin w hw)) q0 (by rw [hq, hf]) hc k0 (Nat.blt_eq ▸ hk) (hU _ hlink) rfl hv k
theorem g_pput {C : String} {T : u_T} {N ci index a : Nat} (ty0 : Nat → FieldType) (hty : ∀ k, k < N → parseFieldDescriptor (T k).2.2.1 = some (ty0 k)) (hnm : ∀ a, a < N → ∀ b, b < N → a ≠ b → (T a).2.1 ≠ (T b).2.1) (hin : ∀ w ∈ u_ws C T N, w ∈ wU) (hc : vwCl[ci]? = some (C, T, N)) (h : gOk Γ cc Ts own) (hU : ∀ w ∈ wU, w ∈ Ts) (hdg : decode cc pc = .ok (.putfield index, 3)) (hn : pc + 3 = n) (hL : a ∈ L) {fs fs' : List Value} (hf : f a = .inr (ci, fs)) (k0 : Nat) (hk : Nat.blt k0 N = true) (hlink : Cond.fieldLink own index (T k0).1 (T k0).2.1 (T k0).2.2.1 ∈ wU) (hfin : (T k0).2.2.2 = false) {v : Value} (hna : narrow (ty0 k0) v = v) (hfit : fits (ty0 k0) v = true) (hle : Nat.blt k0 fs.length = true) (hset : fs.set k0 v = fs') (k : ∀ f1 : Nat → va_E, f1 = va_up f a (.inr (ci, fs')) → G Γ (va_pl L f1) kc ks n lv st) : G Γ (va_pl L f) kc ks pc lv (v :: .ref a :: st) := by
  obtain ⟨p, l, e, R, s, m, args, below, meth, c, D, Y, A, Q, nL⟩ := Γ
  obtain ⟨⟨hx, hb, hml, hown, hts⟩, hK, hA⟩ := h
  subst hn
  subst hset
  intro H locs ls hP hD hS hl
  obtain ⟨q0, hq⟩ := p_at (f := f) hL
  refine va_put hx hb hts (fun w hw => hU w (hin w hw)) ty0 hty hnm hown hK hP hD hS q0 (by rw [hq, hf]) hc k0 (Nat.blt_eq ▸ hk) (hts _ (hU _ hlink)) (fun _ h9 => h9) hfin (hty k0 (Nat.blt_eq ▸ hk)) hna hfit (Nat.blt_eq ▸ hle) hdg (fun H1 locs1 hP1 hD1 hS1 => ?_)
  rw [p_set hD hL hq] at hP1 hD1
  exact k _ rfl H1 locs1 ls hP1 hD1 hS1 hl
theorem g_pputF {C : String} {T : u_T} {N ci index a : Nat} (ty0 : Nat → FieldType) (hty : ∀ k, k < N → parseFieldDescriptor (T k).2.2.1 = some (ty0 k)) (hnm : ∀ a, a < N → ∀ b, b < N → a ≠ b → (T a).2.1 ≠ (T b).2.1) (hin : ∀ w ∈ u_ws C T N, w ∈ wU) (hc : vwCl[ci]? = some (C, T, N)) (h : gOk Γ cc Ts own) (hU : ∀ w ∈ wU, w ∈ Ts) (hI : gInit Γ) (hdg : decode cc pc = .ok (.putfield index, 3)) (hn : pc + 3 = n) (hL : a ∈ L) {fs fs' : List Value} (hf : f a = .inr (ci, fs)) (k0 : Nat) (hk : Nat.blt k0 N = true) (hlink : Cond.fieldLink own index (T k0).1 (T k0).2.1 (T k0).2.2.1 ∈ wU) (hfin : (T k0).2.2.2 = true) (hdecl : (T k0).1 = own) {v : Value} (hna : narrow (ty0 k0) v = v) (hfit : fits (ty0 k0) v = true) (hle : Nat.blt k0 fs.length = true) (hset : fs.set k0 v = fs') (k : ∀ f1 : Nat → va_E, f1 = va_up f a (.inr (ci, fs')) → G Γ (va_pl L f1) kc ks n lv st) : G Γ (va_pl L f) kc ks pc lv (v :: .ref a :: st) := by
  obtain ⟨p, l, e, R, s, m, args, below, meth, c, D, Y, A, Q, nL⟩ := Γ
  obtain ⟨⟨hx, hb, hml, hown, hts⟩, hK, hA⟩ := h
  subst hn
  subst hset
  intro H locs ls hP hD hS hl
  obtain ⟨q0, hq⟩ := p_at (f := f) hL
  refine va_putF hx hb hts (fun w hw => hU w (hin w hw)) ty0 hty hnm hown hK hP hD hS q0 (by rw [hq, hf]) hc k0 (Nat.blt_eq ▸ hk) (hts _ (hU _ hlink)) (fun _ h9 => h9) hfin hI hdecl (hty k0 (Nat.blt_eq ▸ hk)) hna hfit (Nat.blt_eq ▸ hle) hdg (fun H1 locs1 hP1 hD1 hS1 => ?_)
  rw [p_set hD hL hq] at hP1 hD1
  exact k _ rfl H1 locs1 ls hP1 hD1 hS1 hl
theorem g_pild {K : Nat → ClassId} {a N : Nat} {g : Nat → Int32} {i v : Int32} (h : gOk Γ cc Ts own) (hY : gY Γ = yY K) (hdg : decode cc pc = .ok (.iaload, 1)) (hn : pc + 1 = n) (hL : a ∈ L) (hf : f a = .inl (K 1, N, .inl g)) (hi : vp_in i N) (hv : g i.toNatClampNeg = v) (k : G Γ (va_pl L f) kc ks n lv (.int v :: st)) : G Γ (va_pl L f) kc ks pc lv (.int i :: .ref a :: st) := by
  obtain ⟨q0, hq⟩ := p_at (f := f) hL
  exact g_iald h hdg hn q0 1 (by rw [hq, hf]) (by rw [hY]; rfl) hi hv k
theorem g_pbld {K : Nat → ClassId} {a N : Nat} {g : Nat → Int32} {i v : Int32} (h : gOk Γ cc Ts own) (hY : gY Γ = yY K) (hdg : decode cc pc = .ok (.baload, 1)) (hn : pc + 1 = n) (hL : a ∈ L) (hf : f a = .inl (K 0, N, .inl g)) (hi : vp_in i N) (hv : g i.toNatClampNeg = v) (k : G Γ (va_pl L f) kc ks n lv (.int v :: st)) : G Γ (va_pl L f) kc ks pc lv (.int i :: .ref a :: st) := by
  obtain ⟨q0, hq⟩ := p_at (f := f) hL
  exact g_bald h hdg hn q0 0 (by rw [hq, hf]) (by rw [hY]; rfl) hi hv k
theorem g_pald {K : Nat → ClassId} {a N : Nat} {g : Nat → Option Nat} {i : Int32} {r : Option Nat} (t0 : Nat) {C : String} (h : gOk Γ cc Ts own) (hY : gY Γ = yY K) (hdg : decode cc pc = .ok (.aaload, 1)) (hn : pc + 1 = n) (hL : a ∈ L) (hf : f a = .inl (K t0, N, rE g)) (ht : (yY K)[t0]? = some (K t0, .object C)) (hi : vp_in i N) (hv : g i.toNatClampNeg = r) (k : G Γ (va_pl L f) kc ks n lv (va_rf r :: st)) : G Γ (va_pl L f) kc ks pc lv (.int i :: .ref a :: st) := by
  obtain ⟨q0, hq⟩ := p_at (f := f) hL
  exact g_aald h hdg hn q0 t0 (by rw [hq, hf]) (by rw [hY]; exact ht) hi hv k
theorem g_palen {K : Nat → ClassId} {a t0 : Nat} {x : vp_A} {v : Int32} {ty : FieldType} (h : gOk Γ cc Ts own) (hY : gY Γ = yY K) (hdg : decode cc pc = .ok (.arraylength, 1)) (hn : pc + 1 = n) (hL : a ∈ L) (hf : f a = .inl (K t0, x)) (ht : (yY K)[t0]? = some (K t0, ty)) (hv : Int32.ofNat x.1 = v) (k : G Γ (va_pl L f) kc ks n lv (.int v :: st)) : G Γ (va_pl L f) kc ks pc lv (.ref a :: st) := by
  obtain ⟨q0, hq⟩ := p_at (f := f) hL
  exact g_alen h hdg hn q0 t0 (by rw [hq, hf]) (ty := ty) (by rw [hY]; exact ht) hv k
theorem g_pist {K : Nat → ClassId} {a N i0 : Nat} {g : Nat → Int32} {i x : Int32} (h : gOk Γ cc Ts own) (hY : gY Γ = yY K) (hdg : decode cc pc = .ok (.iastore, 1)) (hn : pc + 1 = n) (hL : a ∈ L) (hf : f a = .inl (K 1, N, .inl g)) (hi : vp_in i N) (hi0 : i.toNatClampNeg = i0) (k : ∀ f1 : Nat → va_E, f1 = va_up f a (.inl (K 1, N, .inl (upd g i0 x))) → G Γ (va_pl L f1) kc ks n lv st) : G Γ (va_pl L f) kc ks pc lv (.int x :: .int i :: .ref a :: st) := by
  obtain ⟨p, l, e, R, s, m, args, below, meth, c, D, Y, A, Q, nL⟩ := Γ
  obtain ⟨⟨hx, hb, hml, hown, hts⟩, hK, hA⟩ := h
  subst hn
  subst hi0
  have hY2 : Y = yY K := hY
  intro H locs ls hP hD hS hl
  obtain ⟨q0, hq⟩ := p_at (f := f) hL
  refine va_iast hx hb hK hP hD hS q0 1 (by rw [hq, hf]) (by rw [hY2]; rfl) hi hdg (fun H1 locs1 hP1 hD1 hS1 => ?_)
  rw [p_set hD hL hq] at hP1 hD1
  exact k _ rfl H1 locs1 ls hP1 hD1 hS1 hl
theorem g_pbst {K : Nat → ClassId} {a N i0 : Nat} {g : Nat → Int32} {i x y : Int32} (h : gOk Γ cc Ts own) (hY : gY Γ = yY K) (hdg : decode cc pc = .ok (.bastore, 1)) (hn : pc + 1 = n) (hL : a ∈ L) (hf : f a = .inl (K 0, N, .inl g)) (hi : vp_in i N) (hi0 : i.toNatClampNeg = i0) (hy : vp_nar .byte x = y) (k : ∀ f1 : Nat → va_E, f1 = va_up f a (.inl (K 0, N, .inl (upd g i0 y))) → G Γ (va_pl L f1) kc ks n lv st) : G Γ (va_pl L f) kc ks pc lv (.int x :: .int i :: .ref a :: st) := by
  obtain ⟨p, l, e, R, s, m, args, below, meth, c, D, Y, A, Q, nL⟩ := Γ
  obtain ⟨⟨hx, hb, hml, hown, hts⟩, hK, hA⟩ := h
  subst hn
  subst hi0
  subst hy
  have hY2 : Y = yY K := hY
  intro H locs ls hP hD hS hl
  obtain ⟨q0, hq⟩ := p_at (f := f) hL
  refine va_bast hx hb hK hP hD hS q0 0 (by rw [hq, hf]) (by rw [hY2]; rfl) hi hdg (fun H1 locs1 hP1 hD1 hS1 => ?_)
  rw [p_set hD hL hq] at hP1 hD1
  exact k _ rfl H1 locs1 ls hP1 hD1 hS1 hl
theorem g_past {K : Nat → ClassId} {a N i0 v ci : Nat} {g : Nat → Option Nat} {i : Int32} {r : vw_C} {vs : List Value} (t0 : Nat) (h : gOk Γ cc Ts own) (hY : gY Γ = yY K) (hdg : decode cc pc = .ok (.aastore, 1)) (hn : pc + 1 = n) (hL : a ∈ L) (hf : f a = .inl (K t0, N, rE g)) (ht : (yY K)[t0]? = some (K t0, .object r.1)) (hvL : v ∈ L) (hvf : f v = .inr (ci, vs)) (hc : vwCl[ci]? = some r) (hi : vp_in i N) (hi0 : i.toNatClampNeg = i0) (k : ∀ f1 : Nat → va_E, f1 = va_up f a (.inl (K t0, N, rE (va_up g i0 (some v)))) → G Γ (va_pl L f1) kc ks n lv st) : G Γ (va_pl L f) kc ks pc lv (.ref v :: .int i :: .ref a :: st) := by
  obtain ⟨p, l, e, R, s, m, args, below, meth, c, D, Y, A, Q, nL⟩ := Γ
  obtain ⟨⟨hx, hb, hml, hown, hts⟩, hK, hA⟩ := h
  subst hn
  subst hi0
  have hY2 : Y = yY K := hY
  intro H locs ls hP hD hS hl
  obtain ⟨q0, hq⟩ := p_at (f := f) hL
  obtain ⟨qk, hqk⟩ := p_at (f := f) hvL
  refine va_astq hx hb hK hP hD hS q0 t0 qk ci (by rw [hq, hf]) (by rw [hY2]; exact ht) (by rw [hqk, hvf]) hc hi hdg (fun H1 locs1 hP1 hD1 hS1 => ?_)
  rw [p_set hD hL hq] at hP1 hD1
  exact k _ rfl H1 locs1 ls hP1 hD1 hS1 hl
theorem p_push {L : List Nat} {f : Nat → va_E} {a : Nat} {e : va_E} (h : a ∉ L) : va_pl L f ++ [(a, e)] = va_pl (L ++ [a]) (va_up f a e) := va_pl_push h
theorem p_fresh {A : Nat → Prop} {L : List Nat} {f : Nat → va_E} {q : Nat} {e : va_E} (hD : va_D A (va_pl L f ++ [(q, e)])) : q ∉ L := va_pl_fresh2 (X := []) (f := f) (e := e) (by simpa using hD)
theorem g_pnew {C : String} {T : u_T} {N ci index : Nat} (ty : Nat → FieldType) (hty : ∀ k, k < N → parseFieldDescriptor (T k).2.2.1 = some (ty k)) (hin : ∀ w ∈ u_ws C T N, w ∈ wU) (hc : vwCl[ci]? = some (C, T, N)) (h : gOk Γ cc Ts own) (hU : ∀ w ∈ wU, w ∈ Ts) (hdg : decode cc pc = .ok (.new index, 3)) (hn : pc + 3 = n) (hcl : Cond.classLink own index C ∈ wU) (hinst : Cond.instantiable C N ∈ wU) (hini : Cond.initialized C ∈ wU) {fs : List Value} (hfs : ∀ j, j < N → defaultValue (ty j) = vp_V fs j) (hcells : kc + 1 ≤ (gRm Γ).cells) (hslots : ks + N ≤ (gRm Γ).slots) (k : ∀ (q : Nat) (f1 : Nat → va_E), q ∉ L → f1 = va_up f q (.inr (ci, fs)) → G Γ (va_pl (L ++ [q]) f1) (kc + 1) (ks + N) n lv (.ref q :: st)) : G Γ (va_pl L f) kc ks pc lv st := by
  obtain ⟨p, l, e, R, s, m, args, below, meth, c, D, Y, A, Q, nL⟩ := Γ
  obtain ⟨⟨hx, hb, hml, hown, hts⟩, hK, hA⟩ := h
  subst hn
  intro H locs ls hP hD hS hl
  refine va_new hx hb hts (fun w hw => hU w (hin w hw)) ty hty hown (hts _ (hU _ hcl)) (hts _ (hU _ hinst)) (hts _ (hU _ hini)) hK hP hD hS hA hc hfs hcells hslots hdg (fun q H1 hP1 hD1 hS1 => ?_)
  have hq := p_fresh hD1
  rw [p_push hq] at hP1 hD1
  exact k q _ hq rfl H1 locs ls hP1 hD1 hS1 hl
/-- a new array of whole numbers: its class is the one that the tables name -/
theorem K_prim {D : va_G} {Y : List (ClassId × FieldType)} {K : Nat → ClassId} {s : State} {cA : ClassId} {ty : FieldType} {t0 : Nat} (hY : Y = yY K) (ht : (yY K)[t0]? = some (K t0, ty)) (hK : va_K D vwCl (Y ++ [(cA, ty)]) s) (hp : ty = .byte ∨ ty = .int ∨ ty = .boolean ∨ ty = .long) : cA = K t0 := by
  have hlen : (Y ++ [(cA, ty)])[Y.length]? = some (cA, ty) := by simp
  have h1 := (hK.2 Y.length (cA, ty) hlen).2
  have h2 : (Y ++ [(cA, ty)])[t0]? = some (K t0, ty) := by
    rw [← hY] at ht
    rw [List.getElem?_append_left (List.getElem?_eq_some_iff.mp ht).1]; exact ht
  have h3 := (hK.2 t0 (K t0, ty) h2).2
  rcases hp with rfl | rfl | rfl | rfl <;> exact Option.some.inj (Eq.trans (Eq.symm h1) h3)
theorem g_pnewa {K : Nat → ClassId} {atype : ArrayType} {ty : FieldType} (t0 : Nat) (harr : Cond.arrayClass (newarray.typeOf atype) ∈ wU) (hty : newarray.typeOf atype = ty) (ht : (yY K)[t0]? = some (K t0, ty)) (hp : ty = .byte ∨ ty = .int ∨ ty = .boolean ∨ ty = .long) (h : gOk Γ cc Ts own) (hU : ∀ w ∈ wU, w ∈ Ts) (hY : gY Γ = yY K) (hdg : decode cc pc = .ok (.newarray atype, 2)) (hn : pc + 2 = n) {i : Int32} {N : Nat} {a0 : vp_A} (ha : ∀ cA : ClassId, vp_cell cA a0 = arrV cA N (fun _ => defaultValue ty)) (hi : ¬ i < 0) (hN : i.toNatClampNeg = N) (hbytes : N * componentBytes ty ≤ 536870912) (hcells : kc + 1 ≤ (gRm Γ).cells) (hslots : ks + N ≤ (gRm Γ).slots) (k : ∀ (q : Nat) (f1 : Nat → va_E), q ∉ L → f1 = va_up f q (.inl (K t0, a0)) → G Γ (va_pl (L ++ [q]) f1) (kc + 1) (ks + N) n lv (.ref q :: st)) : G Γ (va_pl L f) kc ks pc lv (.int i :: st) := by
  obtain ⟨p, l, e, R, s, m, args, below, meth, c, D, Y, A, Q, nL⟩ := Γ
  obtain ⟨⟨hx, hb, hml, hown, hts⟩, hK, hA⟩ := h
  subst hn
  have hY2 : Y = yY K := hY
  intro H locs ls hP hD hS hl
  refine va_newa hx hb (hts _ (hU _ harr)) hty hK hP hD hS hA ha hi hN hbytes hcells hslots hdg (fun q cA H1 hK1 hP1 hD1 hS1 => ?_)
  have hq := p_fresh hD1
  rw [p_push hq, K_prim hY2 ht hK1 hp] at hP1 hD1
  exact k q _ hq rfl H1 locs ls hP1 hD1 hS1 hl
theorem K_obj {D : va_G} {Y : List (ClassId × FieldType)} {K : Nat → ClassId} {s : State} {cA : ClassId} {C : String} {t0 : Nat} (hY : Y = yY K) (ht : (yY K)[t0]? = some (K t0, .object C)) (hK : va_K D vwCl (Y ++ [(cA, .object C)]) s) : cA = K t0 := by
  have hlen : (Y ++ [(cA, .object C)])[Y.length]? = some (cA, .object C) := by simp
  obtain ⟨k1, c1, -, -, -, h1⟩ := (hK.2 Y.length (cA, .object C) hlen).2
  have h2 : (Y ++ [(cA, .object C)])[t0]? = some (K t0, .object C) := by
    rw [← hY] at ht
    rw [List.getElem?_append_left (List.getElem?_eq_some_iff.mp ht).1]; exact ht
  obtain ⟨k3, c3, -, -, -, h3⟩ := (hK.2 t0 (K t0, .object C) h2).2
  exact Option.some.inj (Eq.trans (Eq.symm h1) h3)
theorem g_pnewq {K : Nat → ClassId} {C : String} {index : Nat} (t0 : Nat) (hover : ∀ {U : State}, gAO U → va_AO C U) (ht : (yY K)[t0]? = some (K t0, .object C)) (h : gOk Γ cc Ts own) (hE : gEv Γ) (hU : ∀ w ∈ wU, w ∈ Ts) (hY : gY Γ = yY K) (hdg : decode cc pc = .ok (.anewarray index, 3)) (hn : pc + 3 = n) (hcl : Cond.classLink own index C ∈ wU) {i : Int32} {N : Nat} (hi : ¬ i < 0) (hN : i.toNatClampNeg = N) (hbytes : N * 4 ≤ 536870912) (hcells : kc + 1 ≤ (gRm Γ).cells) (hslots : ks + N ≤ (gRm Γ).slots) (k : ∀ (q : Nat) (f1 : Nat → va_E), q ∉ L → f1 = va_up f q (.inl (K t0, N, rE (fun _ => none))) → G Γ (va_pl (L ++ [q]) f1) (kc + 1) (ks + N) n lv (.ref q :: st)) : G Γ (va_pl L f) kc ks pc lv (.int i :: st) := by
  obtain ⟨p, l, e, R, s, m, args, below, meth, c, D, Y, A, Q, nL⟩ := Γ
  obtain ⟨⟨hx, hb, hml, hown, hts⟩, hK, hA⟩ := h
  subst hn
  have hY2 : Y = yY K := hY
  have hE2 : gE D A s s.heap := hE
  intro H locs ls hP hD hS hl
  refine va_newq hx hb hown (hts _ (hU _ hcl)) (hover hE2.1) hK hP hD hS hA hi hN hbytes hcells hslots hdg (fun q cA H1 hK1 hP1 hD1 hS1 => ?_)
  have hq := p_fresh hD1
  rw [p_push hq, K_obj hY2 ht hK1] at hP1 hD1
  exact k q _ hq rfl H1 locs ls hP1 hD1 hS1 hl
end GP
