/-! the reference's world: its object and its 25 arrays; its state σ: (arrays, int fields) -/
abbrev MS : Type := (Nat → Nat → Int32) × (Nat → Int32)
def mT (j : Nat) : Nat := [1, 1, 1, 1, 1, 2, 1, 1, 1, 2, 2, 2, 2, 2, 1, 1, 1, 1, 1, 1, 0, 1, 1, 1, 1].getD j 0
def mN (j : Nat) : Nat := [13, 13, 793, 793, 793, 13, 41, 41, 41, 41, 41, 41, 9, 9, 130, 9, 9, 9, 9, 9, 12000, 900, 12, 12, 3000].getD j 0
def yY (K : Nat → ClassId) : List (ClassId × FieldType) := [(K 0, .byte), (K 1, .int), (K 2, .boolean), (K 3, .object "ClassMaker4$MadeClass"), (K 4, .object "ClassMaker4$Program"), (K 5, .object "ClassMaker4$Row"), (K 6, .object "ClassMaker4$RunUnit"), (K 7, .long)]
def mF (A : Nat → Nat) (σ : MS) : List Value := [.int (σ.2 0), .int (σ.2 1), .int (σ.2 2), .int (σ.2 3), .ref (A 0), .ref (A 1), .ref (A 2), .ref (A 3), .ref (A 4), .ref (A 5), .ref (A 6), .ref (A 7), .ref (A 8), .ref (A 9), .ref (A 10), .ref (A 11), .ref (A 12), .ref (A 13), .ref (A 14), .ref (A 15), .ref (A 16), .ref (A 17), .ref (A 18), .ref (A 19), .ref (A 20), .ref (A 21), .int (σ.2 26), .ref (A 22), .ref (A 23), .int (σ.2 29), .ref (A 24)]
def mA (K : Nat → ClassId) (A : Nat → Nat) (σ : MS) (j : Nat) : Nat × va_E := (A j, .inl (K (mT j), mN j, .inl (σ.1 j)))
def mW (K : Nat → ClassId) (am : Nat) (A : Nat → Nat) (σ : MS) : va_W := (am, .inr (10, mF A σ)) :: (List.range 25).map (mA K A σ)
def sA (σ : MS) (j i : Nat) (x : Int32) : MS := (va_up σ.1 j (upd (σ.1 j) i x), σ.2)
def sF (σ : MS) (k : Nat) (x : Int32) : MS := (σ.1, va_up σ.2 k x)
theorem mW_at {K : Nat → ClassId} {am : Nat} {A : Nat → Nat} {σ : MS} {j : Nat} (hj : j < 25) : (mW K am A σ)[j + 1]? = some (A j, .inl (K (mT j), mN j, .inl (σ.1 j))) := by
  simp [mW, mA, hj]
theorem mW_set {K : Nat → ClassId} {am : Nat} {A : Nat → Nat} {σ : MS} {j : Nat} (i : Nat) (x : Int32) : (mW K am A σ).set (j + 1) (A j, .inl (K (mT j), mN j, .inl (upd (σ.1 j) i x))) = mW K am A (sA σ j i x) := by
  show (am, Sum.inr (10, mF A σ)) :: ((List.range 25).map (mA K A σ)).set j _ = _
  have : ((List.range 25).map (mA K A σ)).set j (A j, .inl (K (mT j), mN j, .inl (upd (σ.1 j) i x))) = (List.range 25).map (mA K A (sA σ j i x)) := by
    apply List.ext_getElem?
    intro q
    rw [List.getElem?_set]
    by_cases hq : j = q
    · subst hq
      by_cases hj : j < 25 <;> simp [hj, mA, sA, va_up]
    · by_cases hj : q < 25 <;> simp [hq, hj, mA, sA, va_up, Ne.symm hq]
  rw [this]; rfl
section GM
variable {Γ : gT} {K : Nat → ClassId} {am : Nat} {A : Nat → Nat} {σ : MS} {kc ks pc n : Nat} {lv : List (Nat × Value)} {st : List Value} {cc : ByteArray} {Ts : List Cond}
theorem g_mget {index : Nat} (k0 : Nat) (h : gOk Γ cc Ts RX8) (hU : ∀ w ∈ wU, w ∈ Ts) (hdg : decode cc pc = .ok (.getfield index, 3)) (hn : pc + 3 = n) (hlink : Cond.fieldLink RX8 index RX8 (TX8 k0).2.1 (TX8 k0).2.2.1 ∈ wU) (hk : Nat.blt k0 31 = true) (href : (TX8 k0).1 = RX8) {v : Value} (hv : (mF A σ)[k0]? = some v) (k : G Γ (mW K am A σ) kc ks n lv (v :: st)) : G Γ (mW K am A σ) kc ks pc lv (.ref am :: st) :=
  g_get (C := RX8) (T := TX8) (N := 31) (ci := 10) h hdg hn (fun w hw => hU w (ux_X8 w hw)) 0 rfl rfl k0 (Nat.blt_eq ▸ hk) (hU _ hlink) href hv k
theorem g_mput {index : Nat} (k0 : Nat) {x : Int32} (h : gOk Γ cc Ts RX8) (hU : ∀ w ∈ wU, w ∈ Ts) (hdg : decode cc pc = .ok (.putfield index, 3)) (hn : pc + 3 = n) (hlink : Cond.fieldLink RX8 index RX8 (TX8 k0).2.1 (TX8 k0).2.2.1 ∈ wU) (hk : Nat.blt k0 31 = true) (href : (TX8 k0).1 = RX8) (hfin : (TX8 k0).2.2.2 = false) (hty : tyX8 k0 = .int) (hset : (mF A σ).set k0 (.int x) = mF A (sF σ k0 x)) (k : G Γ (mW K am A (sF σ k0 x)) kc ks n lv st) : G Γ (mW K am A σ) kc ks pc lv (.int x :: .ref am :: st) :=
  g_put (C := RX8) (T := TX8) (N := 31) (ci := 10) tyX8 tyX8_ok nmX8 h hdg hn (fun w hw => hU w (ux_X8 w hw)) 0 rfl rfl k0 (Nat.blt_eq ▸ hk) (hU _ hlink) href hfin (by rw [hty]; rfl) (by rw [hty]; rfl) (by have := Nat.blt_eq ▸ hk; exact this) (by
    have e : (mW K am A σ).set 0 (am, .inr (10, (mF A σ).set k0 (.int x))) = mW K am A (sF σ k0 x) := by rw [hset]; rfl
    rw [e]; exact k)
theorem g_mild (j : Nat) {i v : Int32} (h : gOk Γ cc Ts RX8) (hY : gY Γ = yY K) (hdg : decode cc pc = .ok (.iaload, 1)) (hn : pc + 1 = n) (hj : Nat.blt j 25 = true) (hT : mT j = 1) (hi : vp_in i (mN j)) (hv : σ.1 j i.toNatClampNeg = v) (k : G Γ (mW K am A σ) kc ks n lv (.int v :: st)) : G Γ (mW K am A σ) kc ks pc lv (.int i :: .ref (A j) :: st) :=
  g_iald h hdg hn (j + 1) 1 (mW_at (Nat.blt_eq ▸ hj)) (by rw [hY, hT]; rfl) hi hv k
theorem g_mbld (j : Nat) {i v : Int32} (h : gOk Γ cc Ts RX8) (hY : gY Γ = yY K) (hdg : decode cc pc = .ok (.baload, 1)) (hn : pc + 1 = n) (hj : Nat.blt j 25 = true) (hT : mT j = 0) (hi : vp_in i (mN j)) (hv : σ.1 j i.toNatClampNeg = v) (k : G Γ (mW K am A σ) kc ks n lv (.int v :: st)) : G Γ (mW K am A σ) kc ks pc lv (.int i :: .ref (A j) :: st) :=
  g_bald h hdg hn (j + 1) 0 (mW_at (Nat.blt_eq ▸ hj)) (by rw [hY, hT]; rfl) hi hv k
theorem g_mzld (j : Nat) {i v : Int32} (h : gOk Γ cc Ts RX8) (hY : gY Γ = yY K) (hdg : decode cc pc = .ok (.baload, 1)) (hn : pc + 1 = n) (hj : Nat.blt j 25 = true) (hT : mT j = 2) (hi : vp_in i (mN j)) (hv : σ.1 j i.toNatClampNeg = v) (k : G Γ (mW K am A σ) kc ks n lv (.int v :: st)) : G Γ (mW K am A σ) kc ks pc lv (.int i :: .ref (A j) :: st) :=
  g_zald h hdg hn (j + 1) 2 (mW_at (Nat.blt_eq ▸ hj)) (by rw [hY, hT]; rfl) hi hv k
theorem g_mist (j : Nat) {i x : Int32} {i0 : Nat} (h : gOk Γ cc Ts RX8) (hY : gY Γ = yY K) (hdg : decode cc pc = .ok (.iastore, 1)) (hn : pc + 1 = n) (hj : Nat.blt j 25 = true) (hT : mT j = 1) (hi : vp_in i (mN j)) (hi0 : i.toNatClampNeg = i0) (k : G Γ (mW K am A (sA σ j i0 x)) kc ks n lv st) : G Γ (mW K am A σ) kc ks pc lv (.int x :: .int i :: .ref (A j) :: st) :=
  g_iast h hdg hn (j + 1) 1 (mW_at (Nat.blt_eq ▸ hj)) (by rw [hY, hT]; rfl) hi (by rw [hi0, mW_set]; exact k)
theorem g_mbst (j : Nat) {i x : Int32} {i0 : Nat} (h : gOk Γ cc Ts RX8) (hY : gY Γ = yY K) (hdg : decode cc pc = .ok (.bastore, 1)) (hn : pc + 1 = n) (hj : Nat.blt j 25 = true) (hT : mT j = 0) (hi : vp_in i (mN j)) (hi0 : i.toNatClampNeg = i0) (k : G Γ (mW K am A (sA σ j i0 (vp_nar .byte x))) kc ks n lv st) : G Γ (mW K am A σ) kc ks pc lv (.int x :: .int i :: .ref (A j) :: st) :=
  g_bast h hdg hn (j + 1) 0 (mW_at (Nat.blt_eq ▸ hj)) (by rw [hY, hT]; rfl) hi (by rw [hi0, mW_set]; exact k)
theorem g_mzst (j : Nat) {i x : Int32} {i0 : Nat} (h : gOk Γ cc Ts RX8) (hY : gY Γ = yY K) (hdg : decode cc pc = .ok (.bastore, 1)) (hn : pc + 1 = n) (hj : Nat.blt j 25 = true) (hT : mT j = 2) (hi : vp_in i (mN j)) (hi0 : i.toNatClampNeg = i0) (k : G Γ (mW K am A (sA σ j i0 (vp_nar .boolean x))) kc ks n lv st) : G Γ (mW K am A σ) kc ks pc lv (.int x :: .int i :: .ref (A j) :: st) :=
  g_zast h hdg hn (j + 1) 2 (mW_at (Nat.blt_eq ▸ hj)) (by rw [hY, hT]; rfl) hi (by rw [hi0, mW_set]; exact k)
end GM
/-- room by the height in the tree of calls -/
def rmL (h mc ms : Nat) : Room := { frames := h, cells := mc, slots := ms, locals := 40 * h }
theorem rm_le {Γ : gT} {h1 h2 a b c d maxL : Nat} (hR : gRm Γ = rmL h2 c d) (hh : Nat.blt h1 h2 = true) (hm : Nat.ble maxL 21 = true) : (rmL h1 a b).frames + 1 ≤ (gRm Γ).frames ∧ 8 + (maxL + 11) + (rmL h1 a b).locals ≤ (gRm Γ).locals := by
  rw [hR]
  have h1 : h1 < h2 := Nat.blt_eq ▸ hh
  have h2 : maxL ≤ 21 := Nat.le_of_ble_eq_true hm
  simp only [rmL]
  omega
