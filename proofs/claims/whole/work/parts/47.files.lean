/-! the file maker's world: its object F, its bytes B, its starts T over any pool f; s = (length, bytes, first row, last row, starts) -/
abbrev FS : Type := Nat × (Nat → Int32) × Int32 × Int32 × (Nat → Int32)
def fF (B T : Nat) (s : FS) : List Value := [.ref B, .ref T, .int (nI s.1), .int s.2.2.1, .int s.2.2.2.1]
def fw (K : Nat → ClassId) (f : Nat → va_E) (F B T : Nat) (s : FS) : Nat → va_E := va_up (va_up (va_up f T (.inl (K 1, 11, .inl s.2.2.2.2))) B (.inl (K 0, 2048, .inl s.2.1))) F (.inr (2, fF B T s))
def fOk (L : List Nat) (F B T : Nat) : Prop := F ∈ L ∧ B ∈ L ∧ T ∈ L ∧ B ≠ F ∧ T ≠ F ∧ T ≠ B
def nf (F B T a : Nat) : Prop := a ≠ F ∧ a ≠ B ∧ a ≠ T
section FW
variable {K : Nat → ClassId} {f : Nat → va_E} {L : List Nat} {F B T : Nat} {s : FS}
theorem fw_F : fw K f F B T s F = .inr (2, fF B T s) := va_up_self _ _ _
theorem fw_B (h : fOk L F B T) : fw K f F B T s B = .inl (K 0, 2048, .inl s.2.1) := by
  unfold fw
  rw [va_up_ne _ _ h.2.2.2.1, va_up_self]
theorem fw_T (h : fOk L F B T) : fw K f F B T s T = .inl (K 1, 11, .inl s.2.2.2.2) := by
  unfold fw
  rw [va_up_ne _ _ h.2.2.2.2.1, va_up_ne _ _ h.2.2.2.2.2, va_up_self]
theorem fw_o {a : Nat} (h : nf F B T a) : fw K f F B T s a = f a := by
  unfold fw
  rw [va_up_ne _ _ h.1, va_up_ne _ _ h.2.1, va_up_ne _ _ h.2.2]
theorem fw_setF {s1 : FS} (h1 : s1.2.1 = s.2.1) (h2 : s1.2.2.2.2 = s.2.2.2.2) : va_up (fw K f F B T s) F (.inr (2, fF B T s1)) = fw K f F B T s1 := by
  unfold fw
  rw [up_up, h1, h2]
theorem fw_setB (h : fOk L F B T) (g : Nat → Int32) : va_up (fw K f F B T s) B (.inl (K 0, 2048, .inl g)) = fw K f F B T (s.1, g, s.2.2) := by
  funext a
  by_cases hB : a = B
  · rw [hB, va_up_self, fw_B h]
  · rw [va_up_ne _ _ hB]
    unfold fw
    by_cases hF : a = F
    · rw [hF, va_up_self, va_up_self]; rfl
    · rw [va_up_ne _ _ hF, va_up_ne _ _ hF, va_up_ne _ _ hB, va_up_ne _ _ hB]
theorem fw_setT (h : fOk L F B T) (t : Nat → Int32) : va_up (fw K f F B T s) T (.inl (K 1, 11, .inl t)) = fw K f F B T (s.1, s.2.1, s.2.2.1, s.2.2.2.1, t) := by
  funext a
  by_cases hT : a = T
  · rw [hT, va_up_self, fw_T h]
  · rw [va_up_ne _ _ hT]
    unfold fw
    by_cases hF : a = F
    · rw [hF, va_up_self, va_up_self]; rfl
    · rw [va_up_ne _ _ hF, va_up_ne _ _ hF]
      by_cases hB : a = B
      · rw [hB, va_up_self, va_up_self]
      · rw [va_up_ne _ _ hB, va_up_ne _ _ hB, va_up_ne _ _ hT, va_up_ne _ _ hT]
end FW
section GF
variable {Γ : gT} {K : Nat → ClassId} {f : Nat → va_E} {L : List Nat} {F B T : Nat} {s : FS} {kc ks pc n : Nat} {lv : List (Nat × Value)} {st : List Value} {cc : ByteArray} {Ts : List Cond} {own : String}
theorem g_fget {index : Nat} (k0 : Nat) {v : Value} (h : gOk Γ cc Ts RX0) (hU : ∀ w ∈ wU, w ∈ Ts) (hF : fOk L F B T) (hdg : decode cc pc = .ok (.getfield index, 3)) (hn : pc + 3 = n) (hk : Nat.blt k0 5 = true) (hlink : Cond.fieldLink RX0 index (TX0 k0).1 (TX0 k0).2.1 (TX0 k0).2.2.1 ∈ wU) (hv : (fF B T s)[k0]? = some v) (k : G Γ (va_pl L (fw K f F B T s)) kc ks n lv (v :: st)) : G Γ (va_pl L (fw K f F B T s)) kc ks pc lv (.ref F :: st) :=
  g_pget (ci := 2) ux_X0 rfl h hU hdg hn hF.1 fw_F k0 hk hlink hv k
theorem g_fput {index : Nat} (k0 : Nat) {x : Int32} (s1 : FS) (h : gOk Γ cc Ts RX0) (hU : ∀ w ∈ wU, w ∈ Ts) (hF : fOk L F B T) (hdg : decode cc pc = .ok (.putfield index, 3)) (hn : pc + 3 = n) (hk : Nat.blt k0 5 = true) (hlink : Cond.fieldLink RX0 index (TX0 k0).1 (TX0 k0).2.1 (TX0 k0).2.2.1 ∈ wU) (hfin : (TX0 k0).2.2.2 = false) (hty : tyX0 k0 = .int) (hset : (fF B T s).set k0 (.int x) = fF B T s1) (h1 : s1.2.1 = s.2.1) (h2 : s1.2.2.2.2 = s.2.2.2.2) (k : G Γ (va_pl L (fw K f F B T s1)) kc ks n lv st) : G Γ (va_pl L (fw K f F B T s)) kc ks pc lv (.int x :: .ref F :: st) :=
  g_pput (ci := 2) (fs' := fF B T s1) tyX0 tyX0_ok nmX0 ux_X0 rfl h hU hdg hn hF.1 fw_F k0 hk hlink hfin (by rw [hty]; rfl) (by rw [hty]; rfl) hk hset (fun f1 e1 => by rw [e1, fw_setF h1 h2]; exact k)
theorem g_fbst {i0 : Nat} {i x y : Int32} (h : gOk Γ cc Ts own) (hY : gY Γ = yY K) (hF : fOk L F B T) (hdg : decode cc pc = .ok (.bastore, 1)) (hn : pc + 1 = n) (hi : vp_in i 2048) (hi0 : i.toNatClampNeg = i0) (hy : vp_nar .byte x = y) (k : G Γ (va_pl L (fw K f F B T (s.1, upd s.2.1 i0 y, s.2.2))) kc ks n lv st) : G Γ (va_pl L (fw K f F B T s)) kc ks pc lv (.int x :: .int i :: .ref B :: st) :=
  g_pbst h hY hdg hn hF.2.1 (fw_B hF) hi hi0 hy (fun f1 e1 => by rw [e1, fw_setB hF]; exact k)
theorem g_fist {i0 : Nat} {i x : Int32} (h : gOk Γ cc Ts own) (hY : gY Γ = yY K) (hF : fOk L F B T) (hdg : decode cc pc = .ok (.iastore, 1)) (hn : pc + 1 = n) (hi : vp_in i 11) (hi0 : i.toNatClampNeg = i0) (k : G Γ (va_pl L (fw K f F B T (s.1, s.2.1, s.2.2.1, s.2.2.2.1, upd s.2.2.2.2 i0 x))) kc ks n lv st) : G Γ (va_pl L (fw K f F B T s)) kc ks pc lv (.int x :: .int i :: .ref T :: st) :=
  g_pist h hY hdg hn hF.2.2.1 (fw_T hF) hi hi0 (fun f1 e1 => by rw [e1, fw_setT hF]; exact k)
theorem g_fild {i v : Int32} (h : gOk Γ cc Ts own) (hY : gY Γ = yY K) (hF : fOk L F B T) (hdg : decode cc pc = .ok (.iaload, 1)) (hn : pc + 1 = n) (hi : vp_in i 11) (hv : s.2.2.2.2 i.toNatClampNeg = v) (k : G Γ (va_pl L (fw K f F B T s)) kc ks n lv (.int v :: st)) : G Γ (va_pl L (fw K f F B T s)) kc ks pc lv (.int i :: .ref T :: st) :=
  g_pild h hY hdg hn hF.2.2.1 (fw_T hF) hi hv k
theorem g_flenB (h : gOk Γ cc Ts own) (hY : gY Γ = yY K) (hF : fOk L F B T) (hdg : decode cc pc = .ok (.arraylength, 1)) (hn : pc + 1 = n) (k : G Γ (va_pl L (fw K f F B T s)) kc ks n lv (.int (nI 2048) :: st)) : G Γ (va_pl L (fw K f F B T s)) kc ks pc lv (.ref B :: st) :=
  g_palen (t0 := 0) (ty := .byte) h hY hdg hn hF.2.1 (fw_B hF) rfl rfl k
theorem g_flenT (h : gOk Γ cc Ts own) (hY : gY Γ = yY K) (hF : fOk L F B T) (hdg : decode cc pc = .ok (.arraylength, 1)) (hn : pc + 1 = n) (k : G Γ (va_pl L (fw K f F B T s)) kc ks n lv (.int (nI 11) :: st)) : G Γ (va_pl L (fw K f F B T s)) kc ks pc lv (.ref T :: st) :=
  g_palen (t0 := 1) (ty := .int) h hY hdg hn hF.2.2.1 (fw_T hF) rfl rfl k
end GF
/-- bytes put at the end -/
def wB (s : FS) (b : Int32) : FS := (s.1 + 1, upd s.2.1 s.1 b.toInt8.toInt32, s.2.2)
def aB (s : FS) (bs : List Int32) : FS := bs.foldl wB s
theorem aB_aB (s : FS) (a b : List Int32) : aB (aB s a) b = aB s (a ++ b) := (List.foldl_append).symm
theorem aB_len (s : FS) (bs : List Int32) : (aB s bs).1 = s.1 + bs.length := by
  induction bs generalizing s with
  | nil => rfl
  | cons b bs ih =>
    have := ih (wB s b)
    rw [List.length_cons, show s.1 + (bs.length + 1) = s.1 + 1 + bs.length by omega]
    exact this
theorem aB_rest (s : FS) (bs : List Int32) : (aB s bs).2.2 = s.2.2 := by
  induction bs generalizing s with
  | nil => rfl
  | cons b bs ih => exact ih (wB s b)
def LB (s : FS) (k : Nat) : Prop := s.1 + k ≤ 2048
theorem LB.le {s : FS} {k k2 : Nat} (h : LB s k) (hk : k2 ≤ k) : LB s k2 := by unfold LB at *; omega
theorem LB.app {s : FS} {k k2 : Nat} {bs : List Int32} (h : LB s k) (hk : bs.length + k2 ≤ k) : LB (aB s bs) k2 := by
  unfold LB at *
  rw [aB_len]
  omega
theorem aB_old (s : FS) (bs : List Int32) {i : Nat} (hi : i < s.1) : (aB s bs).2.1 i = s.2.1 i := by
  induction bs generalizing s with
  | nil => rfl
  | cons b bs ih =>
    have := ih (wB s b) (show i < s.1 + 1 by omega)
    exact this.trans (pk_un (by omega))
theorem aB_new (s : FS) (bs : List Int32) {i : Nat} (hi : i < bs.length) : (aB s bs).2.1 (s.1 + i) = (bs.getD i 0).toInt8.toInt32 := by
  induction bs generalizing s i with
  | nil => exact absurd hi (Nat.not_lt_zero _)
  | cons b bs ih =>
    cases i with
    | zero => exact (aB_old (wB s b) bs (show s.1 < s.1 + 1 by omega)).trans pk_us
    | succ i =>
      have := ih (wB s b) (i := i) (by simpa using hi)
      rw [show s.1 + (i + 1) = s.1 + 1 + i by omega]
      exact this
