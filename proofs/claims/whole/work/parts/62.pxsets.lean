theorem sA_id (σ : MS) (j i : Nat) : sA σ j i (σ.1 j i) = σ := by
  unfold sA
  refine Prod.ext ?_ rfl
  funext j2
  by_cases h : j2 = j
  · subst h
    show va_up σ.1 j2 (upd (σ.1 j2) i (σ.1 j2 i)) j2 = σ.1 j2
    rw [va_up_self]
    funext i2
    by_cases h2 : i2 = i
    · rw [h2]; exact pk_us
    · exact pk_un h2
  · exact va_up_ne _ _ h
theorem sA_s (σ : MS) (j i : Nat) (x : Int32) : (sA σ j i x).1 j i = x := by
  show va_up σ.1 j (upd (σ.1 j) i x) j i = x
  rw [va_up_self]; exact pk_us
theorem sA_n {σ : MS} {j i : Nat} {x : Int32} {i2 : Nat} (h : i2 ≠ i) : (sA σ j i x).1 j i2 = σ.1 j i2 := by
  show va_up σ.1 j (upd (σ.1 j) i x) j i2 = _
  rw [va_up_self]; exact pk_un h
/-- a unit's cell -/
def gU (g : GX) (u : Nat) (fl eb : Int32) : GX := (upd g.1 u fl, upd g.2.1 u eb, g.2.2)
def sU (σ : MS) (u : Nat) (x12 x13 x17 x18 x19 : Int32) : MS := sA (sA (sA (sA (sA σ 12 u x12) 13 u x13) 17 u x17) 18 u x18) 19 u x19
def cU (ad : AD) (u : Nat) (x12 x13 fl eb x17 x18 x19 : Int32) : va_E := .inr (7, [.ref (ad 13 u 0), .ref (ad 14 u 0), .int x12, .int x13, .int fl, .int eb, .int x17, .int x18, .int (nI x19.toNatClampNeg)])
set_option maxHeartbeats 4000000 in
theorem PX_unit {K : Nat → ClassId} {L : List Nat} {f : Nat → va_E} {ad : AD} {κ : TG} {g : GX} {σ : MS} (hP : PX K L f ad κ g σ) {u : Nat} (hu1 : 1 ≤ u) (hu2 : u ≤ nF σ 2) (x12 x13 fl eb x17 x18 x19 : Int32) : PX K L (va_up f (ad 12 u 0) (cU ad u x12 x13 fl eb x17 x18 x19)) ad κ (gU g u fl eb) (sU σ u x12 x13 x17 x18 x19) := by
  have t := (px12 hP u hu1 hu2).2.1
  refine ⟨?_, ?_, ?_, ?_, ?_, ?_, ?_, ?_, ?_, ?_, ?_, ?_, ?_, ?_, ?_, ?_, ?_, ?_⟩
  · exact ((px0 hP).up t (tne (by decide)))
  · exact ((px1 hP).up t (tne (by decide)))
  · exact ((px2 hP).up t (tne (by decide)))
  · exact ((px3 hP).up t (tne (by decide)))
  · exact ((px4 hP).up t (tne (by decide)))
  · exact ((px5 hP).up t (tne (by decide)))
  · exact ((px6 hP).up t (tne (by decide)))
  · exact ((px7 hP).up t (tne (by decide)))
  · exact ((px8 hP).up t (tne (by decide)))
  · exact fun p h1 h2 => ((px9 hP p h1 h2).up t (tne (by decide)))
  · exact fun p h1 h2 => ((px10 hP p h1 h2).up t (tne (by decide)))
  · exact fun p h1 h2 r h3 h4 => ((px11 hP p h1 h2 r h3 h4).up t (tne (by decide)))
  · intro u1 h1 h2
    by_cases h : u1 = u
    · subst h
      refine (px12 hP u1 h1 h2).set.eq ?_
      unfold cU c12
      rw [show (sU σ u1 x12 x13 x17 x18 x19).1 12 u1 = x12 from sA_s σ 12 u1 x12, show (sU σ u1 x12 x13 x17 x18 x19).1 13 u1 = x13 from sA_s σ 13 u1 x13, show (sU σ u1 x12 x13 x17 x18 x19).1 17 u1 = x17 from sA_s σ 17 u1 x17, show (sU σ u1 x12 x13 x17 x18 x19).1 18 u1 = x18 from sA_s σ 18 u1 x18, show nA (sU σ u1 x12 x13 x17 x18 x19) 19 u1 = x19.toNatClampNeg from congrArg Int32.toNatClampNeg (sA_s (sA (sA (sA (sA σ 12 u1 x12) 13 u1 x13) 17 u1 x17) 18 u1 x18) 19 u1 x19), show gfl (gU g u1 fl eb) u1 = fl from pk_us, show geb (gU g u1 fl eb) u1 = eb from pk_us]
    · refine ((px12 hP u1 h1 h2).up t (tni h)).eq ?_
      unfold c12
      rw [show (sU σ u x12 x13 x17 x18 x19).1 12 u1 = σ.1 12 u1 from sA_n (σ := σ) (j := 12) (x := x12) h, show (sU σ u x12 x13 x17 x18 x19).1 13 u1 = σ.1 13 u1 from sA_n (σ := σ) (j := 13) (x := x13) h, show (sU σ u x12 x13 x17 x18 x19).1 17 u1 = σ.1 17 u1 from sA_n (σ := σ) (j := 17) (x := x17) h, show (sU σ u x12 x13 x17 x18 x19).1 18 u1 = σ.1 18 u1 from sA_n (σ := σ) (j := 18) (x := x18) h, show nA (sU σ u x12 x13 x17 x18 x19) 19 u1 = nA σ 19 u1 from congrArg Int32.toNatClampNeg (sA_n (σ := sA (sA (sA (sA σ 12 u x12) 13 u x13) 17 u x17) 18 u x18) (j := 19) (x := x19) h), show gfl (gU g u fl eb) u1 = gfl g u1 from pk_un h, show geb (gU g u fl eb) u1 = geb g u1 from pk_un h]
  · exact fun u1 h1 h2 => ((px13 hP u1 h1 h2).up t (tne (by decide)))
  · exact fun u1 h1 h2 => ((px14 hP u1 h1 h2).up t (tne (by decide)))
  · exact fun c1 h1 h2 => ((px15 hP c1 h1 h2).up t (tne (by decide)))
  · exact fun c1 h1 h2 => ((px16 hP c1 h1 h2).up t (tne (by decide)))
  · exact fun c1 h1 h2 h3 => ((px17 hP c1 h1 h2 h3).up t (tne (by decide)))
/-- a class's cell -/
def gC (g : GX) (c : Nat) (sd : Int32) : GX := (g.1, g.2.1, g.2.2.1, upd g.2.2.2.1 c sd, g.2.2.2.2)
def sC2 (σ : MS) (c : Nat) (x11 x9 : Int32) : MS := sA (sA σ 11 c x11) 9 c x9
def cC (ad : AD) (g : GX) (σ : MS) (c : Nat) (sd x11 x9 : Int32) : va_E := .inr (4, [.int (nI c), .ref (ad 12 (nA σ 6 c) 0), .ref (ad 9 (nA σ 7 c) 0), .int (nI (nA σ 8 c)), .ref (ad 16 c 0), va_rf (if gfa g c = true then some (ad 17 c 0) else none), .int sd, .int x11, .int x9])
set_option maxHeartbeats 4000000 in
theorem PX_cls {K : Nat → ClassId} {L : List Nat} {f : Nat → va_E} {ad : AD} {κ : TG} {g : GX} {σ : MS} (hP : PX K L f ad κ g σ) {c : Nat} (hc1 : 1 ≤ c) (hc2 : c ≤ nF σ 3) (sd x11 x9 : Int32) : PX K L (va_up f (ad 15 c 0) (cC ad g σ c sd x11 x9)) ad κ (gC g c sd) (sC2 σ c x11 x9) := by
  have t := (px15 hP c hc1 hc2).2.1
  refine ⟨?_, ?_, ?_, ?_, ?_, ?_, ?_, ?_, ?_, ?_, ?_, ?_, ?_, ?_, ?_, ?_, ?_, ?_⟩
  · exact ((px0 hP).up t (tne (by decide)))
  · exact ((px1 hP).up t (tne (by decide)))
  · exact ((px2 hP).up t (tne (by decide)))
  · exact ((px3 hP).up t (tne (by decide)))
  · exact ((px4 hP).up t (tne (by decide)))
  · exact ((px5 hP).up t (tne (by decide)))
  · exact ((px6 hP).up t (tne (by decide)))
  · exact ((px7 hP).up t (tne (by decide)))
  · exact ((px8 hP).up t (tne (by decide)))
  · exact fun p h1 h2 => ((px9 hP p h1 h2).up t (tne (by decide)))
  · exact fun p h1 h2 => ((px10 hP p h1 h2).up t (tne (by decide)))
  · exact fun p h1 h2 r h3 h4 => ((px11 hP p h1 h2 r h3 h4).up t (tne (by decide)))
  · exact fun u1 h1 h2 => ((px12 hP u1 h1 h2).up t (tne (by decide)))
  · exact fun u1 h1 h2 => ((px13 hP u1 h1 h2).up t (tne (by decide)))
  · exact fun u1 h1 h2 => ((px14 hP u1 h1 h2).up t (tne (by decide)))
  · intro c1 h1 h2
    by_cases h : c1 = c
    · subst h
      refine (px15 hP c1 h1 h2).set.eq ?_
      unfold cC c15
      rw [show gsd (gC g c1 sd) c1 = sd from pk_us, show (sC2 σ c1 x11 x9).1 11 c1 = x11 from sA_s σ 11 c1 x11, show (sC2 σ c1 x11 x9).1 9 c1 = x9 from sA_s _ 9 c1 x9]
      rfl
    · refine ((px15 hP c1 h1 h2).up t (tni h)).eq ?_
      unfold c15
      rw [show gsd (gC g c sd) c1 = gsd g c1 from pk_un h, show (sC2 σ c x11 x9).1 11 c1 = σ.1 11 c1 from sA_n (σ := σ) (j := 11) (x := x11) h, show (sC2 σ c x11 x9).1 9 c1 = σ.1 9 c1 from sA_n (σ := sA σ 11 c x11) (j := 9) (x := x9) h]
      rfl
  · exact fun c1 h1 h2 => ((px16 hP c1 h1 h2).up t (tne (by decide)))
  · exact fun c1 h1 h2 h3 => ((px17 hP c1 h1 h2 h3).up t (tne (by decide)))
def gWs (g : GX) (c : Nat) (W : Nat → Int32) : GX := (g.1, g.2.1, g.2.2.1, g.2.2.2.1, va_up g.2.2.2.2.1 c W, g.2.2.2.2.2)
set_option maxHeartbeats 4000000 in
theorem PX_work {K : Nat → ClassId} {L : List Nat} {f : Nat → va_E} {ad : AD} {κ : TG} {g : GX} {σ : MS} (hP : PX K L f ad κ g σ) {c : Nat} (hc1 : 1 ≤ c) (hc2 : c ≤ nF σ 3) (W : Nat → Int32) : PX K L (va_up f (ad 16 c 0) (.inl (K 0, nA σ 0 (nA σ 7 c), .inl W))) ad κ (gWs g c W) σ := by
  have t := (px16 hP c hc1 hc2).2.1
  refine ⟨?_, ?_, ?_, ?_, ?_, ?_, ?_, ?_, ?_, ?_, ?_, ?_, ?_, ?_, ?_, ?_, ?_, ?_⟩
  · exact ((px0 hP).up t (tne (by decide)))
  · exact ((px1 hP).up t (tne (by decide)))
  · exact ((px2 hP).up t (tne (by decide)))
  · exact ((px3 hP).up t (tne (by decide)))
  · exact ((px4 hP).up t (tne (by decide)))
  · exact ((px5 hP).up t (tne (by decide)))
  · exact ((px6 hP).up t (tne (by decide)))
  · exact ((px7 hP).up t (tne (by decide)))
  · exact ((px8 hP).up t (tne (by decide)))
  · exact fun p h1 h2 => ((px9 hP p h1 h2).up t (tne (by decide)))
  · exact fun p h1 h2 => ((px10 hP p h1 h2).up t (tne (by decide)))
  · exact fun p h1 h2 r h3 h4 => ((px11 hP p h1 h2 r h3 h4).up t (tne (by decide)))
  · exact fun u1 h1 h2 => ((px12 hP u1 h1 h2).up t (tne (by decide)))
  · exact fun u1 h1 h2 => ((px13 hP u1 h1 h2).up t (tne (by decide)))
  · exact fun u1 h1 h2 => ((px14 hP u1 h1 h2).up t (tne (by decide)))
  · exact fun c1 h1 h2 => ((px15 hP c1 h1 h2).up t (tne (by decide)))
  · intro c1 h1 h2
    by_cases h : c1 = c
    · subst h
      refine (px16 hP c1 h1 h2).set.eq ?_
      unfold c16
      rw [show gW (gWs g c1 W) c1 = W from va_up_self _ _ _]
    · refine ((px16 hP c1 h1 h2).up t (tni h)).eq ?_
      unfold c16
      rw [show gW (gWs g c W) c1 = gW g c1 from va_up_ne _ _ h]
  · exact fun c1 h1 h2 h3 => ((px17 hP c1 h1 h2 h3).up t (tne (by decide)))
def gMk (g : GX) (u : Nat) (m : Nat → Int32) : GX := (g.1, g.2.1, va_up g.2.2.1 u m, g.2.2.2)
set_option maxHeartbeats 4000000 in
theorem PX_marks {K : Nat → ClassId} {L : List Nat} {f : Nat → va_E} {ad : AD} {κ : TG} {g : GX} {σ : MS} (hP : PX K L f ad κ g σ) {u : Nat} (hu1 : 1 ≤ u) (hu2 : u ≤ nF σ 2) (m : Nat → Int32) : PX K L (va_up f (ad 14 u 0) (.inl (K 0, 100, .inl m))) ad κ (gMk g u m) σ := by
  have t := (px14 hP u hu1 hu2).2.1
  refine ⟨?_, ?_, ?_, ?_, ?_, ?_, ?_, ?_, ?_, ?_, ?_, ?_, ?_, ?_, ?_, ?_, ?_, ?_⟩
  · exact ((px0 hP).up t (tne (by decide)))
  · exact ((px1 hP).up t (tne (by decide)))
  · exact ((px2 hP).up t (tne (by decide)))
  · exact ((px3 hP).up t (tne (by decide)))
  · exact ((px4 hP).up t (tne (by decide)))
  · exact ((px5 hP).up t (tne (by decide)))
  · exact ((px6 hP).up t (tne (by decide)))
  · exact ((px7 hP).up t (tne (by decide)))
  · exact ((px8 hP).up t (tne (by decide)))
  · exact fun p h1 h2 => ((px9 hP p h1 h2).up t (tne (by decide)))
  · exact fun p h1 h2 => ((px10 hP p h1 h2).up t (tne (by decide)))
  · exact fun p h1 h2 r h3 h4 => ((px11 hP p h1 h2 r h3 h4).up t (tne (by decide)))
  · exact fun u1 h1 h2 => ((px12 hP u1 h1 h2).up t (tne (by decide)))
  · exact fun u1 h1 h2 => ((px13 hP u1 h1 h2).up t (tne (by decide)))
  · intro u1 h1 h2
    by_cases h : u1 = u
    · subst h
      refine (px14 hP u1 h1 h2).set.eq ?_
      unfold c14
      rw [show gmk (gMk g u1 m) u1 = m from va_up_self _ _ _]
    · refine ((px14 hP u1 h1 h2).up t (tni h)).eq ?_
      unfold c14
      rw [show gmk (gMk g u m) u1 = gmk g u1 from va_up_ne _ _ h]
  · exact fun c1 h1 h2 => ((px15 hP c1 h1 h2).up t (tne (by decide)))
  · exact fun c1 h1 h2 => ((px16 hP c1 h1 h2).up t (tne (by decide)))
  · exact fun c1 h1 h2 h3 => ((px17 hP c1 h1 h2 h3).up t (tne (by decide)))
