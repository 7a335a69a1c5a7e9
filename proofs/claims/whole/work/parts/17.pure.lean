/-! the bytes of a class file, as numbers whose lowest eight bits count; both sides are held against these -/
abbrev PR : Type := Nat → Int32 × Int32 × Int32
def opOk (o : Int32) : Prop := 0 ≤ o.toInt ∧ o.toInt ≤ 13
def goN (b f l : Int32) : Nat := if f ≤ b ∧ b ≤ l then 3 else 4
def lnO (o b f l : Int32) : Nat := if o = 0 then 8 else if o = 1 then 12 else if o = 7 then 16 else if o = 13 then 16 else if o = 8 then 9 + goN b f l else if o = 9 then goN b f l else if o = 10 then 5 else if o = 11 then 5 else if o = 12 then 5 else 20
def sumR (g : Nat → Nat) (f : Nat) : Nat → Nat
  | 0 => 0
  | k + 1 => sumR g f k + g (f + k)
def lnR (pr : PR) (f l r : Nat) : Nat := lnO (pr r).1 (pr r).2.2 (nI f) (nI l)
def bg (pr : PR) (f l row : Nat) : Nat := 16 + 4 * (l - f + 1) + sumR (lnR pr f l) f (row - f)
def bGo (pr : PR) (f l : Nat) (b : Int32) (fr : Nat) : List Int32 := if nI f ≤ b ∧ b ≤ nI l then [167] ++ b2 (nI (bg pr f l b.toNatClampNeg) - nI fr) else [17] ++ b2 b ++ [172]
def bRow (pr : PR) (f l r : Nat) : List Int32 :=
  if (pr r).1 = 0 then bWords ++ bPush (pr r).2.1 ++ bPush (pr r).2.2 ++ [84]
  else if (pr r).1 = 1 then bWords ++ bPush (pr r).2.1 ++ bLoad (pr r).2.2 ++ [84]
  else if (pr r).1 = 7 then bWords ++ bLoad (pr r).2.1 ++ bLoad (pr r).2.2 ++ [84]
  else if (pr r).1 = 8 then bLoad (pr r).2.1 ++ [154] ++ b2 (nI (3 + goN (pr r).2.2 (nI f) (nI l))) ++ bGo pr f l (pr r).2.2 (bg pr f l r + 9)
  else if (pr r).1 = 9 then bGo pr f l (pr r).2.2 (bg pr f l r)
  else if (pr r).1 = 10 then bPush (pr r).2.1 ++ [184] ++ b2 14
  else if (pr r).1 = 11 then bPush (pr r).2.1 ++ [184] ++ b2 17
  else if (pr r).1 = 12 then bPush (pr r).2.1 ++ [184] ++ b2 20
  else if (pr r).1 = 13 then bLoad (pr r).2.1 ++ bPush (pr r).2.2 ++ [164] ++ b2 8 ++ bPush (pr r).2.1 ++ [184] ++ b2 23
  else bWords ++ bPush (pr r).2.1 ++ bLoad (pr r).2.1 ++ bLoad (pr r).2.2 ++ [88 + 4 * (pr r).1] ++ [145] ++ [84]
/-- lists one behind another: g f ++ g (f + 1) ++ .., k of them -/
def catR (g : Nat → List Int32) (f : Nat) : Nat → List Int32
  | 0 => []
  | k + 1 => catR g f k ++ g (f + k)
def bEnd (pr : PR) (f l : Nat) : Nat := bg pr f l (l + 1)
def bMember (pr : PR) (k l : Nat) : List Int32 :=
  bMethod (nI (28 + k)) 25 5 1 (nI (bEnd pr (10 * k + 1) l + 4)) ++ [26] ++ [170] ++ b2 0 ++ b4 (nI (bEnd pr (10 * k + 1) l - 1)) ++ b4 (nI (10 * k + 1)) ++ b4 (nI l) ++
  catR (fun r => b4 (nI (bg pr (10 * k + 1) l r - 1))) (10 * k + 1) (l - 10 * k) ++ catR (bRow pr (10 * k + 1) l) (10 * k + 1) (l - 10 * k) ++ [17] ++ b2 (nI (l + 1)) ++ [172] ++ b4 0
/-- a long's signs from its highest byte on, without those that are 0 -/
def sgL (s : Int64) : Nat → List Int32
  | 0 => []
  | j + 1 => (if s >>> ((nI (8 * j)).toInt64 &&& 63) &&& 255 = 0 then [] else [(s >>> ((nI (8 * j)).toInt64 &&& 63)).toInt32]) ++ sgL s j
def bUtf (f s : Int64) : List Int32 := [1] ++ b2 (nI ((sgL f 8).length + (sgL s 8).length)) ++ sgL f 8 ++ sgL s 8
def nmL (c n : Int32) : Int64 := if 10 ≤ n then c.toInt64 <<< ((16 : Int32).toInt64 &&& 63) ||| ((48 + n / 10) <<< ((8 : Int32) &&& 31)).toInt64 ||| (48 + (n - n / 10 * 10)).toInt64 else c.toInt64 <<< ((8 : Int32).toInt64 &&& 63) ||| (48 + n).toInt64
def bNm (c : Int32) (n : Nat) : List Int32 := bUtf (nmL c (nI n)) 0
def bConst (p mem : Nat) : List Int32 :=
  b2 (nI (28 + mem)) ++ bNm 80 p ++ bClassed 1 ++ bUtf 7665538200540832110 7435248793922397044 ++ bClassed 3 ++ bUtf 87 0 ++ bUtf 23362 0 ++ bPair 12 5 6 ++ bPair 9 2 7 ++ bUtf 75 0 ++ bClassed 9 ++ bUtf 1667329132 0 ++ bUtf 675883350 0 ++ bPair 12 11 12 ++ bPair 10 10 13 ++ bUtf 1835102827 0 ++ bPair 12 15 12 ++ bPair 10 10 16 ++ bUtf 1937010544 0 ++ bPair 12 18 12 ++ bPair 10 10 19 ++ bUtf 1936292453 0 ++ bPair 12 21 12 ++ bPair 10 10 22 ++ bUtf 1131373669 0 ++ bUtf 675883337 0 ++ bUtf 4351440865049801790 0 ++ bUtf 2632022 0 ++ catR (bNm 109) 0 mem
def bFace (mem : Nat) : List Int32 := b2 33 ++ b2 2 ++ b2 4 ++ b2 0 ++ b2 1 ++ b2 8 ++ b2 5 ++ b2 6 ++ b2 0 ++ b2 (nI (1 + mem))
def bStart (fails z : Int32) : List Int32 := bMethod 26 27 2 0 (if fails = 0 then 8 else 12) ++ (if fails = 0 then [] else b4 50555991) ++ bPush z ++ [188] ++ [8] ++ [179] ++ b2 8 ++ [177] ++ b4 0
def bMems (pr : PR) (n : Nat) : List Int32 := catR (fun k => bMember pr k (if n < 10 * k + 10 then n else 10 * k + 10)) 0 ((n + 9) / 10)
def bFile (p : Nat) (fails z : Int32) (pr : PR) (n : Nat) : List Int32 := b4 (-889275714) ++ b2 0 ++ b2 46 ++ bConst p ((n + 9) / 10) ++ bFace ((n + 9) / 10) ++ bStart fails z ++ bMems pr n ++ b2 0
/-- a program's rows in the reference's arrays -/
def prO (σ : MS) (p : Nat) : PR := fun r => (σ.1 2 (60 * p + r), σ.1 3 (60 * p + r), σ.1 4 (60 * p + r))
theorem prO_ap (σ : MS) (bs : List Int32) (p : Nat) : prO (ap σ bs) p = prO σ p := by
  funext r
  simp only [prO, ap_arr σ bs (show (2 : Nat) ≠ 24 by decide), ap_arr σ bs (show (3 : Nat) ≠ 24 by decide), ap_arr σ bs (show (4 : Nat) ≠ 24 by decide)]
theorem sgL_len (s : Int64) : ∀ j : Nat, (sgL s j).length ≤ j
  | 0 => Nat.le_refl 0
  | j + 1 => by
    have := sgL_len s j
    unfold sgL
    split <;> simp <;> omega
theorem bUtf_len (f s : Int64) : (bUtf f s).length ≤ 19 := by
  have h1 := sgL_len f 8
  have h2 := sgL_len s 8
  simp only [bUtf, List.length_append, b2, List.length_cons, List.length_nil]
  omega
theorem goN_le (b f l : Int32) : 3 ≤ goN b f l ∧ goN b f l ≤ 4 := by unfold goN; split <;> omega
theorem lnO_le (o b f l : Int32) : 3 ≤ lnO o b f l ∧ lnO o b f l ≤ 20 := by
  have := goN_le b f l
  unfold lnO
  repeat' split
  all_goals omega
theorem sumR_le {g : Nat → Nat} {m : Nat} (h : ∀ r, g r ≤ m) (f : Nat) : ∀ k : Nat, sumR g f k ≤ m * k
  | 0 => Nat.zero_le _
  | k + 1 => by
    have h1 := sumR_le h f k
    have h2 := h (f + k)
    simp only [sumR, Nat.mul_add, Nat.mul_one]
    omega
theorem bg_le (pr : PR) {f l row : Nat} (h : row - f ≤ 10) (hl : l - f ≤ 9) : bg pr f l row ≤ 256 := by
  have := sumR_le (g := lnR pr f l) (m := 20) (fun r => (lnO_le _ _ _ _).2) f (row - f)
  unfold bg
  omega
theorem bGo_len (pr : PR) (f l : Nat) (b : Int32) (fr : Nat) : (bGo pr f l b fr).length = goN b (nI f) (nI l) := by
  unfold bGo goN
  split <;> rfl
theorem bLoad_len (x : Int32) : (bLoad x).length = 6 := rfl
theorem b2_len (x : Int32) : (b2 x).length = 2 := rfl
theorem bRow_len (pr : PR) (f l r : Nat) : (bRow pr f l r).length = lnR pr f l r := by
  unfold bRow lnR lnO
  by_cases h8 : (pr r).1 = 8
  · rw [h8]
    simp only [show ¬ (8 : Int32) = 0 by decide, show ¬ (8 : Int32) = 1 by decide, show ¬ (8 : Int32) = 7 by decide, show ¬ (8 : Int32) = 13 by decide, if_false, if_true]
    rw [List.length_append, List.length_append, List.length_append, bGo_len, bLoad_len, b2_len]
    simp only [List.length_cons, List.length_nil]
  · by_cases h9 : (pr r).1 = 9
    · rw [h9]
      simp only [show ¬ (9 : Int32) = 0 by decide, show ¬ (9 : Int32) = 1 by decide, show ¬ (9 : Int32) = 7 by decide, show ¬ (9 : Int32) = 13 by decide, show ¬ (9 : Int32) = 8 by decide, if_false, if_true]
      exact bGo_len _ _ _ _ _
    · rw [if_neg h8, if_neg h8, if_neg h9, if_neg h9]
      repeat' split
      all_goals first | rfl | (exfalso; simp_all; done)
theorem catR_len {g : Nat → List Int32} {m : Nat} (h : ∀ r, (g r).length ≤ m) (f : Nat) : ∀ k : Nat, (catR g f k).length ≤ m * k
  | 0 => Nat.zero_le _
  | k + 1 => by
    have h1 := catR_len h f k
    have h2 := h (f + k)
    simp only [catR, List.length_append, Nat.mul_add, Nat.mul_one]
    omega
