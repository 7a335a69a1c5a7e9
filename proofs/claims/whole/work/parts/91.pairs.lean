set_option maxRecDepth 100000 in
theorem nwj_1 : ∀ i : Nat, i < 1 → Cond.not (Cond.eq (sTm i) (sTm 1)) ∈ nw := by decide +kernel
set_option maxRecDepth 100000 in
theorem nwj_2 : ∀ i : Nat, i < 2 → Cond.not (Cond.eq (sTm i) (sTm 2)) ∈ nw := by decide +kernel
set_option maxRecDepth 100000 in
theorem nwj_3 : ∀ i : Nat, i < 3 → Cond.not (Cond.eq (sTm i) (sTm 3)) ∈ nw := by decide +kernel
set_option maxRecDepth 100000 in
theorem nwj_4 : ∀ i : Nat, i < 4 → Cond.not (Cond.eq (sTm i) (sTm 4)) ∈ nw := by decide +kernel
set_option maxRecDepth 100000 in
theorem nwj_5 : ∀ i : Nat, i < 5 → Cond.not (Cond.eq (sTm i) (sTm 5)) ∈ nw := by decide +kernel
set_option maxRecDepth 100000 in
theorem nwj_6 : ∀ i : Nat, i < 6 → Cond.not (Cond.eq (sTm i) (sTm 6)) ∈ nw := by decide +kernel
set_option maxRecDepth 100000 in
theorem nwj_7 : ∀ i : Nat, i < 7 → Cond.not (Cond.eq (sTm i) (sTm 7)) ∈ nw := by decide +kernel
set_option maxRecDepth 100000 in
theorem nwj_8 : ∀ i : Nat, i < 8 → Cond.not (Cond.eq (sTm i) (sTm 8)) ∈ nw := by decide +kernel
set_option maxRecDepth 100000 in
theorem nwj_9 : ∀ i : Nat, i < 9 → Cond.not (Cond.eq (sTm i) (sTm 9)) ∈ nw := by decide +kernel
set_option maxRecDepth 100000 in
theorem nwj_10 : ∀ i : Nat, i < 10 → Cond.not (Cond.eq (sTm i) (sTm 10)) ∈ nw := by decide +kernel
set_option maxRecDepth 100000 in
theorem nwj_11 : ∀ i : Nat, i < 11 → Cond.not (Cond.eq (sTm i) (sTm 11)) ∈ nw := by decide +kernel
set_option maxRecDepth 100000 in
theorem nwj_12 : ∀ i : Nat, i < 12 → Cond.not (Cond.eq (sTm i) (sTm 12)) ∈ nw := by decide +kernel
set_option maxRecDepth 100000 in
theorem nwj_13 : ∀ i : Nat, i < 13 → Cond.not (Cond.eq (sTm i) (sTm 13)) ∈ nw := by decide +kernel
set_option maxRecDepth 100000 in
theorem nwj_14 : ∀ i : Nat, i < 14 → Cond.not (Cond.eq (sTm i) (sTm 14)) ∈ nw := by decide +kernel
set_option maxRecDepth 100000 in
theorem nwj_15 : ∀ i : Nat, i < 15 → Cond.not (Cond.eq (sTm i) (sTm 15)) ∈ nw := by decide +kernel
set_option maxRecDepth 100000 in
theorem nwj_16 : ∀ i : Nat, i < 16 → Cond.not (Cond.eq (sTm i) (sTm 16)) ∈ nw := by decide +kernel
set_option maxRecDepth 100000 in
theorem nwj_17 : ∀ i : Nat, i < 17 → Cond.not (Cond.eq (sTm i) (sTm 17)) ∈ nw := by decide +kernel
theorem nw_lt {i j : Nat} (hij : i < j) (hj : j < 18) : Cond.not (Cond.eq (sTm i) (sTm j)) ∈ nw := by
  rcases (show j = 1 ∨ j = 2 ∨ j = 3 ∨ j = 4 ∨ j = 5 ∨ j = 6 ∨ j = 7 ∨ j = 8 ∨ j = 9 ∨ j = 10 ∨ j = 11 ∨ j = 12 ∨ j = 13 ∨ j = 14 ∨ j = 15 ∨ j = 16 ∨ j = 17 by omega) with rfl | rfl | rfl | rfl | rfl | rfl | rfl | rfl | rfl | rfl | rfl | rfl | rfl | rfl | rfl | rfl | rfl
  · exact nwj_1 i hij
  · exact nwj_2 i hij
  · exact nwj_3 i hij
  · exact nwj_4 i hij
  · exact nwj_5 i hij
  · exact nwj_6 i hij
  · exact nwj_7 i hij
  · exact nwj_8 i hij
  · exact nwj_9 i hij
  · exact nwj_10 i hij
  · exact nwj_11 i hij
  · exact nwj_12 i hij
  · exact nwj_13 i hij
  · exact nwj_14 i hij
  · exact nwj_15 i hij
  · exact nwj_16 i hij
  · exact nwj_17 i hij
theorem nw_ne (i : Nat) (hi : i < 18) (j : Nat) (hj : j < 18) (hn : i ≠ j) : Cond.not (Cond.eq (sTm i) (sTm j)) ∈ nw ∨ Cond.not (Cond.eq (sTm j) (sTm i)) ∈ nw := by
  rcases Nat.lt_or_ge i j with h | h
  · exact Or.inl (nw_lt h hj)
  · exact Or.inr (nw_lt (by omega) hi)
