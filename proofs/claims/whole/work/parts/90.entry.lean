def R_law : String := "ClassMaker4Law"
def lw_P (b : Addr) (xs : List Int32) (args : Array Value) (s : State) : Prop := args = #[.ref b] ∧ s.IntsAt b xs ∧ xs.length ≤ 3072 ∧ (Jvm.Cond.and given_1 narrow_1).before args s = true
def lw_Q (_ : Array Value) (s : State) (o : Outcome) (t : State) : Prop := o = .returned (some (.int 1)) ∧ Framed s o t [] 601024 7293034
def lw_Z (below : List Frame) (a : Array Value) (s : State) : State → Prop := fun t => ∃ o, t.status = .running ∧ Ended t below o ∧ lw_Q a s o t
/-- the law's own end, with 1 on the stack, nothing written that was there before, its room as the claim has it -/
theorem lw_ret {p : Program} {l : Launch} {e : Env} {s : State} {m : MethodId} {below : List Frame} {meth : Method} {c : Code} {b : Nat} (hx : p.tables.exec = Jvm.exec) (hb : c.code = code) (hr : meth.sig.returnType = ret) (hlocks : meth.locks = false) {pc : Nat} {H : Heap} {ls : Array Slot} (hdg : decode code pc = .ok (.ireturn, 1)) : W p l e room_1 s m #[Value.ref b] below meth c H [] 601024 7293034 (lw_Z below #[Value.ref b] s) (F0 m pc ls [.int 1]) := by
  intro T hT X
  obtain ⟨fs, hret, hrun, hended, hW, hframe⟩ := X.leave (v := some (.int 1)) (hlocks := hlocks) (fun h => by rw [hr] at h; cases h)
  have hmeth' : T.vm.method? m = some meth := X.method'
  refine ⟨T.setFrames fs, ?_, .returned (some (.int 1)), hrun, hended, rfl, ⟨_, rfl⟩, hW, hframe⟩
  jvm_step X.here [X.here.top, hx, hb, hdg, hmeth', hr, ret, narrow_b1]
  (try refine ⟨rfl, ?_⟩); (try refine ⟨rfl, ?_⟩)
  first | (intro acts; rw [hret _ acts rfl rfl rfl]) | rw [hret _ _ rfl rfl rfl]
  exact Steps.refl _
/-- what holds at the law's entry: the machine, the code, the tables' words (any of lw_tbl by 'hts w (by decide +kernel)'), the script of L ints xs at the cell b, what the Statement gives of the start (any of its parts by flat_of_before) -/
def lw_At (p : Program) (s : State) (m : MethodId) (meth : Method) (c : Code) (b L : Nat) (xs : Nat → Int32) : Prop :=
  p.tables.exec = Jvm.exec ∧ c.code = code ∧ meth.sig.returnType = ret ∧ c.maxLocals = 8 ∧ s.vm.findClass R_law = some m.cls ∧ (∀ w ∈ lw_tbl, w.before #[Value.ref b] s = true) ∧ va_X b L xs s s.heap ∧ b < s.heap.size ∧ meth.locks = false ∧ (Jvm.Cond.and given_1 narrow_1).before #[Value.ref b] s = true
def nw : List Cond := flatC (Jvm.Cond.and given_1 narrow_1)
def sTm (i : Nat) : Term := .string (sTab.getD i ("", 0, "")).1 (sTab.getD i ("", 0, "")).2.1
def rlT : Term := .static "ClassMaker4$FileMaker" "ROW_LENGTHS" "[I"
set_option maxRecDepth 100000 in
theorem nw_ex : ∀ i : Nat, i < 18 → Cond.exactly (sTm i) "java/lang/String" ∈ nw := by decide +kernel
set_option maxRecDepth 100000 in
theorem nw_co : ∀ i : Nat, i < 18 → Cond.eq (.field (sTm i) "java/lang/String" "coder" "B") (.int 0) ∈ nw := by decide +kernel
set_option maxRecDepth 100000 in
theorem nw_ar : ∀ i : Nat, i < 18 → Cond.arrayOf (.field (sTm i) "java/lang/String" "value" "[B") .byte ∈ nw := by decide +kernel
set_option maxRecDepth 100000 in
theorem nw_le : ∀ i : Nat, i < 18 → Cond.eq (.length (.field (sTm i) "java/lang/String" "value" "[B")) (.int (Int32.ofNat (sLen.getD i 0))) ∈ nw := by decide +kernel
set_option maxRecDepth 100000 in
theorem nw_el : ∀ i : Nat, i < 18 → ∀ j : Nat, j < sLen.getD i 0 → Cond.eq (.elem (.field (sTm i) "java/lang/String" "value" "[B") (.int (Int32.ofNat j))) (.int ((sByt.getD i []).getD j 0)) ∈ nw := by decide +kernel
set_option maxRecDepth 100000 in
theorem nw_rl : Cond.arrayOf rlT .int ∈ nw ∧ Cond.eq (.length rlT) (.int (Int32.ofNat 14)) ∈ nw ∧ (∀ j : Nat, j < 14 → Cond.eq (.elem rlT (.int (Int32.ofNat j))) (.int ([8, 12, 20, 20, 20, 20, 20, 16, 9, 0, 5, 5, 5, 16].getD j 0)) ∈ nw) := by decide +kernel
set_option maxRecDepth 100000 in
theorem nw_st : Cond.eq (.static "java/lang/String" "COMPACT_STRINGS" "Z") (.int 1) ∈ nw ∧ Cond.isRef (.static "jdk/internal/util/Preconditions" "SIOOBE_FORMATTER" "Ljava/util/function/BiFunction;") ∈ nw ∧ Cond.isRef (.static Bundle.tN "UNASSIGNED_STACK" Bundle.steD) ∈ nw ∧ Cond.isRef (.static Bundle.tN "SUPPRESSED_SENTINEL" Bundle.listD) ∈ nw ∧ Cond.not (.castable nC aC) ∈ nw := by decide +kernel
set_option maxRecDepth 100000 in
theorem tb_st : Cond.laysStatic "ClassMaker4$FileMaker" "ROW_LENGTHS" "[I" ∈ lw_tbl ∧ Cond.initialized "ClassMaker4$FileMaker" ∈ lw_tbl ∧ Cond.laysStatic "java/lang/String" "COMPACT_STRINGS" "Z" ∈ lw_tbl ∧ Cond.initialized "java/lang/String" ∈ lw_tbl ∧ Cond.laysStatic "jdk/internal/util/Preconditions" "SIOOBE_FORMATTER" "Ljava/util/function/BiFunction;" ∈ lw_tbl ∧ Cond.initialized "jdk/internal/util/Preconditions" ∈ lw_tbl ∧ Cond.laysStatic Bundle.tN "UNASSIGNED_STACK" Bundle.steD ∈ lw_tbl ∧ Cond.laysStatic Bundle.tN "SUPPRESSED_SENTINEL" Bundle.listD ∈ lw_tbl ∧ Cond.initialized Bundle.tN ∈ lw_tbl := by decide +kernel
set_option maxRecDepth 100000 in
theorem tb_ao : Cond.arrayOver (.object "ClassMaker4$Program") ∈ lw_tbl ∧ Cond.arrayOver (.object "ClassMaker4$MadeClass") ∈ lw_tbl ∧ Cond.arrayOver (.object "ClassMaker4$RunUnit") ∈ lw_tbl ∧ Cond.arrayOver (.object "ClassMaker4$Row") ∈ lw_tbl := by decide +kernel
set_option maxRecDepth 100000 in
theorem tb_B : ∀ w ∈ tB, w ∈ lw_tbl := by decide +kernel
set_option maxRecDepth 100000 in
theorem tb_s : ∀ i : Nat, i < 18 → Cond.stringRef (sTab.getD i ("", 0, "")).1 (sTab.getD i ("", 0, "")).2.1 (sTab.getD i ("", 0, "")).2.2 ∈ lw_tbl := by decide +kernel
set_option maxRecDepth 100000 in
theorem tb_j0 : ∀ w ∈ u_ws RJx00060 TJx00060 6, w ∈ lw_tbl := by decide +kernel
set_option maxRecDepth 100000 in
theorem tb_j1 : ∀ w ∈ u_ws RJxde1cd TJxde1cd 6, w ∈ lw_tbl := by decide +kernel
