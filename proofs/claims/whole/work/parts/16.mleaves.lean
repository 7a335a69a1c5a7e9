set_option maxHeartbeats 4000000 in
set_option maxRecDepth 100000 in
theorem m_thrown (l : Launch) (D : va_G) (K : Nat → ClassId) (am : Nat) (A : Nat → Nat) (σ : MS)  : Mc l yX8_thrown (wM yX8_thrown cX8_thrown 1 (some .int)) (rmL 0 0 0) D (yY K) [.ref am] (mW K am A σ) (fun v w => v = some (.int (σ.2 0)) ∧ w = mW K am A σ) 0 0 := by
  refine m_start (lv := [(0, .ref am)]) rfl (Nat.le_of_ble_eq_true rfl) rfl (fun Γ hX hRm hnL hY hDD hLa hR hI hE => ?_)
  have hU : ∀ w ∈ wU, w ∈ wM yX8_thrown cX8_thrown 1 (some .int) := fun w h => wM_in h
  subst hLa
  subst hDD
  refine g_aload_n (n := 1) hX dX8_thrown_0 rfl rfl rfl ?_
  refine g_mget (n := 4) 0 (v := .int (σ.2 0)) hX hU dX8_thrown_1 rfl uf_X8_87 rfl rfl rfl ?_
  exact g_iret hX hR dX8_thrown_4 ⟨rfl, rfl⟩

def bI (c : Prop) [Decidable c] : Int32 := if c then 1 else 0
theorem bI_t {c : Prop} [Decidable c] (h : c) : bI c = 1 := if_pos h
theorem bI_f {c : Prop} [Decidable c] (h : ¬ c) : bI c = 0 := if_neg h
theorem bI_nar (c : Prop) [Decidable c] : narrow .boolean (.int (bI c)) = .int (bI c) := by unfold bI; split <;> rfl
set_option maxHeartbeats 4000000 in
set_option maxRecDepth 100000 in
theorem m_isProgram (l : Launch) (D : va_G) (K : Nat → ClassId) (am : Nat) (A : Nat → Nat) (σ : MS) (p : Int32) : Mc l yX8_isProgram (wM yX8_isProgram cX8_isProgram 2 (some .boolean)) (rmL 0 0 0) D (yY K) [.ref am, .int p] (mW K am A σ) (fun v w => v = some (.int (bI (1 ≤ p ∧ p ≤ σ.2 1))) ∧ w = mW K am A σ) 0 0 := by
  refine m_start (lv := [(0, .ref am), (1, .int p)]) rfl (Nat.le_of_ble_eq_true rfl) rfl (fun Γ hX hRm hnL hY hDD hLa hR hI hE => ?_)
  have hU : ∀ w ∈ wU, w ∈ wM yX8_isProgram cX8_isProgram 2 (some .boolean) := fun w h => wM_in h
  subst hLa
  subst hDD
  refine g_iload_n (n := 1) hX dX8_isProgram_0 rfl rfl rfl ?_
  refine g_iconst (n := 2) (v := 1) hX dX8_isProgram_1 rfl rfl ?_
  refine g_icmp_lt (n := 5) (tgt := 17) hX dX8_isProgram_2 rfl (by decide) (fun c2 => ?_) (fun c2 => ?_)
  · refine g_iconst (n := 18) (v := 0) hX dX8_isProgram_17 rfl rfl ?_
    exact g_zret hX hR dX8_isProgram_18 rfl ⟨by rw [bI_f (fun h9 => Int32.not_lt.mpr h9.1 c2)], rfl⟩
  · refine g_iload_n (n := 6) hX dX8_isProgram_5 rfl rfl rfl ?_
    refine g_aload_n (n := 7) hX dX8_isProgram_6 rfl rfl rfl ?_
    refine g_mget (n := 10) 1 (v := .int (σ.2 1)) hX hU dX8_isProgram_7 rfl uf_X8_91 rfl rfl rfl ?_
    refine g_icmp_gt (n := 13) (tgt := 17) hX dX8_isProgram_10 rfl (by decide) (fun c10 => ?_) (fun c10 => ?_)
    · refine g_iconst (n := 18) (v := 0) hX dX8_isProgram_17 rfl rfl ?_
      exact g_zret hX hR dX8_isProgram_18 rfl ⟨by rw [bI_f (fun h9 => Int32.not_lt.mpr h9.2 c10)], rfl⟩
    · refine g_iconst (n := 14) (v := 1) hX dX8_isProgram_13 rfl rfl ?_
      refine g_goto (n := 18) hX dX8_isProgram_14 (by decide) ?_
      exact g_zret hX hR dX8_isProgram_18 rfl ⟨by rw [bI_t ⟨Int32.not_lt.mp c2, Int32.not_lt.mp c10⟩], rfl⟩

set_option maxHeartbeats 4000000 in
set_option maxRecDepth 100000 in
theorem m_isUnit (l : Launch) (D : va_G) (K : Nat → ClassId) (am : Nat) (A : Nat → Nat) (σ : MS) (p : Int32) : Mc l yX8_isUnit (wM yX8_isUnit cX8_isUnit 2 (some .boolean)) (rmL 0 0 0) D (yY K) [.ref am, .int p] (mW K am A σ) (fun v w => v = some (.int (bI (1 ≤ p ∧ p ≤ σ.2 2))) ∧ w = mW K am A σ) 0 0 := by
  refine m_start (lv := [(0, .ref am), (1, .int p)]) rfl (Nat.le_of_ble_eq_true rfl) rfl (fun Γ hX hRm hnL hY hDD hLa hR hI hE => ?_)
  have hU : ∀ w ∈ wU, w ∈ wM yX8_isUnit cX8_isUnit 2 (some .boolean) := fun w h => wM_in h
  subst hLa
  subst hDD
  refine g_iload_n (n := 1) hX dX8_isUnit_0 rfl rfl rfl ?_
  refine g_iconst (n := 2) (v := 1) hX dX8_isUnit_1 rfl rfl ?_
  refine g_icmp_lt (n := 5) (tgt := 17) hX dX8_isUnit_2 rfl (by decide) (fun c2 => ?_) (fun c2 => ?_)
  · refine g_iconst (n := 18) (v := 0) hX dX8_isUnit_17 rfl rfl ?_
    exact g_zret hX hR dX8_isUnit_18 rfl ⟨by rw [bI_f (fun h9 => Int32.not_lt.mpr h9.1 c2)], rfl⟩
  · refine g_iload_n (n := 6) hX dX8_isUnit_5 rfl rfl rfl ?_
    refine g_aload_n (n := 7) hX dX8_isUnit_6 rfl rfl rfl ?_
    refine g_mget (n := 10) 2 (v := .int (σ.2 2)) hX hU dX8_isUnit_7 rfl uf_X8_94 rfl rfl rfl ?_
    refine g_icmp_gt (n := 13) (tgt := 17) hX dX8_isUnit_10 rfl (by decide) (fun c10 => ?_) (fun c10 => ?_)
    · refine g_iconst (n := 18) (v := 0) hX dX8_isUnit_17 rfl rfl ?_
      exact g_zret hX hR dX8_isUnit_18 rfl ⟨by rw [bI_f (fun h9 => Int32.not_lt.mpr h9.2 c10)], rfl⟩
    · refine g_iconst (n := 14) (v := 1) hX dX8_isUnit_13 rfl rfl ?_
      refine g_goto (n := 18) hX dX8_isUnit_14 (by decide) ?_
      exact g_zret hX hR dX8_isUnit_18 rfl ⟨by rw [bI_t ⟨Int32.not_lt.mp c2, Int32.not_lt.mp c10⟩], rfl⟩

set_option maxHeartbeats 4000000 in
set_option maxRecDepth 100000 in
theorem m_isIn (l : Launch) (D : va_G) (K : Nat → ClassId) (ws : va_W) (p lo hi : Int32) : Mc l yX8_isIn (wM yX8_isIn cX8_isIn 3 (some .boolean)) (rmL 0 0 0) D (yY K) [.int p, .int lo, .int hi] (ws) (fun v w => v = some (.int (bI (lo ≤ p ∧ p ≤ hi))) ∧ w = ws) 0 0 := by
  refine m_start (lv := [(0, .int p), (1, .int lo), (2, .int hi)]) rfl (Nat.le_of_ble_eq_true rfl) rfl (fun Γ hX hRm hnL hY hDD hLa hR hI hE => ?_)
  have hU : ∀ w ∈ wU, w ∈ wM yX8_isIn cX8_isIn 3 (some .boolean) := fun w h => wM_in h
  subst hLa
  subst hDD
  refine g_iload_n (n := 1) hX dX8_isIn_0 rfl rfl rfl ?_
  refine g_iload_n (n := 2) hX dX8_isIn_1 rfl rfl rfl ?_
  refine g_icmp_lt (n := 5) (tgt := 14) hX dX8_isIn_2 rfl (by decide) (fun c2 => ?_) (fun c2 => ?_)
  · refine g_iconst (n := 15) (v := 0) hX dX8_isIn_14 rfl rfl ?_
    exact g_zret hX hR dX8_isIn_15 rfl ⟨by rw [bI_f (fun h9 => Int32.not_lt.mpr h9.1 c2)], rfl⟩
  · refine g_iload_n (n := 6) hX dX8_isIn_5 rfl rfl rfl ?_
    refine g_iload_n (n := 7) hX dX8_isIn_6 rfl rfl rfl ?_
    refine g_icmp_gt (n := 10) (tgt := 14) hX dX8_isIn_7 rfl (by decide) (fun c7 => ?_) (fun c7 => ?_)
    · refine g_iconst (n := 15) (v := 0) hX dX8_isIn_14 rfl rfl ?_
      exact g_zret hX hR dX8_isIn_15 rfl ⟨by rw [bI_f (fun h9 => Int32.not_lt.mpr h9.2 c7)], rfl⟩
    · refine g_iconst (n := 11) (v := 1) hX dX8_isIn_10 rfl rfl ?_
      refine g_goto (n := 15) hX dX8_isIn_11 (by decide) ?_
      exact g_zret hX hR dX8_isIn_15 rfl ⟨by rw [bI_t ⟨Int32.not_lt.mp c2, Int32.not_lt.mp c7⟩], rfl⟩

set_option maxHeartbeats 4000000 in
set_option maxRecDepth 100000 in
theorem m_isWithin (l : Launch) (D : va_G) (K : Nat → ClassId) (ws : va_W) (p lo hi : Int32) : Mc l yX8_isWithin (wM yX8_isWithin cX8_isWithin 3 (some .boolean)) (rmL 0 0 0) D (yY K) [.int p, .int lo, .int hi] (ws) (fun v w => v = some (.int (bI (lo ≤ p ∧ p ≤ hi))) ∧ w = ws) 0 0 := by
  refine m_start (lv := [(0, .int p), (1, .int lo), (2, .int hi)]) rfl (Nat.le_of_ble_eq_true rfl) rfl (fun Γ hX hRm hnL hY hDD hLa hR hI hE => ?_)
  have hU : ∀ w ∈ wU, w ∈ wM yX8_isWithin cX8_isWithin 3 (some .boolean) := fun w h => wM_in h
  subst hLa
  subst hDD
  refine g_iload_n (n := 1) hX dX8_isWithin_0 rfl rfl rfl ?_
  refine g_iload_n (n := 2) hX dX8_isWithin_1 rfl rfl rfl ?_
  refine g_icmp_lt (n := 5) (tgt := 14) hX dX8_isWithin_2 rfl (by decide) (fun c2 => ?_) (fun c2 => ?_)
  · refine g_iconst (n := 15) (v := 0) hX dX8_isWithin_14 rfl rfl ?_
    exact g_zret hX hR dX8_isWithin_15 rfl ⟨by rw [bI_f (fun h9 => Int32.not_lt.mpr h9.1 c2)], rfl⟩
  · refine g_iload_n (n := 6) hX dX8_isWithin_5 rfl rfl rfl ?_
    refine g_iload_n (n := 7) hX dX8_isWithin_6 rfl rfl rfl ?_
    refine g_icmp_gt (n := 10) (tgt := 14) hX dX8_isWithin_7 rfl (by decide) (fun c7 => ?_) (fun c7 => ?_)
    · refine g_iconst (n := 15) (v := 0) hX dX8_isWithin_14 rfl rfl ?_
      exact g_zret hX hR dX8_isWithin_15 rfl ⟨by rw [bI_f (fun h9 => Int32.not_lt.mpr h9.2 c7)], rfl⟩
    · refine g_iconst (n := 11) (v := 1) hX dX8_isWithin_10 rfl rfl ?_
      refine g_goto (n := 15) hX dX8_isWithin_11 (by decide) ?_
      exact g_zret hX hR dX8_isWithin_15 rfl ⟨by rw [bI_t ⟨Int32.not_lt.mp c2, Int32.not_lt.mp c7⟩], rfl⟩

set_option maxHeartbeats 4000000 in
set_option maxRecDepth 100000 in
theorem m_u1 (l : Launch) (D : va_G) (K : Nat → ClassId) (am : Nat) (A : Nat → Nat) (σ : MS) (x : Int32) (hr : Lo σ 1) : Mc l yX8_u1 (wM yX8_u1 cX8_u1 2 none) (rmL 0 0 0) D (yY K) [.ref am, .int x] (mW K am A σ) (fun v w => v = none ∧ w = mW K am A (ap σ ([x]))) 0 0 := by
  refine m_start (lv := [(0, .ref am), (1, .int x)]) rfl (Nat.le_of_ble_eq_true rfl) rfl (fun Γ hX hRm hnL hY hDD hLa hR hI hE => ?_)
  have hU : ∀ w ∈ wU, w ∈ wM yX8_u1 cX8_u1 2 none := fun w h => wM_in h
  subst hLa
  subst hDD
  refine g_aload_n (n := 1) hX dX8_u1_0 rfl rfl rfl ?_
  refine g_mget (n := 4) 30 (v := .ref (A 24)) hX hU dX8_u1_1 rfl uf_X8_84 rfl rfl rfl ?_
  refine g_aload_n (n := 5) hX dX8_u1_4 rfl rfl rfl ?_
  refine g_mget (n := 8) 29 (v := .int (σ.2 29)) hX hU dX8_u1_5 rfl uf_X8_135 rfl rfl rfl ?_
  refine g_iload_n (n := 9) hX dX8_u1_8 rfl rfl rfl ?_
  refine g_sipush (n := 12) (v := 255) hX dX8_u1_9 rfl rfl ?_
  refine g_iand (n := 13) (v := x &&& 255) hX dX8_u1_12 rfl rfl ?_
  refine g_mist (n := 14) 24 (i0 := (σ.2 29).toNatClampNeg) hX hY dX8_u1_13 rfl rfl rfl (hr.in (by decide)) rfl ?_
  refine g_aload_n (n := 15) hX dX8_u1_14 rfl rfl rfl ?_
  refine g_dup (n := 16) hX dX8_u1_15 rfl rfl ?_
  refine g_mget (n := 19) 29 (v := .int ((sA σ 24 ((σ.2 29).toNatClampNeg) (x &&& 255)).2 29)) hX hU dX8_u1_16 rfl uf_X8_135 rfl rfl rfl ?_
  refine g_iconst (n := 20) (v := 1) hX dX8_u1_19 rfl rfl ?_
  refine g_iadd (n := 21) (v := ((sA σ 24 ((σ.2 29).toNatClampNeg) (x &&& 255)).2 29) + 1) hX dX8_u1_20 rfl rfl ?_
  refine g_mput (n := 24) 29 hX hU dX8_u1_21 rfl uf_X8_135 rfl rfl rfl rfl rfl ?_
  exact g_vret hX hR dX8_u1_24 ⟨rfl, rfl⟩

def b2 (x : Int32) : List Int32 := [x >>> (8 &&& 31), x]
def b4 (x : Int32) : List Int32 := b2 (x >>> (16 &&& 31)) ++ b2 x
set_option maxHeartbeats 4000000 in
set_option maxRecDepth 100000 in
theorem m_u2 (l : Launch) (D : va_G) (K : Nat → ClassId) (am : Nat) (A : Nat → Nat) (σ : MS) (x : Int32) (hr : Lo σ 2) : Mc l yX8_u2 (wM yX8_u2 cX8_u2 2 none) (rmL 1 0 0) D (yY K) [.ref am, .int x] (mW K am A σ) (fun v w => v = none ∧ w = mW K am A (ap σ (b2 x))) 0 0 := by
  refine m_start (lv := [(0, .ref am), (1, .int x)]) rfl (Nat.le_of_ble_eq_true rfl) rfl (fun Γ hX hRm hnL hY hDD hLa hR hI hE => ?_)
  have hU : ∀ w ∈ wU, w ∈ wM yX8_u2 cX8_u2 2 none := fun w h => wM_in h
  subst hLa
  subst hDD
  refine g_aload_n (n := 1) hX dX8_u2_0 rfl rfl rfl ?_
  refine g_iload_n (n := 2) hX dX8_u2_1 rfl rfl rfl ?_
  refine g_bipush (n := 4) (v := 8) hX dX8_u2_2 rfl rfl ?_
  refine g_ishr (n := 5) (v := x >>> (8 &&& 31)) hX dX8_u2_4 rfl rfl ?_
  refine g_callV0 (n := 8) (As := [.int (x >>> (8 &&& 31))]) (rest := []) hX hE hU hY dX8_u2_5 rfl yv_X8_u1 um_X8_138 (m_u1 _ _ K am A σ (x >>> (8 &&& 31)) (hr.le (by decide))) ⟨rfl, rfl⟩ (rm_le hRm rfl rfl) rfl (ci := 10) (q0 := 0) rfl rfl rfl rfl (Nat.le_of_ble_eq_true rfl) ⟨Nat.zero_le _, Nat.zero_le _⟩ (fun v0 w0 hq0 => ?_)
  obtain ⟨rfl, rfl⟩ := hq0
  show G Γ (mW K am A (ap σ ([x >>> (8 &&& 31)]))) 0 0 8 [(0, .ref am), (1, .int x)] []
  have hr : Lo (ap σ ([x >>> (8 &&& 31)])) 1 := hr.app (Nat.le_of_ble_eq_true rfl)
  refine g_aload_n (n := 9) hX dX8_u2_8 rfl rfl rfl ?_
  refine g_iload_n (n := 10) hX dX8_u2_9 rfl rfl rfl ?_
  refine g_callV0 (n := 13) (As := [.int x]) (rest := []) hX hE hU hY dX8_u2_10 rfl yv_X8_u1 um_X8_138 (m_u1 _ _ K am A (ap σ ([x >>> (8 &&& 31)])) x (hr.le (by decide))) ⟨rfl, rfl⟩ (rm_le hRm rfl rfl) rfl (ci := 10) (q0 := 0) rfl rfl rfl rfl (Nat.le_of_ble_eq_true rfl) ⟨Nat.zero_le _, Nat.zero_le _⟩ (fun v0 w0 hq0 => ?_)
  obtain ⟨rfl, rfl⟩ := hq0
  show G Γ (mW K am A (ap (ap σ ([x >>> (8 &&& 31)])) ([x]))) 0 0 13 [(0, .ref am), (1, .int x)] []
  have hr : Lo (ap (ap σ ([x >>> (8 &&& 31)])) ([x])) 0 := hr.app (Nat.le_of_ble_eq_true rfl)
  exact g_vret hX hR dX8_u2_13 ⟨rfl, by simp only [ap_ap]; rfl⟩

set_option maxHeartbeats 4000000 in
set_option maxRecDepth 100000 in
theorem m_u4 (l : Launch) (D : va_G) (K : Nat → ClassId) (am : Nat) (A : Nat → Nat) (σ : MS) (x : Int32) (hr : Lo σ 4) : Mc l yX8_u4 (wM yX8_u4 cX8_u4 2 none) (rmL 2 0 0) D (yY K) [.ref am, .int x] (mW K am A σ) (fun v w => v = none ∧ w = mW K am A (ap σ (b4 x))) 0 0 := by
  refine m_start (lv := [(0, .ref am), (1, .int x)]) rfl (Nat.le_of_ble_eq_true rfl) rfl (fun Γ hX hRm hnL hY hDD hLa hR hI hE => ?_)
  have hU : ∀ w ∈ wU, w ∈ wM yX8_u4 cX8_u4 2 none := fun w h => wM_in h
  subst hLa
  subst hDD
  refine g_aload_n (n := 1) hX dX8_u4_0 rfl rfl rfl ?_
  refine g_iload_n (n := 2) hX dX8_u4_1 rfl rfl rfl ?_
  refine g_bipush (n := 4) (v := 16) hX dX8_u4_2 rfl rfl ?_
  refine g_ishr (n := 5) (v := x >>> (16 &&& 31)) hX dX8_u4_4 rfl rfl ?_
  refine g_callV0 (n := 8) (As := [.int (x >>> (16 &&& 31))]) (rest := []) hX hE hU hY dX8_u4_5 rfl yv_X8_u2 um_X8_142 (m_u2 _ _ K am A σ (x >>> (16 &&& 31)) (hr.le (by decide))) ⟨rfl, rfl⟩ (rm_le hRm rfl rfl) rfl (ci := 10) (q0 := 0) rfl rfl rfl rfl (Nat.le_of_ble_eq_true rfl) ⟨Nat.zero_le _, Nat.zero_le _⟩ (fun v0 w0 hq0 => ?_)
  obtain ⟨rfl, rfl⟩ := hq0
  show G Γ (mW K am A (ap σ (b2 (x >>> (16 &&& 31))))) 0 0 8 [(0, .ref am), (1, .int x)] []
  have hr : Lo (ap σ (b2 (x >>> (16 &&& 31)))) 2 := hr.app (Nat.le_of_ble_eq_true rfl)
  refine g_aload_n (n := 9) hX dX8_u4_8 rfl rfl rfl ?_
  refine g_iload_n (n := 10) hX dX8_u4_9 rfl rfl rfl ?_
  refine g_callV0 (n := 13) (As := [.int x]) (rest := []) hX hE hU hY dX8_u4_10 rfl yv_X8_u2 um_X8_142 (m_u2 _ _ K am A (ap σ (b2 (x >>> (16 &&& 31)))) x (hr.le (by decide))) ⟨rfl, rfl⟩ (rm_le hRm rfl rfl) rfl (ci := 10) (q0 := 0) rfl rfl rfl rfl (Nat.le_of_ble_eq_true rfl) ⟨Nat.zero_le _, Nat.zero_le _⟩ (fun v0 w0 hq0 => ?_)
  obtain ⟨rfl, rfl⟩ := hq0
  show G Γ (mW K am A (ap (ap σ (b2 (x >>> (16 &&& 31)))) (b2 x))) 0 0 13 [(0, .ref am), (1, .int x)] []
  have hr : Lo (ap (ap σ (b2 (x >>> (16 &&& 31)))) (b2 x)) 0 := hr.app (Nat.le_of_ble_eq_true rfl)
  exact g_vret hX hR dX8_u4_13 ⟨rfl, by simp only [ap_ap]; rfl⟩

def bPair (t a b : Int32) : List Int32 := [t] ++ b2 a ++ b2 b
def bClassed (a : Int32) : List Int32 := [7] ++ b2 a
def bWords : List Int32 := [178] ++ b2 8
def bPush (x : Int32) : List Int32 := [16, x]
def bLoad (x : Int32) : List Int32 := bWords ++ bPush x ++ [51]
def bMethod (a b c d n : Int32) : List Int32 := b2 8 ++ b2 a ++ b2 b ++ b2 1 ++ b2 24 ++ b4 (12 + n) ++ b2 c ++ b2 d ++ b4 n
set_option maxHeartbeats 4000000 in
set_option maxRecDepth 100000 in
theorem m_pair (l : Launch) (D : va_G) (K : Nat → ClassId) (am : Nat) (A : Nat → Nat) (σ : MS) (t a b : Int32) (hr : Lo σ 5) : Mc l yX8_pair (wM yX8_pair cX8_pair 4 none) (rmL 2 0 0) D (yY K) [.ref am, .int t, .int a, .int b] (mW K am A σ) (fun v w => v = none ∧ w = mW K am A (ap σ (bPair t a b))) 0 0 := by
  refine m_start (lv := [(0, .ref am), (1, .int t), (2, .int a), (3, .int b)]) rfl (Nat.le_of_ble_eq_true rfl) rfl (fun Γ hX hRm hnL hY hDD hLa hR hI hE => ?_)
  have hU : ∀ w ∈ wU, w ∈ wM yX8_pair cX8_pair 4 none := fun w h => wM_in h
  subst hLa
  subst hDD
  refine g_aload_n (n := 1) hX dX8_pair_0 rfl rfl rfl ?_
  refine g_iload_n (n := 2) hX dX8_pair_1 rfl rfl rfl ?_
  refine g_callV0 (n := 5) (As := [.int t]) (rest := []) hX hE hU hY dX8_pair_2 rfl yv_X8_u1 um_X8_138 (m_u1 _ _ K am A σ t (hr.le (by decide))) ⟨rfl, rfl⟩ (rm_le hRm rfl rfl) rfl (ci := 10) (q0 := 0) rfl rfl rfl rfl (Nat.le_of_ble_eq_true rfl) ⟨Nat.zero_le _, Nat.zero_le _⟩ (fun v0 w0 hq0 => ?_)
  obtain ⟨rfl, rfl⟩ := hq0
  show G Γ (mW K am A (ap σ ([t]))) 0 0 5 [(0, .ref am), (1, .int t), (2, .int a), (3, .int b)] []
  have hr : Lo (ap σ ([t])) 4 := hr.app (Nat.le_of_ble_eq_true rfl)
  refine g_aload_n (n := 6) hX dX8_pair_5 rfl rfl rfl ?_
  refine g_iload_n (n := 7) hX dX8_pair_6 rfl rfl rfl ?_
  refine g_callV0 (n := 10) (As := [.int a]) (rest := []) hX hE hU hY dX8_pair_7 rfl yv_X8_u2 um_X8_142 (m_u2 _ _ K am A (ap σ ([t])) a (hr.le (by decide))) ⟨rfl, rfl⟩ (rm_le hRm rfl rfl) rfl (ci := 10) (q0 := 0) rfl rfl rfl rfl (Nat.le_of_ble_eq_true rfl) ⟨Nat.zero_le _, Nat.zero_le _⟩ (fun v0 w0 hq0 => ?_)
  obtain ⟨rfl, rfl⟩ := hq0
  show G Γ (mW K am A (ap (ap σ ([t])) (b2 a))) 0 0 10 [(0, .ref am), (1, .int t), (2, .int a), (3, .int b)] []
  have hr : Lo (ap (ap σ ([t])) (b2 a)) 2 := hr.app (Nat.le_of_ble_eq_true rfl)
  refine g_aload_n (n := 11) hX dX8_pair_10 rfl rfl rfl ?_
  refine g_iload_n (n := 12) hX dX8_pair_11 rfl rfl rfl ?_
  refine g_callV0 (n := 15) (As := [.int b]) (rest := []) hX hE hU hY dX8_pair_12 rfl yv_X8_u2 um_X8_142 (m_u2 _ _ K am A (ap (ap σ ([t])) (b2 a)) b (hr.le (by decide))) ⟨rfl, rfl⟩ (rm_le hRm rfl rfl) rfl (ci := 10) (q0 := 0) rfl rfl rfl rfl (Nat.le_of_ble_eq_true rfl) ⟨Nat.zero_le _, Nat.zero_le _⟩ (fun v0 w0 hq0 => ?_)
  obtain ⟨rfl, rfl⟩ := hq0
  show G Γ (mW K am A (ap (ap (ap σ ([t])) (b2 a)) (b2 b))) 0 0 15 [(0, .ref am), (1, .int t), (2, .int a), (3, .int b)] []
  have hr : Lo (ap (ap (ap σ ([t])) (b2 a)) (b2 b)) 0 := hr.app (Nat.le_of_ble_eq_true rfl)
  exact g_vret hX hR dX8_pair_15 ⟨rfl, by simp only [ap_ap]; rfl⟩

set_option maxHeartbeats 4000000 in
set_option maxRecDepth 100000 in
theorem m_classed (l : Launch) (D : va_G) (K : Nat → ClassId) (am : Nat) (A : Nat → Nat) (σ : MS) (a : Int32) (hr : Lo σ 3) : Mc l yX8_classed (wM yX8_classed cX8_classed 2 none) (rmL 2 0 0) D (yY K) [.ref am, .int a] (mW K am A σ) (fun v w => v = none ∧ w = mW K am A (ap σ (bClassed a))) 0 0 := by
  refine m_start (lv := [(0, .ref am), (1, .int a)]) rfl (Nat.le_of_ble_eq_true rfl) rfl (fun Γ hX hRm hnL hY hDD hLa hR hI hE => ?_)
  have hU : ∀ w ∈ wU, w ∈ wM yX8_classed cX8_classed 2 none := fun w h => wM_in h
  subst hLa
  subst hDD
  refine g_aload_n (n := 1) hX dX8_classed_0 rfl rfl rfl ?_
  refine g_bipush (n := 3) (v := 7) hX dX8_classed_1 rfl rfl ?_
  refine g_callV0 (n := 6) (As := [.int 7]) (rest := []) hX hE hU hY dX8_classed_3 rfl yv_X8_u1 um_X8_138 (m_u1 _ _ K am A σ 7 (hr.le (by decide))) ⟨rfl, rfl⟩ (rm_le hRm rfl rfl) rfl (ci := 10) (q0 := 0) rfl rfl rfl rfl (Nat.le_of_ble_eq_true rfl) ⟨Nat.zero_le _, Nat.zero_le _⟩ (fun v0 w0 hq0 => ?_)
  obtain ⟨rfl, rfl⟩ := hq0
  show G Γ (mW K am A (ap σ ([7]))) 0 0 6 [(0, .ref am), (1, .int a)] []
  have hr : Lo (ap σ ([7])) 2 := hr.app (Nat.le_of_ble_eq_true rfl)
  refine g_aload_n (n := 7) hX dX8_classed_6 rfl rfl rfl ?_
  refine g_iload_n (n := 8) hX dX8_classed_7 rfl rfl rfl ?_
  refine g_callV0 (n := 11) (As := [.int a]) (rest := []) hX hE hU hY dX8_classed_8 rfl yv_X8_u2 um_X8_142 (m_u2 _ _ K am A (ap σ ([7])) a (hr.le (by decide))) ⟨rfl, rfl⟩ (rm_le hRm rfl rfl) rfl (ci := 10) (q0 := 0) rfl rfl rfl rfl (Nat.le_of_ble_eq_true rfl) ⟨Nat.zero_le _, Nat.zero_le _⟩ (fun v0 w0 hq0 => ?_)
  obtain ⟨rfl, rfl⟩ := hq0
  show G Γ (mW K am A (ap (ap σ ([7])) (b2 a))) 0 0 11 [(0, .ref am), (1, .int a)] []
  have hr : Lo (ap (ap σ ([7])) (b2 a)) 0 := hr.app (Nat.le_of_ble_eq_true rfl)
  exact g_vret hX hR dX8_classed_11 ⟨rfl, by simp only [ap_ap]; rfl⟩

set_option maxHeartbeats 4000000 in
set_option maxRecDepth 100000 in
theorem m_words (l : Launch) (D : va_G) (K : Nat → ClassId) (am : Nat) (A : Nat → Nat) (σ : MS)  (hr : Lo σ 3) : Mc l yX8_words (wM yX8_words cX8_words 1 none) (rmL 2 0 0) D (yY K) [.ref am] (mW K am A σ) (fun v w => v = none ∧ w = mW K am A (ap σ bWords)) 0 0 := by
  refine m_start (lv := [(0, .ref am)]) rfl (Nat.le_of_ble_eq_true rfl) rfl (fun Γ hX hRm hnL hY hDD hLa hR hI hE => ?_)
  have hU : ∀ w ∈ wU, w ∈ wM yX8_words cX8_words 1 none := fun w h => wM_in h
  subst hLa
  subst hDD
  refine g_aload_n (n := 1) hX dX8_words_0 rfl rfl rfl ?_
  refine g_sipush (n := 4) (v := 178) hX dX8_words_1 rfl rfl ?_
  refine g_callV0 (n := 7) (As := [.int 178]) (rest := []) hX hE hU hY dX8_words_4 rfl yv_X8_u1 um_X8_138 (m_u1 _ _ K am A σ 178 (hr.le (by decide))) ⟨rfl, rfl⟩ (rm_le hRm rfl rfl) rfl (ci := 10) (q0 := 0) rfl rfl rfl rfl (Nat.le_of_ble_eq_true rfl) ⟨Nat.zero_le _, Nat.zero_le _⟩ (fun v0 w0 hq0 => ?_)
  obtain ⟨rfl, rfl⟩ := hq0
  show G Γ (mW K am A (ap σ ([178]))) 0 0 7 [(0, .ref am)] []
  have hr : Lo (ap σ ([178])) 2 := hr.app (Nat.le_of_ble_eq_true rfl)
  refine g_aload_n (n := 8) hX dX8_words_7 rfl rfl rfl ?_
  refine g_bipush (n := 10) (v := 8) hX dX8_words_8 rfl rfl ?_
  refine g_callV0 (n := 13) (As := [.int 8]) (rest := []) hX hE hU hY dX8_words_10 rfl yv_X8_u2 um_X8_142 (m_u2 _ _ K am A (ap σ ([178])) 8 (hr.le (by decide))) ⟨rfl, rfl⟩ (rm_le hRm rfl rfl) rfl (ci := 10) (q0 := 0) rfl rfl rfl rfl (Nat.le_of_ble_eq_true rfl) ⟨Nat.zero_le _, Nat.zero_le _⟩ (fun v0 w0 hq0 => ?_)
  obtain ⟨rfl, rfl⟩ := hq0
  show G Γ (mW K am A (ap (ap σ ([178])) (b2 8))) 0 0 13 [(0, .ref am)] []
  have hr : Lo (ap (ap σ ([178])) (b2 8)) 0 := hr.app (Nat.le_of_ble_eq_true rfl)
  exact g_vret hX hR dX8_words_13 ⟨rfl, by simp only [ap_ap]; rfl⟩

set_option maxHeartbeats 4000000 in
set_option maxRecDepth 100000 in
theorem m_push (l : Launch) (D : va_G) (K : Nat → ClassId) (am : Nat) (A : Nat → Nat) (σ : MS) (x : Int32) (hr : Lo σ 2) : Mc l yX8_push (wM yX8_push cX8_push 2 none) (rmL 1 0 0) D (yY K) [.ref am, .int x] (mW K am A σ) (fun v w => v = none ∧ w = mW K am A (ap σ (bPush x))) 0 0 := by
  refine m_start (lv := [(0, .ref am), (1, .int x)]) rfl (Nat.le_of_ble_eq_true rfl) rfl (fun Γ hX hRm hnL hY hDD hLa hR hI hE => ?_)
  have hU : ∀ w ∈ wU, w ∈ wM yX8_push cX8_push 2 none := fun w h => wM_in h
  subst hLa
  subst hDD
  refine g_aload_n (n := 1) hX dX8_push_0 rfl rfl rfl ?_
  refine g_bipush (n := 3) (v := 16) hX dX8_push_1 rfl rfl ?_
  refine g_callV0 (n := 6) (As := [.int 16]) (rest := []) hX hE hU hY dX8_push_3 rfl yv_X8_u1 um_X8_138 (m_u1 _ _ K am A σ 16 (hr.le (by decide))) ⟨rfl, rfl⟩ (rm_le hRm rfl rfl) rfl (ci := 10) (q0 := 0) rfl rfl rfl rfl (Nat.le_of_ble_eq_true rfl) ⟨Nat.zero_le _, Nat.zero_le _⟩ (fun v0 w0 hq0 => ?_)
  obtain ⟨rfl, rfl⟩ := hq0
  show G Γ (mW K am A (ap σ ([16]))) 0 0 6 [(0, .ref am), (1, .int x)] []
  have hr : Lo (ap σ ([16])) 1 := hr.app (Nat.le_of_ble_eq_true rfl)
  refine g_aload_n (n := 7) hX dX8_push_6 rfl rfl rfl ?_
  refine g_iload_n (n := 8) hX dX8_push_7 rfl rfl rfl ?_
  refine g_callV0 (n := 11) (As := [.int x]) (rest := []) hX hE hU hY dX8_push_8 rfl yv_X8_u1 um_X8_138 (m_u1 _ _ K am A (ap σ ([16])) x (hr.le (by decide))) ⟨rfl, rfl⟩ (rm_le hRm rfl rfl) rfl (ci := 10) (q0 := 0) rfl rfl rfl rfl (Nat.le_of_ble_eq_true rfl) ⟨Nat.zero_le _, Nat.zero_le _⟩ (fun v0 w0 hq0 => ?_)
  obtain ⟨rfl, rfl⟩ := hq0
  show G Γ (mW K am A (ap (ap σ ([16])) ([x]))) 0 0 11 [(0, .ref am), (1, .int x)] []
  have hr : Lo (ap (ap σ ([16])) ([x])) 0 := hr.app (Nat.le_of_ble_eq_true rfl)
  exact g_vret hX hR dX8_push_11 ⟨rfl, by simp only [ap_ap]; rfl⟩

set_option maxHeartbeats 4000000 in
set_option maxRecDepth 100000 in
theorem m_load (l : Launch) (D : va_G) (K : Nat → ClassId) (am : Nat) (A : Nat → Nat) (σ : MS) (x : Int32) (hr : Lo σ 6) : Mc l yX8_load (wM yX8_load cX8_load 2 none) (rmL 3 0 0) D (yY K) [.ref am, .int x] (mW K am A σ) (fun v w => v = none ∧ w = mW K am A (ap σ (bLoad x))) 0 0 := by
  refine m_start (lv := [(0, .ref am), (1, .int x)]) rfl (Nat.le_of_ble_eq_true rfl) rfl (fun Γ hX hRm hnL hY hDD hLa hR hI hE => ?_)
  have hU : ∀ w ∈ wU, w ∈ wM yX8_load cX8_load 2 none := fun w h => wM_in h
  subst hLa
  subst hDD
  refine g_aload_n (n := 1) hX dX8_load_0 rfl rfl rfl ?_
  refine g_callV0 (n := 4) (As := []) (rest := []) hX hE hU hY dX8_load_1 rfl yv_X8_words um_X8_207 (m_words _ _ K am A σ  (hr.le (by decide))) ⟨rfl, rfl⟩ (rm_le hRm rfl rfl) rfl (ci := 10) (q0 := 0) rfl rfl rfl rfl (Nat.le_of_ble_eq_true rfl) ⟨Nat.zero_le _, Nat.zero_le _⟩ (fun v0 w0 hq0 => ?_)
  obtain ⟨rfl, rfl⟩ := hq0
  show G Γ (mW K am A (ap σ bWords)) 0 0 4 [(0, .ref am), (1, .int x)] []
  have hr : Lo (ap σ bWords) 3 := hr.app (Nat.le_of_ble_eq_true rfl)
  refine g_aload_n (n := 5) hX dX8_load_4 rfl rfl rfl ?_
  refine g_iload_n (n := 6) hX dX8_load_5 rfl rfl rfl ?_
  refine g_callV0 (n := 9) (As := [.int x]) (rest := []) hX hE hU hY dX8_load_6 rfl yv_X8_push um_X8_210 (m_push _ _ K am A (ap σ bWords) x (hr.le (by decide))) ⟨rfl, rfl⟩ (rm_le hRm rfl rfl) rfl (ci := 10) (q0 := 0) rfl rfl rfl rfl (Nat.le_of_ble_eq_true rfl) ⟨Nat.zero_le _, Nat.zero_le _⟩ (fun v0 w0 hq0 => ?_)
  obtain ⟨rfl, rfl⟩ := hq0
  show G Γ (mW K am A (ap (ap σ bWords) (bPush x))) 0 0 9 [(0, .ref am), (1, .int x)] []
  have hr : Lo (ap (ap σ bWords) (bPush x)) 1 := hr.app (Nat.le_of_ble_eq_true rfl)
  refine g_aload_n (n := 10) hX dX8_load_9 rfl rfl rfl ?_
  refine g_bipush (n := 12) (v := 51) hX dX8_load_10 rfl rfl ?_
  refine g_callV0 (n := 15) (As := [.int 51]) (rest := []) hX hE hU hY dX8_load_12 rfl yv_X8_u1 um_X8_138 (m_u1 _ _ K am A (ap (ap σ bWords) (bPush x)) 51 (hr.le (by decide))) ⟨rfl, rfl⟩ (rm_le hRm rfl rfl) rfl (ci := 10) (q0 := 0) rfl rfl rfl rfl (Nat.le_of_ble_eq_true rfl) ⟨Nat.zero_le _, Nat.zero_le _⟩ (fun v0 w0 hq0 => ?_)
  obtain ⟨rfl, rfl⟩ := hq0
  show G Γ (mW K am A (ap (ap (ap σ bWords) (bPush x)) ([51]))) 0 0 15 [(0, .ref am), (1, .int x)] []
  have hr : Lo (ap (ap (ap σ bWords) (bPush x)) ([51])) 0 := hr.app (Nat.le_of_ble_eq_true rfl)
  exact g_vret hX hR dX8_load_15 ⟨rfl, by simp only [ap_ap]; rfl⟩

set_option maxHeartbeats 4000000 in
set_option maxRecDepth 100000 in
theorem m_method (l : Launch) (D : va_G) (K : Nat → ClassId) (am : Nat) (A : Nat → Nat) (σ : MS) (a b c d x : Int32) (hr : Lo σ 22) : Mc l yX8_method (wM yX8_method cX8_method 6 none) (rmL 3 0 0) D (yY K) [.ref am, .int a, .int b, .int c, .int d, .int x] (mW K am A σ) (fun v w => v = none ∧ w = mW K am A (ap σ (bMethod a b c d x))) 0 0 := by
  refine m_start (lv := [(0, .ref am), (1, .int a), (2, .int b), (3, .int c), (4, .int d), (5, .int x)]) rfl (Nat.le_of_ble_eq_true rfl) rfl (fun Γ hX hRm hnL hY hDD hLa hR hI hE => ?_)
  have hU : ∀ w ∈ wU, w ∈ wM yX8_method cX8_method 6 none := fun w h => wM_in h
  subst hLa
  subst hDD
  refine g_aload_n (n := 1) hX dX8_method_0 rfl rfl rfl ?_
  refine g_bipush (n := 3) (v := 8) hX dX8_method_1 rfl rfl ?_
  refine g_callV0 (n := 6) (As := [.int 8]) (rest := []) hX hE hU hY dX8_method_3 rfl yv_X8_u2 um_X8_142 (m_u2 _ _ K am A σ 8 (hr.le (by decide))) ⟨rfl, rfl⟩ (rm_le hRm rfl rfl) rfl (ci := 10) (q0 := 0) rfl rfl rfl rfl (Nat.le_of_ble_eq_true rfl) ⟨Nat.zero_le _, Nat.zero_le _⟩ (fun v0 w0 hq0 => ?_)
  obtain ⟨rfl, rfl⟩ := hq0
  show G Γ (mW K am A (ap σ (b2 8))) 0 0 6 [(0, .ref am), (1, .int a), (2, .int b), (3, .int c), (4, .int d), (5, .int x)] []
  have hr : Lo (ap σ (b2 8)) 20 := hr.app (Nat.le_of_ble_eq_true rfl)
  refine g_aload_n (n := 7) hX dX8_method_6 rfl rfl rfl ?_
  refine g_iload_n (n := 8) hX dX8_method_7 rfl rfl rfl ?_
  refine g_callV0 (n := 11) (As := [.int a]) (rest := []) hX hE hU hY dX8_method_8 rfl yv_X8_u2 um_X8_142 (m_u2 _ _ K am A (ap σ (b2 8)) a (hr.le (by decide))) ⟨rfl, rfl⟩ (rm_le hRm rfl rfl) rfl (ci := 10) (q0 := 0) rfl rfl rfl rfl (Nat.le_of_ble_eq_true rfl) ⟨Nat.zero_le _, Nat.zero_le _⟩ (fun v0 w0 hq0 => ?_)
  obtain ⟨rfl, rfl⟩ := hq0
  show G Γ (mW K am A (ap (ap σ (b2 8)) (b2 a))) 0 0 11 [(0, .ref am), (1, .int a), (2, .int b), (3, .int c), (4, .int d), (5, .int x)] []
  have hr : Lo (ap (ap σ (b2 8)) (b2 a)) 18 := hr.app (Nat.le_of_ble_eq_true rfl)
  refine g_aload_n (n := 12) hX dX8_method_11 rfl rfl rfl ?_
  refine g_iload_n (n := 13) hX dX8_method_12 rfl rfl rfl ?_
  refine g_callV0 (n := 16) (As := [.int b]) (rest := []) hX hE hU hY dX8_method_13 rfl yv_X8_u2 um_X8_142 (m_u2 _ _ K am A (ap (ap σ (b2 8)) (b2 a)) b (hr.le (by decide))) ⟨rfl, rfl⟩ (rm_le hRm rfl rfl) rfl (ci := 10) (q0 := 0) rfl rfl rfl rfl (Nat.le_of_ble_eq_true rfl) ⟨Nat.zero_le _, Nat.zero_le _⟩ (fun v0 w0 hq0 => ?_)
  obtain ⟨rfl, rfl⟩ := hq0
  show G Γ (mW K am A (ap (ap (ap σ (b2 8)) (b2 a)) (b2 b))) 0 0 16 [(0, .ref am), (1, .int a), (2, .int b), (3, .int c), (4, .int d), (5, .int x)] []
  have hr : Lo (ap (ap (ap σ (b2 8)) (b2 a)) (b2 b)) 16 := hr.app (Nat.le_of_ble_eq_true rfl)
  refine g_aload_n (n := 17) hX dX8_method_16 rfl rfl rfl ?_
  refine g_iconst (n := 18) (v := 1) hX dX8_method_17 rfl rfl ?_
  refine g_callV0 (n := 21) (As := [.int 1]) (rest := []) hX hE hU hY dX8_method_18 rfl yv_X8_u2 um_X8_142 (m_u2 _ _ K am A (ap (ap (ap σ (b2 8)) (b2 a)) (b2 b)) 1 (hr.le (by decide))) ⟨rfl, rfl⟩ (rm_le hRm rfl rfl) rfl (ci := 10) (q0 := 0) rfl rfl rfl rfl (Nat.le_of_ble_eq_true rfl) ⟨Nat.zero_le _, Nat.zero_le _⟩ (fun v0 w0 hq0 => ?_)
  obtain ⟨rfl, rfl⟩ := hq0
  show G Γ (mW K am A (ap (ap (ap (ap σ (b2 8)) (b2 a)) (b2 b)) (b2 1))) 0 0 21 [(0, .ref am), (1, .int a), (2, .int b), (3, .int c), (4, .int d), (5, .int x)] []
  have hr : Lo (ap (ap (ap (ap σ (b2 8)) (b2 a)) (b2 b)) (b2 1)) 14 := hr.app (Nat.le_of_ble_eq_true rfl)
  refine g_aload_n (n := 22) hX dX8_method_21 rfl rfl rfl ?_
  refine g_bipush (n := 24) (v := 24) hX dX8_method_22 rfl rfl ?_
  refine g_callV0 (n := 27) (As := [.int 24]) (rest := []) hX hE hU hY dX8_method_24 rfl yv_X8_u2 um_X8_142 (m_u2 _ _ K am A (ap (ap (ap (ap σ (b2 8)) (b2 a)) (b2 b)) (b2 1)) 24 (hr.le (by decide))) ⟨rfl, rfl⟩ (rm_le hRm rfl rfl) rfl (ci := 10) (q0 := 0) rfl rfl rfl rfl (Nat.le_of_ble_eq_true rfl) ⟨Nat.zero_le _, Nat.zero_le _⟩ (fun v0 w0 hq0 => ?_)
  obtain ⟨rfl, rfl⟩ := hq0
  show G Γ (mW K am A (ap (ap (ap (ap (ap σ (b2 8)) (b2 a)) (b2 b)) (b2 1)) (b2 24))) 0 0 27 [(0, .ref am), (1, .int a), (2, .int b), (3, .int c), (4, .int d), (5, .int x)] []
  have hr : Lo (ap (ap (ap (ap (ap σ (b2 8)) (b2 a)) (b2 b)) (b2 1)) (b2 24)) 12 := hr.app (Nat.le_of_ble_eq_true rfl)
  refine g_aload_n (n := 28) hX dX8_method_27 rfl rfl rfl ?_
  refine g_bipush (n := 30) (v := 12) hX dX8_method_28 rfl rfl ?_
  refine g_iload (n := 32) hX dX8_method_30 rfl rfl ?_
  refine g_iadd (n := 33) (v := 12 + x) hX dX8_method_32 rfl rfl ?_
  refine g_callV0 (n := 36) (As := [.int (12 + x)]) (rest := []) hX hE hU hY dX8_method_33 rfl yv_X8_u4 um_X8_194 (m_u4 _ _ K am A (ap (ap (ap (ap (ap σ (b2 8)) (b2 a)) (b2 b)) (b2 1)) (b2 24)) (12 + x) (hr.le (by decide))) ⟨rfl, rfl⟩ (rm_le hRm rfl rfl) rfl (ci := 10) (q0 := 0) rfl rfl rfl rfl (Nat.le_of_ble_eq_true rfl) ⟨Nat.zero_le _, Nat.zero_le _⟩ (fun v0 w0 hq0 => ?_)
  obtain ⟨rfl, rfl⟩ := hq0
  show G Γ (mW K am A (ap (ap (ap (ap (ap (ap σ (b2 8)) (b2 a)) (b2 b)) (b2 1)) (b2 24)) (b4 (12 + x)))) 0 0 36 [(0, .ref am), (1, .int a), (2, .int b), (3, .int c), (4, .int d), (5, .int x)] []
  have hr : Lo (ap (ap (ap (ap (ap (ap σ (b2 8)) (b2 a)) (b2 b)) (b2 1)) (b2 24)) (b4 (12 + x))) 8 := hr.app (Nat.le_of_ble_eq_true rfl)
  refine g_aload_n (n := 37) hX dX8_method_36 rfl rfl rfl ?_
  refine g_iload_n (n := 38) hX dX8_method_37 rfl rfl rfl ?_
  refine g_callV0 (n := 41) (As := [.int c]) (rest := []) hX hE hU hY dX8_method_38 rfl yv_X8_u2 um_X8_142 (m_u2 _ _ K am A (ap (ap (ap (ap (ap (ap σ (b2 8)) (b2 a)) (b2 b)) (b2 1)) (b2 24)) (b4 (12 + x))) c (hr.le (by decide))) ⟨rfl, rfl⟩ (rm_le hRm rfl rfl) rfl (ci := 10) (q0 := 0) rfl rfl rfl rfl (Nat.le_of_ble_eq_true rfl) ⟨Nat.zero_le _, Nat.zero_le _⟩ (fun v0 w0 hq0 => ?_)
  obtain ⟨rfl, rfl⟩ := hq0
  show G Γ (mW K am A (ap (ap (ap (ap (ap (ap (ap σ (b2 8)) (b2 a)) (b2 b)) (b2 1)) (b2 24)) (b4 (12 + x))) (b2 c))) 0 0 41 [(0, .ref am), (1, .int a), (2, .int b), (3, .int c), (4, .int d), (5, .int x)] []
  have hr : Lo (ap (ap (ap (ap (ap (ap (ap σ (b2 8)) (b2 a)) (b2 b)) (b2 1)) (b2 24)) (b4 (12 + x))) (b2 c)) 6 := hr.app (Nat.le_of_ble_eq_true rfl)
  refine g_aload_n (n := 42) hX dX8_method_41 rfl rfl rfl ?_
  refine g_iload (n := 44) hX dX8_method_42 rfl rfl ?_
  refine g_callV0 (n := 47) (As := [.int d]) (rest := []) hX hE hU hY dX8_method_44 rfl yv_X8_u2 um_X8_142 (m_u2 _ _ K am A (ap (ap (ap (ap (ap (ap (ap σ (b2 8)) (b2 a)) (b2 b)) (b2 1)) (b2 24)) (b4 (12 + x))) (b2 c)) d (hr.le (by decide))) ⟨rfl, rfl⟩ (rm_le hRm rfl rfl) rfl (ci := 10) (q0 := 0) rfl rfl rfl rfl (Nat.le_of_ble_eq_true rfl) ⟨Nat.zero_le _, Nat.zero_le _⟩ (fun v0 w0 hq0 => ?_)
  obtain ⟨rfl, rfl⟩ := hq0
  show G Γ (mW K am A (ap (ap (ap (ap (ap (ap (ap (ap σ (b2 8)) (b2 a)) (b2 b)) (b2 1)) (b2 24)) (b4 (12 + x))) (b2 c)) (b2 d))) 0 0 47 [(0, .ref am), (1, .int a), (2, .int b), (3, .int c), (4, .int d), (5, .int x)] []
  have hr : Lo (ap (ap (ap (ap (ap (ap (ap (ap σ (b2 8)) (b2 a)) (b2 b)) (b2 1)) (b2 24)) (b4 (12 + x))) (b2 c)) (b2 d)) 4 := hr.app (Nat.le_of_ble_eq_true rfl)
  refine g_aload_n (n := 48) hX dX8_method_47 rfl rfl rfl ?_
  refine g_iload (n := 50) hX dX8_method_48 rfl rfl ?_
  refine g_callV0 (n := 53) (As := [.int x]) (rest := []) hX hE hU hY dX8_method_50 rfl yv_X8_u4 um_X8_194 (m_u4 _ _ K am A (ap (ap (ap (ap (ap (ap (ap (ap σ (b2 8)) (b2 a)) (b2 b)) (b2 1)) (b2 24)) (b4 (12 + x))) (b2 c)) (b2 d)) x (hr.le (by decide))) ⟨rfl, rfl⟩ (rm_le hRm rfl rfl) rfl (ci := 10) (q0 := 0) rfl rfl rfl rfl (Nat.le_of_ble_eq_true rfl) ⟨Nat.zero_le _, Nat.zero_le _⟩ (fun v0 w0 hq0 => ?_)
  obtain ⟨rfl, rfl⟩ := hq0
  show G Γ (mW K am A (ap (ap (ap (ap (ap (ap (ap (ap (ap σ (b2 8)) (b2 a)) (b2 b)) (b2 1)) (b2 24)) (b4 (12 + x))) (b2 c)) (b2 d)) (b4 x))) 0 0 53 [(0, .ref am), (1, .int a), (2, .int b), (3, .int c), (4, .int d), (5, .int x)] []
  have hr : Lo (ap (ap (ap (ap (ap (ap (ap (ap (ap σ (b2 8)) (b2 a)) (b2 b)) (b2 1)) (b2 24)) (b4 (12 + x))) (b2 c)) (b2 d)) (b4 x)) 0 := hr.app (Nat.le_of_ble_eq_true rfl)
  exact g_vret hX hR dX8_method_53 ⟨rfl, by simp only [ap_ap]; rfl⟩

