theorem inC_t {c : Int} (h : 0 ≤ c ∧ c < 144) : inC c = true := by unfold inC; simp; omega
theorem inC_f {c : Int} (h : ¬ (0 ≤ c ∧ c < 144)) : inC c = false := by unfold inC; simp; omega
theorem inC_c {z c : Int} (h : z = bI (inC c)) : (z = 1 ∧ 0 ≤ c ∧ c < 144) ∨ (z = 0 ∧ ¬ (0 ≤ c ∧ c < 144)) := by
  by_cases q : 0 ≤ c ∧ c < 144
  · rw [inC_t q] at h; exact Or.inl ⟨h, q⟩
  · rw [inC_f q] at h; exact Or.inr ⟨h, q⟩
abbrev rm_X1_cellAt : Room := { frames := 0, cells := 0, slots := 0, locals := 0 }
set_option maxHeartbeats 4000000 in
set_option maxRecDepth 100000 in
theorem c_X1_cellAt (l : Launch) (D : va_G) (cI cJ : ClassId)  (x y : Int)  : Ci l yX1_cellAt wsX1_cellAt rm_X1_cellAt D [(cI, .int), (cJ, .long)] [vI x, vI y] [] (fun z u => u = [] ∧ z = 12 * y + x) := by
  refine z_ofi (own := RX1) (cc := cX1_cellAt) (maxL := 2) (lv := [(0, vI x), (1, vI y)]) (by decide) rfl rfl (Nat.le_of_ble_eq_true rfl) rfl ?_
  intro p e s m args below meth cd Q A C hret
  refine z_bipush C dX1_cellAt_0 (by decide) ?_
  refine z_iload_n C 1 dX1_cellAt_2 rfl ?_
  refine z_imul C dX1_cellAt_3 ?_
  refine z_iload_n C 0 dX1_cellAt_4 rfl ?_
  refine z_iadd C dX1_cellAt_5 ?_
  exact hret _ _ _ _ dX1_cellAt_6 ⟨rfl, by rfl⟩

abbrev rm_X1_columnOf : Room := { frames := 0, cells := 0, slots := 0, locals := 0 }
set_option maxHeartbeats 4000000 in
set_option maxRecDepth 100000 in
theorem c_X1_columnOf (l : Launch) (D : va_G) (cI cJ : ClassId)  (c : Int) (hc : 0 ≤ c ∧ c < 144) : Ci l yX1_columnOf wsX1_columnOf rm_X1_columnOf D [(cI, .int), (cJ, .long)] [vI c] [] (fun z u => u = [] ∧ z = c % 12) := by
  refine z_ofi (own := RX1) (cc := cX1_columnOf) (maxL := 1) (lv := [(0, vI c)]) (by decide) rfl rfl (Nat.le_of_ble_eq_true rfl) rfl ?_
  intro p e s m args below meth cd Q A C hret
  refine z_iload_n C 0 dX1_columnOf_0 rfl ?_
  refine z_bipush C dX1_columnOf_1 (by decide) ?_
  refine z_irem C (r := c % 12) dX1_columnOf_3 (by decide) (iI_rem12 (by omega)) ?_
  exact hret _ _ _ _ dX1_columnOf_4 ⟨rfl, by rfl⟩

abbrev rm_X1_rowOf : Room := { frames := 0, cells := 0, slots := 0, locals := 0 }
set_option maxHeartbeats 4000000 in
set_option maxRecDepth 100000 in
theorem c_X1_rowOf (l : Launch) (D : va_G) (cI cJ : ClassId)  (c : Int) (hc : 0 ≤ c ∧ c < 144) : Ci l yX1_rowOf wsX1_rowOf rm_X1_rowOf D [(cI, .int), (cJ, .long)] [vI c] [] (fun z u => u = [] ∧ z = c / 12) := by
  refine z_ofi (own := RX1) (cc := cX1_rowOf) (maxL := 1) (lv := [(0, vI c)]) (by decide) rfl rfl (Nat.le_of_ble_eq_true rfl) rfl ?_
  intro p e s m args below meth cd Q A C hret
  refine z_iload_n C 0 dX1_rowOf_0 rfl ?_
  refine z_bipush C dX1_rowOf_1 (by decide) ?_
  refine z_idiv C (r := c / 12) dX1_rowOf_3 (by decide) (iI_div12 (by omega)) ?_
  exact hret _ _ _ _ dX1_rowOf_4 ⟨rfl, by rfl⟩

set_option maxRecDepth 100000 in
theorem inU_X1_X1_kindOf : ∀ w ∈ u_ws RX1 TX1 11, w ∈ wsX1_kindOf := by decide +kernel
abbrev rm_X1_kindOf : Room := { frames := 0, cells := 0, slots := 0, locals := 0 }
set_option maxHeartbeats 4000000 in
set_option maxRecDepth 100000 in
theorem c_X1_kindOf (l : Launch) (D : va_G) (cI cJ : ClassId) (h : Nat → Nat) (σ : YS) (LT : Nat → Int) (γ : YS) (φ : Nat → Int) (c : Int) (hc : 0 ≤ c ∧ c < 144) : Ci l yX1_kindOf wsX1_kindOf rm_X1_kindOf D [(cI, .int), (cJ, .long)] [.ref (h 0), vI c] (cw cI h σ LT γ φ) (fun z u => u = (cw cI h σ LT γ φ) ∧ z = σ 0 c.toNat) := by
  refine z_ofi (own := RX1) (cc := cX1_kindOf) (maxL := 2) (lv := [(0, .ref (h 0)), (1, vI c)]) (by decide) rfl rfl (Nat.le_of_ble_eq_true rfl) rfl ?_
  intro p e s m args below meth cd Q A C hret
  refine z_iload_n C 1 dX1_kindOf_0 rfl ?_
  refine z_if_lt C (tgt := 22) dX1_kindOf_1 (by decide) (by omega) (fun c_1 => ?_) (fun c_1 => ?_)
  ·
    refine z_iconst C dX1_kindOf_22 ?_
    first | exact hret _ _ _ _ dX1_kindOf_23 ⟨rfl, by rfl⟩ | (exfalso; omega)
  ·
    refine z_iload_n C 1 dX1_kindOf_4 rfl ?_
    refine z_aload_n C 0 dX1_kindOf_5 rfl ?_
    refine z_get C (v := .ref (h 1)) (ref := "ShadowWalls") (T := TX1) (N := 11) (ci := 1) 0 0 inU_X1_X1_kindOf rfl rfl (by decide) (by decide +kernel) (fun _ h9 => h9) rfl dX1_kindOf_6 ?_
    refine z_alen C (v := 144) (cA := cI) (ty := .int) 1 0 rfl rfl rfl dX1_kindOf_9 ?_
    refine z_icmp_ge C (tgt := 22) dX1_kindOf_10 (by decide) (by omega) (by omega) (fun c_10 => ?_) (fun c_10 => ?_)
    ·
      refine z_iconst C dX1_kindOf_22 ?_
      first | exact hret _ _ _ _ dX1_kindOf_23 ⟨rfl, by rfl⟩ | (exfalso; omega)
    ·
      refine z_aload_n C 0 dX1_kindOf_13 rfl ?_
      refine z_get C (v := .ref (h 1)) (ref := "ShadowWalls") (T := TX1) (N := 11) (ci := 1) 0 0 inU_X1_X1_kindOf rfl rfl (by decide) (by decide +kernel) (fun _ h9 => h9) rfl dX1_kindOf_14 ?_
      refine z_iload_n C 1 dX1_kindOf_17 rfl ?_
      refine z_iald C (cA := cI) (N := 144) (f := σ 0) 1 0 rfl rfl (by decide) (by omega) dX1_kindOf_18 ?_
      refine z_goto C (tgt := 23) dX1_kindOf_19 (by decide) ?_
      first | exact hret _ _ _ _ dX1_kindOf_23 ⟨rfl, by rfl⟩ | (exfalso; omega)

set_option maxRecDepth 100000 in
theorem inU_X1_X1_lampsOn : ∀ w ∈ u_ws RX1 TX1 11, w ∈ wsX1_lampsOn := by decide +kernel
abbrev rm_X1_lampsOn : Room := { frames := 0, cells := 0, slots := 0, locals := 0 }
set_option maxHeartbeats 4000000 in
set_option maxRecDepth 100000 in
theorem c_X1_lampsOn (l : Launch) (D : va_G) (cI cJ : ClassId) (h : Nat → Nat) (σ : YS) (LT : Nat → Int) (γ : YS) (φ : Nat → Int) (c : Int) (hc : 0 ≤ c ∧ c < 144) : Ci l yX1_lampsOn wsX1_lampsOn rm_X1_lampsOn D [(cI, .int), (cJ, .long)] [.ref (h 0), vI c] (cw cI h σ LT γ φ) (fun z u => u = (cw cI h σ LT γ φ) ∧ z = LT c.toNat) := by
  refine z_ofi (own := RX1) (cc := cX1_lampsOn) (maxL := 2) (lv := [(0, .ref (h 0)), (1, vI c)]) (by decide) rfl rfl (Nat.le_of_ble_eq_true rfl) rfl ?_
  intro p e s m args below meth cd Q A C hret
  refine z_iload_n C 1 dX1_lampsOn_0 rfl ?_
  refine z_if_lt C (tgt := 22) dX1_lampsOn_1 (by decide) (by omega) (fun c_1 => ?_) (fun c_1 => ?_)
  ·
    refine z_iconst C dX1_lampsOn_22 ?_
    first | exact hret _ _ _ _ dX1_lampsOn_23 ⟨rfl, by rfl⟩ | (exfalso; omega)
  ·
    refine z_iload_n C 1 dX1_lampsOn_4 rfl ?_
    refine z_aload_n C 0 dX1_lampsOn_5 rfl ?_
    refine z_get C (v := .ref (h 5)) (ref := "ShadowWalls") (T := TX1) (N := 11) (ci := 1) 0 4 inU_X1_X1_lampsOn rfl rfl (by decide) (by decide +kernel) (fun _ h9 => h9) rfl dX1_lampsOn_6 ?_
    refine z_alen C (v := 144) (cA := cI) (ty := .int) 5 0 rfl rfl rfl dX1_lampsOn_9 ?_
    refine z_icmp_ge C (tgt := 22) dX1_lampsOn_10 (by decide) (by omega) (by omega) (fun c_10 => ?_) (fun c_10 => ?_)
    ·
      refine z_iconst C dX1_lampsOn_22 ?_
      first | exact hret _ _ _ _ dX1_lampsOn_23 ⟨rfl, by rfl⟩ | (exfalso; omega)
    ·
      refine z_aload_n C 0 dX1_lampsOn_13 rfl ?_
      refine z_get C (v := .ref (h 5)) (ref := "ShadowWalls") (T := TX1) (N := 11) (ci := 1) 0 4 inU_X1_X1_lampsOn rfl rfl (by decide) (by decide +kernel) (fun _ h9 => h9) rfl dX1_lampsOn_14 ?_
      refine z_iload_n C 1 dX1_lampsOn_17 rfl ?_
      refine z_iald C (cA := cI) (N := 144) (f := LT) 5 0 rfl rfl (by decide) (by omega) dX1_lampsOn_18 ?_
      refine z_goto C (tgt := 23) dX1_lampsOn_19 (by decide) ?_
      first | exact hret _ _ _ _ dX1_lampsOn_23 ⟨rfl, by rfl⟩ | (exfalso; omega)

set_option maxRecDepth 100000 in
theorem inU_X1_X1_stepsAt : ∀ w ∈ u_ws RX1 TX1 11, w ∈ wsX1_stepsAt := by decide +kernel
abbrev rm_X1_stepsAt : Room := { frames := 0, cells := 0, slots := 0, locals := 0 }
set_option maxHeartbeats 4000000 in
set_option maxRecDepth 100000 in
theorem c_X1_stepsAt (l : Launch) (D : va_G) (cI cJ : ClassId) (h : Nat → Nat) (σ : YS) (LT : Nat → Int) (γ : YS) (φ : Nat → Int) (c : Int) (hc : 0 ≤ c ∧ c < 144) : Ci l yX1_stepsAt wsX1_stepsAt rm_X1_stepsAt D [(cI, .int), (cJ, .long)] [.ref (h 0), vI c] (cw cI h σ LT γ φ) (fun z u => u = (cw cI h σ LT γ φ) ∧ z = γ 0 c.toNat) := by
  refine z_ofi (own := RX1) (cc := cX1_stepsAt) (maxL := 2) (lv := [(0, .ref (h 0)), (1, vI c)]) (by decide) rfl rfl (Nat.le_of_ble_eq_true rfl) rfl ?_
  intro p e s m args below meth cd Q A C hret
  refine z_iload_n C 1 dX1_stepsAt_0 rfl ?_
  refine z_if_lt C (tgt := 22) dX1_stepsAt_1 (by decide) (by omega) (fun c_1 => ?_) (fun c_1 => ?_)
  ·
    refine z_iconst C dX1_stepsAt_22 ?_
    first | exact hret _ _ _ _ dX1_stepsAt_23 ⟨rfl, by rfl⟩ | (exfalso; omega)
  ·
    refine z_iload_n C 1 dX1_stepsAt_4 rfl ?_
    refine z_aload_n C 0 dX1_stepsAt_5 rfl ?_
    refine z_get C (v := .ref (h 6)) (ref := "ShadowWalls") (T := TX1) (N := 11) (ci := 1) 0 5 inU_X1_X1_stepsAt rfl rfl (by decide) (by decide +kernel) (fun _ h9 => h9) rfl dX1_stepsAt_6 ?_
    refine z_alen C (v := 144) (cA := cI) (ty := .int) 6 0 rfl rfl rfl dX1_stepsAt_9 ?_
    refine z_icmp_ge C (tgt := 22) dX1_stepsAt_10 (by decide) (by omega) (by omega) (fun c_10 => ?_) (fun c_10 => ?_)
    ·
      refine z_iconst C dX1_stepsAt_22 ?_
      first | exact hret _ _ _ _ dX1_stepsAt_23 ⟨rfl, by rfl⟩ | (exfalso; omega)
    ·
      refine z_aload_n C 0 dX1_stepsAt_13 rfl ?_
      refine z_get C (v := .ref (h 6)) (ref := "ShadowWalls") (T := TX1) (N := 11) (ci := 1) 0 5 inU_X1_X1_stepsAt rfl rfl (by decide) (by decide +kernel) (fun _ h9 => h9) rfl dX1_stepsAt_14 ?_
      refine z_iload_n C 1 dX1_stepsAt_17 rfl ?_
      refine z_iald C (cA := cI) (N := 144) (f := γ 0) 6 0 rfl rfl (by decide) (by omega) dX1_stepsAt_18 ?_
      refine z_goto C (tgt := 23) dX1_stepsAt_19 (by decide) ?_
      first | exact hret _ _ _ _ dX1_stepsAt_23 ⟨rfl, by rfl⟩ | (exfalso; omega)

set_option maxRecDepth 100000 in
theorem inU_X1_X1_cellOfLamp : ∀ w ∈ u_ws RX1 TX1 11, w ∈ wsX1_cellOfLamp := by decide +kernel
abbrev rm_X1_cellOfLamp : Room := { frames := 0, cells := 0, slots := 0, locals := 0 }
set_option maxHeartbeats 4000000 in
set_option maxRecDepth 100000 in
theorem c_X1_cellOfLamp (l : Launch) (D : va_G) (cI cJ : ClassId) (h : Nat → Nat) (σ : YS) (LT : Nat → Int) (γ : YS) (φ : Nat → Int) (k : Int) (hk : 0 ≤ k ∧ k < 4) : Ci l yX1_cellOfLamp wsX1_cellOfLamp rm_X1_cellOfLamp D [(cI, .int), (cJ, .long)] [.ref (h 0), vI k] (cw cI h σ LT γ φ) (fun z u => u = (cw cI h σ LT γ φ) ∧ z = σ 1 k.toNat) := by
  refine z_ofi (own := RX1) (cc := cX1_cellOfLamp) (maxL := 2) (lv := [(0, .ref (h 0)), (1, vI k)]) (by decide) rfl rfl (Nat.le_of_ble_eq_true rfl) rfl ?_
  intro p e s m args below meth cd Q A C hret
  refine z_iload_n C 1 dX1_cellOfLamp_0 rfl ?_
  refine z_if_lt C (tgt := 22) dX1_cellOfLamp_1 (by decide) (by omega) (fun c_1 => ?_) (fun c_1 => ?_)
  ·
    refine z_iconst C dX1_cellOfLamp_22 ?_
    first | exact hret _ _ _ _ dX1_cellOfLamp_23 ⟨rfl, by rfl⟩ | (exfalso; omega)
  ·
    refine z_iload_n C 1 dX1_cellOfLamp_4 rfl ?_
    refine z_aload_n C 0 dX1_cellOfLamp_5 rfl ?_
    refine z_get C (v := .ref (h 2)) (ref := "ShadowWalls") (T := TX1) (N := 11) (ci := 1) 0 1 inU_X1_X1_cellOfLamp rfl rfl (by decide) (by decide +kernel) (fun _ h9 => h9) rfl dX1_cellOfLamp_6 ?_
    refine z_alen C (v := 4) (cA := cI) (ty := .int) 2 0 rfl rfl rfl dX1_cellOfLamp_9 ?_
    refine z_icmp_ge C (tgt := 22) dX1_cellOfLamp_10 (by decide) (by omega) (by omega) (fun c_10 => ?_) (fun c_10 => ?_)
    ·
      refine z_iconst C dX1_cellOfLamp_22 ?_
      first | exact hret _ _ _ _ dX1_cellOfLamp_23 ⟨rfl, by rfl⟩ | (exfalso; omega)
    ·
      refine z_aload_n C 0 dX1_cellOfLamp_13 rfl ?_
      refine z_get C (v := .ref (h 2)) (ref := "ShadowWalls") (T := TX1) (N := 11) (ci := 1) 0 1 inU_X1_X1_cellOfLamp rfl rfl (by decide) (by decide +kernel) (fun _ h9 => h9) rfl dX1_cellOfLamp_14 ?_
      refine z_iload_n C 1 dX1_cellOfLamp_17 rfl ?_
      refine z_iald C (cA := cI) (N := 4) (f := σ 1) 2 0 rfl rfl (by decide) (by omega) dX1_cellOfLamp_18 ?_
      refine z_goto C (tgt := 23) dX1_cellOfLamp_19 (by decide) ?_
      first | exact hret _ _ _ _ dX1_cellOfLamp_23 ⟨rfl, by rfl⟩ | (exfalso; omega)

set_option maxRecDepth 100000 in
theorem inU_X1_X1_reachOf : ∀ w ∈ u_ws RX1 TX1 11, w ∈ wsX1_reachOf := by decide +kernel
abbrev rm_X1_reachOf : Room := { frames := 0, cells := 0, slots := 0, locals := 0 }
set_option maxHeartbeats 4000000 in
set_option maxRecDepth 100000 in
theorem c_X1_reachOf (l : Launch) (D : va_G) (cI cJ : ClassId) (h : Nat → Nat) (σ : YS) (LT : Nat → Int) (γ : YS) (φ : Nat → Int) (k : Int) (hk : 0 ≤ k ∧ k < 4) : Ci l yX1_reachOf wsX1_reachOf rm_X1_reachOf D [(cI, .int), (cJ, .long)] [.ref (h 0), vI k] (cw cI h σ LT γ φ) (fun z u => u = (cw cI h σ LT γ φ) ∧ z = σ 2 k.toNat) := by
  refine z_ofi (own := RX1) (cc := cX1_reachOf) (maxL := 2) (lv := [(0, .ref (h 0)), (1, vI k)]) (by decide) rfl rfl (Nat.le_of_ble_eq_true rfl) rfl ?_
  intro p e s m args below meth cd Q A C hret
  refine z_iload_n C 1 dX1_reachOf_0 rfl ?_
  refine z_if_lt C (tgt := 22) dX1_reachOf_1 (by decide) (by omega) (fun c_1 => ?_) (fun c_1 => ?_)
  ·
    refine z_iconst C dX1_reachOf_22 ?_
    first | exact hret _ _ _ _ dX1_reachOf_23 ⟨rfl, by rfl⟩ | (exfalso; omega)
  ·
    refine z_iload_n C 1 dX1_reachOf_4 rfl ?_
    refine z_aload_n C 0 dX1_reachOf_5 rfl ?_
    refine z_get C (v := .ref (h 3)) (ref := "ShadowWalls") (T := TX1) (N := 11) (ci := 1) 0 2 inU_X1_X1_reachOf rfl rfl (by decide) (by decide +kernel) (fun _ h9 => h9) rfl dX1_reachOf_6 ?_
    refine z_alen C (v := 4) (cA := cI) (ty := .int) 3 0 rfl rfl rfl dX1_reachOf_9 ?_
    refine z_icmp_ge C (tgt := 22) dX1_reachOf_10 (by decide) (by omega) (by omega) (fun c_10 => ?_) (fun c_10 => ?_)
    ·
      refine z_iconst C dX1_reachOf_22 ?_
      first | exact hret _ _ _ _ dX1_reachOf_23 ⟨rfl, by rfl⟩ | (exfalso; omega)
    ·
      refine z_aload_n C 0 dX1_reachOf_13 rfl ?_
      refine z_get C (v := .ref (h 3)) (ref := "ShadowWalls") (T := TX1) (N := 11) (ci := 1) 0 2 inU_X1_X1_reachOf rfl rfl (by decide) (by decide +kernel) (fun _ h9 => h9) rfl dX1_reachOf_14 ?_
      refine z_iload_n C 1 dX1_reachOf_17 rfl ?_
      refine z_iald C (cA := cI) (N := 4) (f := σ 2) 3 0 rfl rfl (by decide) (by omega) dX1_reachOf_18 ?_
      refine z_goto C (tgt := 23) dX1_reachOf_19 (by decide) ?_
      first | exact hret _ _ _ _ dX1_reachOf_23 ⟨rfl, by rfl⟩ | (exfalso; omega)

set_option maxRecDepth 100000 in
theorem inU_X1_X1_cellOfWatcher : ∀ w ∈ u_ws RX1 TX1 11, w ∈ wsX1_cellOfWatcher := by decide +kernel
abbrev rm_X1_cellOfWatcher : Room := { frames := 0, cells := 0, slots := 0, locals := 0 }
set_option maxHeartbeats 4000000 in
set_option maxRecDepth 100000 in
theorem c_X1_cellOfWatcher (l : Launch) (D : va_G) (cI cJ : ClassId) (h : Nat → Nat) (σ : YS) (LT : Nat → Int) (γ : YS) (φ : Nat → Int) (k : Int) (hk : 0 ≤ k ∧ k < 6) : Ci l yX1_cellOfWatcher wsX1_cellOfWatcher rm_X1_cellOfWatcher D [(cI, .int), (cJ, .long)] [.ref (h 0), vI k] (cw cI h σ LT γ φ) (fun z u => u = (cw cI h σ LT γ φ) ∧ z = σ 3 k.toNat) := by
  refine z_ofi (own := RX1) (cc := cX1_cellOfWatcher) (maxL := 2) (lv := [(0, .ref (h 0)), (1, vI k)]) (by decide) rfl rfl (Nat.le_of_ble_eq_true rfl) rfl ?_
  intro p e s m args below meth cd Q A C hret
  refine z_iload_n C 1 dX1_cellOfWatcher_0 rfl ?_
  refine z_if_lt C (tgt := 22) dX1_cellOfWatcher_1 (by decide) (by omega) (fun c_1 => ?_) (fun c_1 => ?_)
  ·
    refine z_iconst C dX1_cellOfWatcher_22 ?_
    first | exact hret _ _ _ _ dX1_cellOfWatcher_23 ⟨rfl, by rfl⟩ | (exfalso; omega)
  ·
    refine z_iload_n C 1 dX1_cellOfWatcher_4 rfl ?_
    refine z_aload_n C 0 dX1_cellOfWatcher_5 rfl ?_
    refine z_get C (v := .ref (h 4)) (ref := "ShadowWalls") (T := TX1) (N := 11) (ci := 1) 0 3 inU_X1_X1_cellOfWatcher rfl rfl (by decide) (by decide +kernel) (fun _ h9 => h9) rfl dX1_cellOfWatcher_6 ?_
    refine z_alen C (v := 6) (cA := cI) (ty := .int) 4 0 rfl rfl rfl dX1_cellOfWatcher_9 ?_
    refine z_icmp_ge C (tgt := 22) dX1_cellOfWatcher_10 (by decide) (by omega) (by omega) (fun c_10 => ?_) (fun c_10 => ?_)
    ·
      refine z_iconst C dX1_cellOfWatcher_22 ?_
      first | exact hret _ _ _ _ dX1_cellOfWatcher_23 ⟨rfl, by rfl⟩ | (exfalso; omega)
    ·
      refine z_aload_n C 0 dX1_cellOfWatcher_13 rfl ?_
      refine z_get C (v := .ref (h 4)) (ref := "ShadowWalls") (T := TX1) (N := 11) (ci := 1) 0 3 inU_X1_X1_cellOfWatcher rfl rfl (by decide) (by decide +kernel) (fun _ h9 => h9) rfl dX1_cellOfWatcher_14 ?_
      refine z_iload_n C 1 dX1_cellOfWatcher_17 rfl ?_
      refine z_iald C (cA := cI) (N := 6) (f := σ 3) 4 0 rfl rfl (by decide) (by omega) dX1_cellOfWatcher_18 ?_
      refine z_goto C (tgt := 23) dX1_cellOfWatcher_19 (by decide) ?_
      first | exact hret _ _ _ _ dX1_cellOfWatcher_23 ⟨rfl, by rfl⟩ | (exfalso; omega)

set_option maxRecDepth 100000 in
theorem inU_X1_X1_putKind : ∀ w ∈ u_ws RX1 TX1 11, w ∈ wsX1_putKind := by decide +kernel
abbrev rm_X1_putKind : Room := { frames := 0, cells := 0, slots := 0, locals := 0 }
set_option maxHeartbeats 4000000 in
set_option maxRecDepth 100000 in
theorem c_X1_putKind (l : Launch) (D : va_G) (cI cJ : ClassId) (h : Nat → Nat) (σ : YS) (LT : Nat → Int) (γ : YS) (φ : Nat → Int) (c v : Int) (hc : 0 ≤ c ∧ c < 144) : Cv l yX1_putKind wsX1_putKind rm_X1_putKind D [(cI, .int), (cJ, .long)] [.ref (h 0), vI c, vI v] (cw cI h σ LT γ φ) (fun u => u = (cw cI h (sU σ 0 c.toNat v) LT γ φ)) := by
  refine z_ofv (own := RX1) (cc := cX1_putKind) (maxL := 3) (lv := [(0, .ref (h 0)), (1, vI c), (2, vI v)]) (by decide) rfl rfl (Nat.le_of_ble_eq_true rfl) rfl ?_
  intro p e s m args below meth cd Q A C hret
  refine z_iload_n C 1 dX1_putKind_0 rfl ?_
  refine z_if_lt C (tgt := 20) dX1_putKind_1 (by decide) (by omega) (fun c_1 => ?_) (fun c_1 => ?_)
  ·
    first | exact hret _ _ _ dX1_putKind_20 rfl | (exfalso; omega)
  ·
    refine z_iload_n C 1 dX1_putKind_4 rfl ?_
    refine z_aload_n C 0 dX1_putKind_5 rfl ?_
    refine z_get C (v := .ref (h 1)) (ref := "ShadowWalls") (T := TX1) (N := 11) (ci := 1) 0 0 inU_X1_X1_putKind rfl rfl (by decide) (by decide +kernel) (fun _ h9 => h9) rfl dX1_putKind_6 ?_
    refine z_alen C (v := 144) (cA := cI) (ty := .int) 1 0 rfl rfl rfl dX1_putKind_9 ?_
    refine z_icmp_ge C (tgt := 20) dX1_putKind_10 (by decide) (by omega) (by omega) (fun c_10 => ?_) (fun c_10 => ?_)
    ·
      first | exact hret _ _ _ dX1_putKind_20 rfl | (exfalso; omega)
    ·
      refine z_aload_n C 0 dX1_putKind_13 rfl ?_
      refine z_get C (v := .ref (h 1)) (ref := "ShadowWalls") (T := TX1) (N := 11) (ci := 1) 0 0 inU_X1_X1_putKind rfl rfl (by decide) (by decide +kernel) (fun _ h9 => h9) rfl dX1_putKind_14 ?_
      refine z_iload_n C 1 dX1_putKind_17 rfl ?_
      refine z_iload_n C 2 dX1_putKind_18 rfl ?_
      refine z_iast C (cA := cI) (N := 144) (f := σ 0) (ws' := (cw cI h (sU σ 0 (c.toNat) v) LT γ φ)) 1 0 rfl rfl (by decide) (by omega) rfl dX1_putKind_19 ?_
      first | exact hret _ _ _ dX1_putKind_20 rfl | (exfalso; omega)

set_option maxRecDepth 100000 in
theorem inU_X1_X1_putLamp : ∀ w ∈ u_ws RX1 TX1 11, w ∈ wsX1_putLamp := by decide +kernel
abbrev rm_X1_putLamp : Room := { frames := 0, cells := 0, slots := 0, locals := 0 }
set_option maxHeartbeats 4000000 in
set_option maxRecDepth 100000 in
theorem c_X1_putLamp (l : Launch) (D : va_G) (cI cJ : ClassId) (h : Nat → Nat) (σ : YS) (LT : Nat → Int) (γ : YS) (φ : Nat → Int) (k v : Int) (hk : 0 ≤ k ∧ k < 4) : Cv l yX1_putLamp wsX1_putLamp rm_X1_putLamp D [(cI, .int), (cJ, .long)] [.ref (h 0), vI k, vI v] (cw cI h σ LT γ φ) (fun u => u = (cw cI h (sU σ 1 k.toNat v) LT γ φ)) := by
  refine z_ofv (own := RX1) (cc := cX1_putLamp) (maxL := 3) (lv := [(0, .ref (h 0)), (1, vI k), (2, vI v)]) (by decide) rfl rfl (Nat.le_of_ble_eq_true rfl) rfl ?_
  intro p e s m args below meth cd Q A C hret
  refine z_iload_n C 1 dX1_putLamp_0 rfl ?_
  refine z_if_lt C (tgt := 20) dX1_putLamp_1 (by decide) (by omega) (fun c_1 => ?_) (fun c_1 => ?_)
  ·
    first | exact hret _ _ _ dX1_putLamp_20 rfl | (exfalso; omega)
  ·
    refine z_iload_n C 1 dX1_putLamp_4 rfl ?_
    refine z_aload_n C 0 dX1_putLamp_5 rfl ?_
    refine z_get C (v := .ref (h 2)) (ref := "ShadowWalls") (T := TX1) (N := 11) (ci := 1) 0 1 inU_X1_X1_putLamp rfl rfl (by decide) (by decide +kernel) (fun _ h9 => h9) rfl dX1_putLamp_6 ?_
    refine z_alen C (v := 4) (cA := cI) (ty := .int) 2 0 rfl rfl rfl dX1_putLamp_9 ?_
    refine z_icmp_ge C (tgt := 20) dX1_putLamp_10 (by decide) (by omega) (by omega) (fun c_10 => ?_) (fun c_10 => ?_)
    ·
      first | exact hret _ _ _ dX1_putLamp_20 rfl | (exfalso; omega)
    ·
      refine z_aload_n C 0 dX1_putLamp_13 rfl ?_
      refine z_get C (v := .ref (h 2)) (ref := "ShadowWalls") (T := TX1) (N := 11) (ci := 1) 0 1 inU_X1_X1_putLamp rfl rfl (by decide) (by decide +kernel) (fun _ h9 => h9) rfl dX1_putLamp_14 ?_
      refine z_iload_n C 1 dX1_putLamp_17 rfl ?_
      refine z_iload_n C 2 dX1_putLamp_18 rfl ?_
      refine z_iast C (cA := cI) (N := 4) (f := σ 1) (ws' := (cw cI h (sU σ 1 (k.toNat) v) LT γ φ)) 2 0 rfl rfl (by decide) (by omega) rfl dX1_putLamp_19 ?_
      first | exact hret _ _ _ dX1_putLamp_20 rfl | (exfalso; omega)

set_option maxRecDepth 100000 in
theorem inU_X1_X1_putReach : ∀ w ∈ u_ws RX1 TX1 11, w ∈ wsX1_putReach := by decide +kernel
abbrev rm_X1_putReach : Room := { frames := 0, cells := 0, slots := 0, locals := 0 }
set_option maxHeartbeats 4000000 in
set_option maxRecDepth 100000 in
theorem c_X1_putReach (l : Launch) (D : va_G) (cI cJ : ClassId) (h : Nat → Nat) (σ : YS) (LT : Nat → Int) (γ : YS) (φ : Nat → Int) (k v : Int) (hk : 0 ≤ k ∧ k < 4) : Cv l yX1_putReach wsX1_putReach rm_X1_putReach D [(cI, .int), (cJ, .long)] [.ref (h 0), vI k, vI v] (cw cI h σ LT γ φ) (fun u => u = (cw cI h (sU σ 2 k.toNat v) LT γ φ)) := by
  refine z_ofv (own := RX1) (cc := cX1_putReach) (maxL := 3) (lv := [(0, .ref (h 0)), (1, vI k), (2, vI v)]) (by decide) rfl rfl (Nat.le_of_ble_eq_true rfl) rfl ?_
  intro p e s m args below meth cd Q A C hret
  refine z_iload_n C 1 dX1_putReach_0 rfl ?_
  refine z_if_lt C (tgt := 20) dX1_putReach_1 (by decide) (by omega) (fun c_1 => ?_) (fun c_1 => ?_)
  ·
    first | exact hret _ _ _ dX1_putReach_20 rfl | (exfalso; omega)
  ·
    refine z_iload_n C 1 dX1_putReach_4 rfl ?_
    refine z_aload_n C 0 dX1_putReach_5 rfl ?_
    refine z_get C (v := .ref (h 3)) (ref := "ShadowWalls") (T := TX1) (N := 11) (ci := 1) 0 2 inU_X1_X1_putReach rfl rfl (by decide) (by decide +kernel) (fun _ h9 => h9) rfl dX1_putReach_6 ?_
    refine z_alen C (v := 4) (cA := cI) (ty := .int) 3 0 rfl rfl rfl dX1_putReach_9 ?_
    refine z_icmp_ge C (tgt := 20) dX1_putReach_10 (by decide) (by omega) (by omega) (fun c_10 => ?_) (fun c_10 => ?_)
    ·
      first | exact hret _ _ _ dX1_putReach_20 rfl | (exfalso; omega)
    ·
      refine z_aload_n C 0 dX1_putReach_13 rfl ?_
      refine z_get C (v := .ref (h 3)) (ref := "ShadowWalls") (T := TX1) (N := 11) (ci := 1) 0 2 inU_X1_X1_putReach rfl rfl (by decide) (by decide +kernel) (fun _ h9 => h9) rfl dX1_putReach_14 ?_
      refine z_iload_n C 1 dX1_putReach_17 rfl ?_
      refine z_iload_n C 2 dX1_putReach_18 rfl ?_
      refine z_iast C (cA := cI) (N := 4) (f := σ 2) (ws' := (cw cI h (sU σ 2 (k.toNat) v) LT γ φ)) 3 0 rfl rfl (by decide) (by omega) rfl dX1_putReach_19 ?_
      first | exact hret _ _ _ dX1_putReach_20 rfl | (exfalso; omega)

set_option maxRecDepth 100000 in
theorem inU_X1_X1_putWatcher : ∀ w ∈ u_ws RX1 TX1 11, w ∈ wsX1_putWatcher := by decide +kernel
abbrev rm_X1_putWatcher : Room := { frames := 0, cells := 0, slots := 0, locals := 0 }
set_option maxHeartbeats 4000000 in
set_option maxRecDepth 100000 in
theorem c_X1_putWatcher (l : Launch) (D : va_G) (cI cJ : ClassId) (h : Nat → Nat) (σ : YS) (LT : Nat → Int) (γ : YS) (φ : Nat → Int) (k v : Int) (hk : 0 ≤ k ∧ k < 6) : Cv l yX1_putWatcher wsX1_putWatcher rm_X1_putWatcher D [(cI, .int), (cJ, .long)] [.ref (h 0), vI k, vI v] (cw cI h σ LT γ φ) (fun u => u = (cw cI h (sU σ 3 k.toNat v) LT γ φ)) := by
  refine z_ofv (own := RX1) (cc := cX1_putWatcher) (maxL := 3) (lv := [(0, .ref (h 0)), (1, vI k), (2, vI v)]) (by decide) rfl rfl (Nat.le_of_ble_eq_true rfl) rfl ?_
  intro p e s m args below meth cd Q A C hret
  refine z_iload_n C 1 dX1_putWatcher_0 rfl ?_
  refine z_if_lt C (tgt := 20) dX1_putWatcher_1 (by decide) (by omega) (fun c_1 => ?_) (fun c_1 => ?_)
  ·
    first | exact hret _ _ _ dX1_putWatcher_20 rfl | (exfalso; omega)
  ·
    refine z_iload_n C 1 dX1_putWatcher_4 rfl ?_
    refine z_aload_n C 0 dX1_putWatcher_5 rfl ?_
    refine z_get C (v := .ref (h 4)) (ref := "ShadowWalls") (T := TX1) (N := 11) (ci := 1) 0 3 inU_X1_X1_putWatcher rfl rfl (by decide) (by decide +kernel) (fun _ h9 => h9) rfl dX1_putWatcher_6 ?_
    refine z_alen C (v := 6) (cA := cI) (ty := .int) 4 0 rfl rfl rfl dX1_putWatcher_9 ?_
    refine z_icmp_ge C (tgt := 20) dX1_putWatcher_10 (by decide) (by omega) (by omega) (fun c_10 => ?_) (fun c_10 => ?_)
    ·
      first | exact hret _ _ _ dX1_putWatcher_20 rfl | (exfalso; omega)
    ·
      refine z_aload_n C 0 dX1_putWatcher_13 rfl ?_
      refine z_get C (v := .ref (h 4)) (ref := "ShadowWalls") (T := TX1) (N := 11) (ci := 1) 0 3 inU_X1_X1_putWatcher rfl rfl (by decide) (by decide +kernel) (fun _ h9 => h9) rfl dX1_putWatcher_14 ?_
      refine z_iload_n C 1 dX1_putWatcher_17 rfl ?_
      refine z_iload_n C 2 dX1_putWatcher_18 rfl ?_
      refine z_iast C (cA := cI) (N := 6) (f := σ 3) (ws' := (cw cI h (sU σ 3 (k.toNat) v) LT γ φ)) 4 0 rfl rfl (by decide) (by omega) rfl dX1_putWatcher_19 ?_
      first | exact hret _ _ _ dX1_putWatcher_20 rfl | (exfalso; omega)

abbrev rm_X1_isLit : Room := { frames := 1, cells := 0, slots := 0, locals := 21 }
set_option maxHeartbeats 4000000 in
set_option maxRecDepth 100000 in
theorem c_X1_isLit (l : Launch) (D : va_G) (cI cJ : ClassId) (h : Nat → Nat) (σ : YS) (LT : Nat → Int) (γ : YS) (φ : Nat → Int) (c : Int) (hc : 0 ≤ c ∧ c < 144) (hL : LR LT) : Ci l yX1_isLit wsX1_isLit rm_X1_isLit D [(cI, .int), (cJ, .long)] [.ref (h 0), vI c] (cw cI h σ LT γ φ) (fun z u => u = (cw cI h σ LT γ φ) ∧ z = bI (decide (LT c.toNat ≠ 0))) := by
  refine z_ofz (own := RX1) (cc := cX1_isLit) (maxL := 2) (lv := [(0, .ref (h 0)), (1, vI c)]) (by decide) rfl rfl (Nat.le_of_ble_eq_true rfl) rfl ?_
  intro p e s m args below meth cd Q A C hret
  refine z_aload_n C 0 dX1_isLit_0 rfl ?_
  refine z_iload_n C 1 dX1_isLit_1 rfl ?_
  refine z_callVi C (As := [vI c]) (st := []) (y := yX1_lampsOn) (w := wsX1_lampsOn) (rm := rm_X1_lampsOn) (wr := []) (k' := 0) (n' := 0) [0, 1, 2, 3, 4, 5, 6, 7, 8] [] 0 (c_X1_lampsOn l D cI cJ h σ LT γ φ c (by omega)) (cwV 1 C.1.2.2.2.2 gX1_isLit_X1_lampsOn rfl rfl rfl (by decide +kernel) ⟨Nat.le_of_ble_eq_true rfl, Nat.le_of_ble_eq_true rfl⟩) rfl rfl rfl rfl rfl (by decide) rfl rfl rfl rfl (Nat.le_of_ble_eq_true rfl) rfl rfl ⟨Nat.le_of_ble_eq_true rfl, Nat.le_of_ble_eq_true rfl⟩ dX1_isLit_2 ?_
  rintro z_2 _ ⟨rfl, rfl⟩
  refine z_ws (ws' := (cw cI h σ LT γ φ)) rfl ?_
  refine z_st (v' := (LT c.toNat)) rfl ?_
  have r_2 := hL c.toNat
  refine z_if_eq C (tgt := 12) dX1_isLit_5 (by decide) (by omega) (fun c_5 => ?_) (fun c_5 => ?_)
  ·
    refine z_iconst C dX1_isLit_12 ?_
    exact hret _ _ _ _ dX1_isLit_13 (Or.inl rfl) ⟨rfl, by first | (rw [bI_t (by simp; omega)]; done) | (rw [bI_f (by simp; omega)]; done)⟩
  ·
    refine z_iconst C dX1_isLit_8 ?_
    refine z_goto C (tgt := 13) dX1_isLit_9 (by decide) ?_
    exact hret _ _ _ _ dX1_isLit_13 (Or.inr rfl) ⟨rfl, by first | (rw [bI_t (by simp; omega)]; done) | (rw [bI_f (by simp; omega)]; done)⟩

abbrev rm_X1_neighbour : Room := { frames := 1, cells := 0, slots := 0, locals := 20 }
set_option maxHeartbeats 4000000 in
set_option maxRecDepth 100000 in
theorem c_X1_neighbour (l : Launch) (D : va_G) (cI cJ : ClassId)  (c sd : Int) (hc : 0 ≤ c ∧ c < 144) (hs : rng sd) : Ci l yX1_neighbour wsX1_neighbour rm_X1_neighbour D [(cI, .int), (cJ, .long)] [vI c, vI sd] [] (fun z u => u = [] ∧ z = nb c sd) := by
  refine z_ofi (own := RX1) (cc := cX1_neighbour) (maxL := 2) (lv := [(0, vI c), (1, vI sd)]) (by decide) rfl rfl (Nat.le_of_ble_eq_true rfl) rfl ?_
  intro p e s m args below meth cd Q A C hret
  refine z_iload_n C 1 dX1_neighbour_0 rfl ?_
  rcases (show sd = 0 ∨ sd = 1 ∨ sd = 2 ∨ sd = 3 ∨ (sd ≠ 0 ∧ sd ≠ 1 ∧ sd ≠ 2 ∧ sd ≠ 3) by omega) with k_1 | k_1 | k_1 | k_1 | k_1
  ·
    refine z_tabIn C (off := 31) (tgt := 32) dX1_neighbour_1 (by omega) (by omega) (by omega) (by rw [k_1]; rfl) (by decide) ?_
    refine z_iload_n C 0 dX1_neighbour_32 rfl ?_
    refine z_callSi C (As := [vI c]) (st := []) (y := yX1_rowOf) (w := wsX1_rowOf) (rm := rm_X1_rowOf) (wr := []) (k' := 0) (n' := 0) [] [] (c_X1_rowOf l D cI cJ  c (by omega)) (va_cwS 1 C.1.2.2.2.2 gX1_neighbour_X1_rowOf rfl rfl rfl (by decide +kernel) ⟨Nat.le_of_ble_eq_true rfl, Nat.le_of_ble_eq_true rfl⟩) rfl rfl rfl rfl rfl (by decide) rfl rfl (Nat.le_of_ble_eq_true rfl) rfl rfl ⟨Nat.le_of_ble_eq_true rfl, Nat.le_of_ble_eq_true rfl⟩ dX1_neighbour_33 ?_
    rintro z_33 _ ⟨rfl, rfl⟩
    refine z_ws (ws' := []) rfl ?_
    refine z_st (v' := (c / 12)) rfl ?_
    refine z_if_le C (tgt := 46) dX1_neighbour_36 (by decide) (by omega) (fun c_36 => ?_) (fun c_36 => ?_)
    ·
      refine z_iconst C dX1_neighbour_46 ?_
      exact hret _ _ _ _ dX1_neighbour_47 ⟨rfl, by (unfold nb; repeat' split) <;> omega⟩
    ·
      refine z_iload_n C 0 dX1_neighbour_39 rfl ?_
      refine z_bipush C dX1_neighbour_40 (by decide) ?_
      refine z_isub C dX1_neighbour_42 ?_
      refine z_goto C (tgt := 47) dX1_neighbour_43 (by decide) ?_
      exact hret _ _ _ _ dX1_neighbour_47 ⟨rfl, by (unfold nb; repeat' split) <;> omega⟩
  ·
    refine z_tabIn C (off := 47) (tgt := 48) dX1_neighbour_1 (by omega) (by omega) (by omega) (by rw [k_1]; rfl) (by decide) ?_
    refine z_iload_n C 0 dX1_neighbour_48 rfl ?_
    refine z_callSi C (As := [vI c]) (st := []) (y := yX1_columnOf) (w := wsX1_columnOf) (rm := rm_X1_columnOf) (wr := []) (k' := 0) (n' := 0) [] [] (c_X1_columnOf l D cI cJ  c (by omega)) (va_cwS 1 C.1.2.2.2.2 gX1_neighbour_X1_columnOf rfl rfl rfl (by decide +kernel) ⟨Nat.le_of_ble_eq_true rfl, Nat.le_of_ble_eq_true rfl⟩) rfl rfl rfl rfl rfl (by decide) rfl rfl (Nat.le_of_ble_eq_true rfl) rfl rfl ⟨Nat.le_of_ble_eq_true rfl, Nat.le_of_ble_eq_true rfl⟩ dX1_neighbour_49 ?_
    rintro z_49 _ ⟨rfl, rfl⟩
    refine z_ws (ws' := []) rfl ?_
    refine z_st (v' := (c % 12)) rfl ?_
    refine z_if_le C (tgt := 61) dX1_neighbour_52 (by decide) (by omega) (fun c_52 => ?_) (fun c_52 => ?_)
    ·
      refine z_iconst C dX1_neighbour_61 ?_
      exact hret _ _ _ _ dX1_neighbour_62 ⟨rfl, by (unfold nb; repeat' split) <;> omega⟩
    ·
      refine z_iload_n C 0 dX1_neighbour_55 rfl ?_
      refine z_iconst C dX1_neighbour_56 ?_
      refine z_isub C dX1_neighbour_57 ?_
      refine z_goto C (tgt := 62) dX1_neighbour_58 (by decide) ?_
      exact hret _ _ _ _ dX1_neighbour_62 ⟨rfl, by (unfold nb; repeat' split) <;> omega⟩
  ·
    refine z_tabIn C (off := 62) (tgt := 63) dX1_neighbour_1 (by omega) (by omega) (by omega) (by rw [k_1]; rfl) (by decide) ?_
    refine z_iload_n C 0 dX1_neighbour_63 rfl ?_
    refine z_callSi C (As := [vI c]) (st := []) (y := yX1_columnOf) (w := wsX1_columnOf) (rm := rm_X1_columnOf) (wr := []) (k' := 0) (n' := 0) [] [] (c_X1_columnOf l D cI cJ  c (by omega)) (va_cwS 1 C.1.2.2.2.2 gX1_neighbour_X1_columnOf rfl rfl rfl (by decide +kernel) ⟨Nat.le_of_ble_eq_true rfl, Nat.le_of_ble_eq_true rfl⟩) rfl rfl rfl rfl rfl (by decide) rfl rfl (Nat.le_of_ble_eq_true rfl) rfl rfl ⟨Nat.le_of_ble_eq_true rfl, Nat.le_of_ble_eq_true rfl⟩ dX1_neighbour_64 ?_
    rintro z_64 _ ⟨rfl, rfl⟩
    refine z_ws (ws' := []) rfl ?_
    refine z_st (v' := (c % 12)) rfl ?_
    refine z_bipush C dX1_neighbour_67 (by decide) ?_
    refine z_icmp_ge C (tgt := 78) dX1_neighbour_69 (by decide) (by omega) (by omega) (fun c_69 => ?_) (fun c_69 => ?_)
    ·
      refine z_iconst C dX1_neighbour_78 ?_
      exact hret _ _ _ _ dX1_neighbour_79 ⟨rfl, by (unfold nb; repeat' split) <;> omega⟩
    ·
      refine z_iload_n C 0 dX1_neighbour_72 rfl ?_
      refine z_iconst C dX1_neighbour_73 ?_
      refine z_iadd C dX1_neighbour_74 ?_
      refine z_goto C (tgt := 79) dX1_neighbour_75 (by decide) ?_
      exact hret _ _ _ _ dX1_neighbour_79 ⟨rfl, by (unfold nb; repeat' split) <;> omega⟩
  ·
    refine z_tabIn C (off := 79) (tgt := 80) dX1_neighbour_1 (by omega) (by omega) (by omega) (by rw [k_1]; rfl) (by decide) ?_
    refine z_iload_n C 0 dX1_neighbour_80 rfl ?_
    refine z_callSi C (As := [vI c]) (st := []) (y := yX1_rowOf) (w := wsX1_rowOf) (rm := rm_X1_rowOf) (wr := []) (k' := 0) (n' := 0) [] [] (c_X1_rowOf l D cI cJ  c (by omega)) (va_cwS 1 C.1.2.2.2.2 gX1_neighbour_X1_rowOf rfl rfl rfl (by decide +kernel) ⟨Nat.le_of_ble_eq_true rfl, Nat.le_of_ble_eq_true rfl⟩) rfl rfl rfl rfl rfl (by decide) rfl rfl (Nat.le_of_ble_eq_true rfl) rfl rfl ⟨Nat.le_of_ble_eq_true rfl, Nat.le_of_ble_eq_true rfl⟩ dX1_neighbour_81 ?_
    rintro z_81 _ ⟨rfl, rfl⟩
    refine z_ws (ws' := []) rfl ?_
    refine z_st (v' := (c / 12)) rfl ?_
    refine z_bipush C dX1_neighbour_84 (by decide) ?_
    refine z_icmp_ge C (tgt := 96) dX1_neighbour_86 (by decide) (by omega) (by omega) (fun c_86 => ?_) (fun c_86 => ?_)
    ·
      refine z_iconst C dX1_neighbour_96 ?_
      exact hret _ _ _ _ dX1_neighbour_97 ⟨rfl, by (unfold nb; repeat' split) <;> omega⟩
    ·
      refine z_iload_n C 0 dX1_neighbour_89 rfl ?_
      refine z_bipush C dX1_neighbour_90 (by decide) ?_
      refine z_iadd C dX1_neighbour_92 ?_
      refine z_goto C (tgt := 97) dX1_neighbour_93 (by decide) ?_
      exact hret _ _ _ _ dX1_neighbour_97 ⟨rfl, by (unfold nb; repeat' split) <;> omega⟩
  ·
    refine z_tabOut C (tgt := 98) dX1_neighbour_1 (by omega) (by omega) (by decide) ?_
    refine z_iconst C dX1_neighbour_98 ?_
    exact hret _ _ _ _ dX1_neighbour_99 ⟨rfl, by (unfold nb; repeat' split) <;> omega⟩
