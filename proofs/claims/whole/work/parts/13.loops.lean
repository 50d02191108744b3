theorem brg_t {σ : YS} {LT : Nat → Int} {c : Int} {i : Nat} {v : Int} (ec : ((c.toNat : Nat) : Int) = c) (b : band (LT c.toNat) (2 ^ i) ≠ 0 ↔ bt (LT c.toNat) i = true) (q : ¬ band (LT c.toNat) (2 ^ i) = 0) (hv : v = σ 2 i - mxZ (abZ (c % 12 - σ 1 i % 12)) (abZ (c / 12 - σ 1 i / 12))) : sm (brF σ (LT c.toNat) c.toNat) i + v = sm (brF σ (LT c.toNat) c.toNat) (i + 1) := by
  simp only [sm]
  unfold brF dX dY
  rw [if_pos (b.mp q), ec, hv]
theorem brg_f {σ : YS} {LT : Nat → Int} {c : Int} {i : Nat} (b : band (LT c.toNat) (2 ^ i) ≠ 0 ↔ bt (LT c.toNat) i = true) (q : band (LT c.toNat) (2 ^ i) = 0) : sm (brF σ (LT c.toNat) c.toNat) i = sm (brF σ (LT c.toNat) c.toNat) (i + 1) := by
  simp only [sm]
  unfold brF
  rw [if_neg (fun r => b.mpr r q)]
  simp
abbrev rm_X1_cellsNotOpen : Room := { frames := 1, cells := 0, slots := 0, locals := 21 }
set_option maxHeartbeats 4000000 in
set_option maxRecDepth 100000 in
theorem c_X1_cellsNotOpen (l : Launch) (D : va_G) (cI cJ : ClassId) (h : Nat → Nat) (σ : YS) (LT : Nat → Int) (γ : YS) (φ : Nat → Int)  (hO : Ok σ) : Ci l yX1_cellsNotOpen wsX1_cellsNotOpen rm_X1_cellsNotOpen D [(cI, .int), (cJ, .long)] [.ref (h 0)] (cw cI h σ LT γ φ) (fun z u => u = (cw cI h σ LT γ φ) ∧ z = sm (fun c => bI (decide (σ 0 c ≠ 0))) 144) := by
  refine z_ofi (own := RX1) (cc := cX1_cellsNotOpen) (maxL := 3) (lv := [(0, .ref (h 0))]) (by decide) rfl rfl (Nat.le_of_ble_eq_true rfl) rfl ?_
  intro p e s m args below meth cd Q A C hret
  have hn := hO.1
  have hm := hO.2.1
  have en := nLa_e hO
  have em := nWa_e hO
  refine z_iconst C dX1_cellsNotOpen_0 ?_
  refine z_istore_n C [(1, vI 0), (0, .ref (h 0))] dX1_cellsNotOpen_1 (by decide) rfl ?_
  refine z_iconst C dX1_cellsNotOpen_2 ?_
  refine z_istore_n C [(2, vI 0), (1, vI 0), (0, .ref (h 0))] dX1_cellsNotOpen_3 (by decide) rfl ?_
  have L_4 : ∀ (d9 i : Nat) (hi : i ≤ 144) (hd : 144 + 1 ≤ i + d9), Zs p l e rm_X1_cellsNotOpen s m args below meth cd Q A D 3 4 [(0, .ref (h 0)), (1, vI (sm (fun c => bI (decide (σ 0 c ≠ 0))) i)), (2, vI (i : Int))] [] (cw cI h σ LT γ φ) 0 0 := by
    intro d9
    induction d9 with
    | zero =>
      intro i hi hd
      exfalso; omega
    | succ d9 ih9 =>
      intro i hi hd
      refine z_iload_n C 2 dX1_cellsNotOpen_4 rfl ?_
      refine z_sipush C dX1_cellsNotOpen_5 (by decide) ?_
      refine z_icmp_ge C (tgt := 28) dX1_cellsNotOpen_8 (by decide) (by omega) (by omega) (fun c_8 => ?_) (fun c_8 => ?_)
      ·
        obtain rfl : i = 144 := by omega
        refine z_iload_n C 1 dX1_cellsNotOpen_28 rfl ?_
        exact hret _ _ _ _ dX1_cellsNotOpen_29 ⟨rfl, by rfl⟩
      ·
        refine z_aload_n C 0 dX1_cellsNotOpen_11 rfl ?_
        refine z_iload_n C 2 dX1_cellsNotOpen_12 rfl ?_
        refine z_callVi C (As := [vI (i : Int)]) (st := []) (y := yX1_kindOf) (w := wsX1_kindOf) (rm := rm_X1_kindOf) (wr := []) (k' := 0) (n' := 0) [0, 1, 2, 3, 4, 5, 6, 7, 8] [] 0 (c_X1_kindOf l D cI cJ h σ LT γ φ (i : Int) (by omega)) (cwV 1 C.1.2.2.2.2 gX1_cellsNotOpen_X1_kindOf rfl rfl rfl (by decide +kernel) ⟨Nat.le_of_ble_eq_true rfl, Nat.le_of_ble_eq_true rfl⟩) rfl rfl rfl rfl rfl (by decide) rfl rfl rfl rfl (Nat.le_of_ble_eq_true rfl) rfl rfl ⟨Nat.le_of_ble_eq_true rfl, Nat.le_of_ble_eq_true rfl⟩ dX1_cellsNotOpen_13 ?_
        rintro z_13 _ ⟨rfl, rfl⟩
        refine z_ws (ws' := (cw cI h σ LT γ φ)) rfl ?_
        refine z_st (v' := (σ 0 i)) rfl ?_
        have r_13 := hO.2.2.2.2 i
        refine z_if_eq C (tgt := 22) dX1_cellsNotOpen_16 (by decide) (by omega) (fun c_16 => ?_) (fun c_16 => ?_)
        ·
          refine z_iinc C 2 [(2, vI ((i : Int) + 1)), (0, .ref (h 0)), (1, vI (sm (fun c => bI (decide (σ 0 c ≠ 0))) i))] dX1_cellsNotOpen_22 rfl (by decide) rfl ?_
          refine z_goto C (tgt := 4) dX1_cellsNotOpen_25 (by decide) ?_
          refine z_chg 2 (x' := sm (fun c => bI (decide (σ 0 c ≠ 0))) (i + 1)) (lv' := [(2, vI ((i : Int) + 1)), (0, .ref (h 0)), (1, vI (sm (fun c => bI (decide (σ 0 c ≠ 0))) (i + 1)))]) rfl (by first | exact sm_t (by simp; omega) | exact sm_f (by simp; omega)) rfl ?_
          refine z_chg 0 (x' := ((i + 1 : Nat) : Int)) (lv' := [(2, vI ((i + 1 : Nat) : Int)), (0, .ref (h 0)), (1, vI (sm (fun c => bI (decide (σ 0 c ≠ 0))) (i + 1)))]) rfl (by omega) rfl ?_
          refine z_sub (lv' := [(0, .ref (h 0)), (1, vI (sm (fun c => bI (decide (σ 0 c ≠ 0))) (i + 1))), (2, vI ((i + 1 : Nat) : Int))]) [1, 2, 0] rfl ?_
          exact ih9 (i + 1) (by omega) (by omega)
        ·
          refine z_iinc C 1 [(1, vI ((sm (fun c => bI (decide (σ 0 c ≠ 0))) i) + 1)), (0, .ref (h 0)), (2, vI (i : Int))] dX1_cellsNotOpen_19 rfl (by decide) rfl ?_
          refine z_iinc C 2 [(2, vI ((i : Int) + 1)), (1, vI ((sm (fun c => bI (decide (σ 0 c ≠ 0))) i) + 1)), (0, .ref (h 0))] dX1_cellsNotOpen_22 rfl (by decide) rfl ?_
          refine z_goto C (tgt := 4) dX1_cellsNotOpen_25 (by decide) ?_
          refine z_chg 1 (x' := sm (fun c => bI (decide (σ 0 c ≠ 0))) (i + 1)) (lv' := [(2, vI ((i : Int) + 1)), (1, vI (sm (fun c => bI (decide (σ 0 c ≠ 0))) (i + 1))), (0, .ref (h 0))]) rfl (by first | exact sm_t (by simp; omega) | exact sm_f (by simp; omega)) rfl ?_
          refine z_chg 0 (x' := ((i + 1 : Nat) : Int)) (lv' := [(2, vI ((i + 1 : Nat) : Int)), (1, vI (sm (fun c => bI (decide (σ 0 c ≠ 0))) (i + 1))), (0, .ref (h 0))]) rfl (by omega) rfl ?_
          refine z_sub (lv' := [(0, .ref (h 0)), (1, vI (sm (fun c => bI (decide (σ 0 c ≠ 0))) (i + 1))), (2, vI ((i + 1 : Nat) : Int))]) [2, 1, 0] rfl ?_
          exact ih9 (i + 1) (by omega) (by omega)
  refine z_sub (lv' := [(0, .ref (h 0)), (1, vI 0), (2, vI 0)]) [2, 1, 0] rfl ?_
  exact L_4 (144 + 1) 0 (Nat.zero_le _) (by omega)

abbrev rm_X1_litCells : Room := { frames := 2, cells := 0, slots := 0, locals := 42 }
set_option maxHeartbeats 4000000 in
set_option maxRecDepth 100000 in
theorem c_X1_litCells (l : Launch) (D : va_G) (cI cJ : ClassId) (h : Nat → Nat) (σ : YS) (LT : Nat → Int) (γ : YS) (φ : Nat → Int)  (hL : LR LT) : Ci l yX1_litCells wsX1_litCells rm_X1_litCells D [(cI, .int), (cJ, .long)] [.ref (h 0)] (cw cI h σ LT γ φ) (fun z u => u = (cw cI h σ LT γ φ) ∧ z = sm (fun c => bI (decide (LT c ≠ 0))) 144) := by
  refine z_ofi (own := RX1) (cc := cX1_litCells) (maxL := 3) (lv := [(0, .ref (h 0))]) (by decide) rfl rfl (Nat.le_of_ble_eq_true rfl) rfl ?_
  intro p e s m args below meth cd Q A C hret
  refine z_iconst C dX1_litCells_0 ?_
  refine z_istore_n C [(1, vI 0), (0, .ref (h 0))] dX1_litCells_1 (by decide) rfl ?_
  refine z_iconst C dX1_litCells_2 ?_
  refine z_istore_n C [(2, vI 0), (1, vI 0), (0, .ref (h 0))] dX1_litCells_3 (by decide) rfl ?_
  have L_4 : ∀ (d9 i : Nat) (hi : i ≤ 144) (hd : 144 + 1 ≤ i + d9), Zs p l e rm_X1_litCells s m args below meth cd Q A D 3 4 [(0, .ref (h 0)), (1, vI (sm (fun c => bI (decide (LT c ≠ 0))) i)), (2, vI (i : Int))] [] (cw cI h σ LT γ φ) 0 0 := by
    intro d9
    induction d9 with
    | zero =>
      intro i hi hd
      exfalso; omega
    | succ d9 ih9 =>
      intro i hi hd
      refine z_iload_n C 2 dX1_litCells_4 rfl ?_
      refine z_sipush C dX1_litCells_5 (by decide) ?_
      refine z_icmp_ge C (tgt := 28) dX1_litCells_8 (by decide) (by omega) (by omega) (fun c_8 => ?_) (fun c_8 => ?_)
      ·
        obtain rfl : i = 144 := by omega
        refine z_iload_n C 1 dX1_litCells_28 rfl ?_
        exact hret _ _ _ _ dX1_litCells_29 ⟨rfl, by rfl⟩
      ·
        refine z_aload_n C 0 dX1_litCells_11 rfl ?_
        refine z_iload_n C 2 dX1_litCells_12 rfl ?_
        refine z_callVi C (As := [vI (i : Int)]) (st := []) (y := yX1_isLit) (w := wsX1_isLit) (rm := rm_X1_isLit) (wr := []) (k' := 0) (n' := 0) [0, 1, 2, 3, 4, 5, 6, 7, 8] [] 0 (c_X1_isLit l D cI cJ h σ LT γ φ (i : Int) (by omega) hL) (cwV 1 C.1.2.2.2.2 gX1_litCells_X1_isLit rfl rfl rfl (by decide +kernel) ⟨Nat.le_of_ble_eq_true rfl, Nat.le_of_ble_eq_true rfl⟩) rfl rfl rfl rfl rfl (by decide) rfl rfl rfl rfl (Nat.le_of_ble_eq_true rfl) rfl rfl ⟨Nat.le_of_ble_eq_true rfl, Nat.le_of_ble_eq_true rfl⟩ dX1_litCells_13 ?_
        rintro z_13 _ ⟨rfl, hz_13⟩
        refine z_ws (ws' := (cw cI h σ LT γ φ)) rfl ?_
        have r_13 : z_13 = 0 ∨ z_13 = 1 := by rw [hz_13]; exact bI_01 _
        have hz_13 : z_13 = bI (decide (LT i ≠ 0)) := hz_13
        refine z_if_eq C (tgt := 22) dX1_litCells_16 (by decide) (by omega) (fun c_16 => ?_) (fun c_16 => ?_)
        ·
          refine z_iinc C 2 [(2, vI ((i : Int) + 1)), (0, .ref (h 0)), (1, vI (sm (fun c => bI (decide (LT c ≠ 0))) i))] dX1_litCells_22 rfl (by decide) rfl ?_
          refine z_goto C (tgt := 4) dX1_litCells_25 (by decide) ?_
          refine z_chg 2 (x' := sm (fun c => bI (decide (LT c ≠ 0))) (i + 1)) (lv' := [(2, vI ((i : Int) + 1)), (0, .ref (h 0)), (1, vI (sm (fun c => bI (decide (LT c ≠ 0))) (i + 1)))]) rfl (by first | exact sm_t (bz_t hz_13 c_16) | exact sm_f (bz_f hz_13 c_16)) rfl ?_
          refine z_chg 0 (x' := ((i + 1 : Nat) : Int)) (lv' := [(2, vI ((i + 1 : Nat) : Int)), (0, .ref (h 0)), (1, vI (sm (fun c => bI (decide (LT c ≠ 0))) (i + 1)))]) rfl (by omega) rfl ?_
          refine z_sub (lv' := [(0, .ref (h 0)), (1, vI (sm (fun c => bI (decide (LT c ≠ 0))) (i + 1))), (2, vI ((i + 1 : Nat) : Int))]) [1, 2, 0] rfl ?_
          exact ih9 (i + 1) (by omega) (by omega)
        ·
          refine z_iinc C 1 [(1, vI ((sm (fun c => bI (decide (LT c ≠ 0))) i) + 1)), (0, .ref (h 0)), (2, vI (i : Int))] dX1_litCells_19 rfl (by decide) rfl ?_
          refine z_iinc C 2 [(2, vI ((i : Int) + 1)), (1, vI ((sm (fun c => bI (decide (LT c ≠ 0))) i) + 1)), (0, .ref (h 0))] dX1_litCells_22 rfl (by decide) rfl ?_
          refine z_goto C (tgt := 4) dX1_litCells_25 (by decide) ?_
          refine z_chg 1 (x' := sm (fun c => bI (decide (LT c ≠ 0))) (i + 1)) (lv' := [(2, vI ((i : Int) + 1)), (1, vI (sm (fun c => bI (decide (LT c ≠ 0))) (i + 1))), (0, .ref (h 0))]) rfl (by first | exact sm_t (bz_t hz_13 c_16) | exact sm_f (bz_f hz_13 c_16)) rfl ?_
          refine z_chg 0 (x' := ((i + 1 : Nat) : Int)) (lv' := [(2, vI ((i + 1 : Nat) : Int)), (1, vI (sm (fun c => bI (decide (LT c ≠ 0))) (i + 1))), (0, .ref (h 0))]) rfl (by omega) rfl ?_
          refine z_sub (lv' := [(0, .ref (h 0)), (1, vI (sm (fun c => bI (decide (LT c ≠ 0))) (i + 1))), (2, vI ((i + 1 : Nat) : Int))]) [2, 1, 0] rfl ?_
          exact ih9 (i + 1) (by omega) (by omega)
  refine z_sub (lv' := [(0, .ref (h 0)), (1, vI 0), (2, vI 0)]) [2, 1, 0] rfl ?_
  exact L_4 (144 + 1) 0 (Nat.zero_le _) (by omega)

set_option maxRecDepth 100000 in
theorem inU_X1_X1_isLampAt : ∀ w ∈ u_ws RX1 TX1 11, w ∈ wsX1_isLampAt := by decide +kernel
abbrev rm_X1_isLampAt : Room := { frames := 1, cells := 0, slots := 0, locals := 21 }
set_option maxHeartbeats 4000000 in
set_option maxRecDepth 100000 in
theorem c_X1_isLampAt (l : Launch) (D : va_G) (cI cJ : ClassId) (h : Nat → Nat) (σ : YS) (LT : Nat → Int) (γ : YS) (φ : Nat → Int) (c : Int) (hc : 0 ≤ c ∧ c < 144) (hO : Ok σ) : Ci l yX1_isLampAt wsX1_isLampAt rm_X1_isLampAt D [(cI, .int), (cJ, .long)] [.ref (h 0), vI c] (cw cI h σ LT γ φ) (fun z u => u = (cw cI h σ LT γ φ) ∧ z = bI (anyB (fun k => decide (σ 1 k = c)) (nLa σ))) := by
  refine z_ofz (own := RX1) (cc := cX1_isLampAt) (maxL := 3) (lv := [(0, .ref (h 0)), (1, vI c)]) (by decide) rfl rfl (Nat.le_of_ble_eq_true rfl) rfl ?_
  intro p e s m args below meth cd Q A C hret
  have hn := hO.1
  have hm := hO.2.1
  have en := nLa_e hO
  have em := nWa_e hO
  refine z_iconst C dX1_isLampAt_0 ?_
  refine z_istore_n C [(2, vI 0), (0, .ref (h 0)), (1, vI c)] dX1_isLampAt_1 (by decide) rfl ?_
  have L_2 : ∀ (d9 i : Nat) (hi : i ≤ (nLa σ)) (hd : (nLa σ) + 1 ≤ i + d9) (hs : anyB (fun k => decide (σ 1 k = c)) i = false), Zs p l e rm_X1_isLampAt s m args below meth cd Q A D 3 2 [(0, .ref (h 0)), (1, vI c), (2, vI (i : Int))] [] (cw cI h σ LT γ φ) 0 0 := by
    intro d9
    induction d9 with
    | zero =>
      intro i hi hd hs
      exfalso; omega
    | succ d9 ih9 =>
      intro i hi hd hs
      refine z_iload_n C 2 dX1_isLampAt_2 rfl ?_
      refine z_aload_n C 0 dX1_isLampAt_3 rfl ?_
      refine z_get C (v := vI (σ 4 0)) (ref := "ShadowWalls") (T := TX1) (N := 11) (ci := 1) 0 8 inU_X1_X1_isLampAt rfl rfl (by decide) (by decide +kernel) (fun _ h9 => h9) rfl dX1_isLampAt_4 ?_
      refine z_icmp_ge C (tgt := 27) dX1_isLampAt_7 (by decide) (by omega) (by omega) (fun c_7 => ?_) (fun c_7 => ?_)
      ·
        obtain rfl : i = nLa σ := by omega
        refine z_iconst C dX1_isLampAt_27 ?_
        exact hret _ _ _ _ dX1_isLampAt_28 (Or.inl rfl) ⟨rfl, by first | exact (bI_f hs).symm | exact (bI_t (any_1 (i := i) (by simp; omega) (by omega))).symm⟩
      ·
        refine z_aload_n C 0 dX1_isLampAt_10 rfl ?_
        refine z_iload_n C 2 dX1_isLampAt_11 rfl ?_
        refine z_callVi C (As := [vI (i : Int)]) (st := []) (y := yX1_cellOfLamp) (w := wsX1_cellOfLamp) (rm := rm_X1_cellOfLamp) (wr := []) (k' := 0) (n' := 0) [0, 1, 2, 3, 4, 5, 6, 7, 8] [] 0 (c_X1_cellOfLamp l D cI cJ h σ LT γ φ (i : Int) (by omega)) (cwV 1 C.1.2.2.2.2 gX1_isLampAt_X1_cellOfLamp rfl rfl rfl (by decide +kernel) ⟨Nat.le_of_ble_eq_true rfl, Nat.le_of_ble_eq_true rfl⟩) rfl rfl rfl rfl rfl (by decide) rfl rfl rfl rfl (Nat.le_of_ble_eq_true rfl) rfl rfl ⟨Nat.le_of_ble_eq_true rfl, Nat.le_of_ble_eq_true rfl⟩ dX1_isLampAt_12 ?_
        rintro z_12 _ ⟨rfl, rfl⟩
        refine z_ws (ws' := (cw cI h σ LT γ φ)) rfl ?_
        refine z_st (v' := (σ 1 i)) rfl ?_
        have r_12 := hO.2.2.1 i (by omega)
        refine z_iload_n C 1 dX1_isLampAt_15 rfl ?_
        refine z_icmp_ne C (tgt := 21) dX1_isLampAt_16 (by decide) (by omega) (by omega) (fun c_16 => ?_) (fun c_16 => ?_)
        ·
          refine z_iinc C 2 [(2, vI ((i : Int) + 1)), (0, .ref (h 0)), (1, vI c)] dX1_isLampAt_21 rfl (by decide) rfl ?_
          refine z_goto C (tgt := 2) dX1_isLampAt_24 (by decide) ?_
          refine z_chg 0 (x' := ((i + 1 : Nat) : Int)) (lv' := [(2, vI ((i + 1 : Nat) : Int)), (0, .ref (h 0)), (1, vI c)]) rfl (by omega) rfl ?_
          refine z_sub (lv' := [(0, .ref (h 0)), (1, vI c), (2, vI ((i + 1 : Nat) : Int))]) [1, 2, 0] rfl ?_
          exact ih9 (i + 1) (by omega) (by omega) (any_0 hs (by simp; omega))
        ·
          refine z_iconst C dX1_isLampAt_19 ?_
          exact hret _ _ _ _ dX1_isLampAt_20 (Or.inr rfl) ⟨rfl, by first | exact (bI_f hs).symm | exact (bI_t (any_1 (i := i) (by simp; omega) (by omega))).symm⟩
  refine z_sub (lv' := [(0, .ref (h 0)), (1, vI c), (2, vI 0)]) [1, 2, 0] rfl ?_
  exact L_2 ((nLa σ) + 1) 0 (Nat.zero_le _) (by omega) (rfl)

set_option maxRecDepth 100000 in
theorem inU_X1_X1_isShoneOn : ∀ w ∈ u_ws RX1 TX1 11, w ∈ wsX1_isShoneOn := by decide +kernel
abbrev rm_X1_isShoneOn : Room := { frames := 4, cells := 0, slots := 0, locals := 96 }
set_option maxHeartbeats 4000000 in
set_option maxRecDepth 100000 in
theorem c_X1_isShoneOn (l : Launch) (D : va_G) (cI cJ : ClassId) (h : Nat → Nat) (σ : YS) (LT : Nat → Int) (γ : YS) (φ : Nat → Int) (c : Int) (hc : 0 ≤ c ∧ c < 144) (hO : Ok σ) : Ci l yX1_isShoneOn wsX1_isShoneOn rm_X1_isShoneOn D [(cI, .int), (cJ, .long)] [.ref (h 0), vI c] (cw cI h σ LT γ φ) (fun z u => ∃ φ' : Nat → Int, u = (cw cI h σ LT γ φ') ∧ z = bI (anyB (fun k => litB σ k c.toNat) (nLa σ))) := by
  refine z_ofz (own := RX1) (cc := cX1_isShoneOn) (maxL := 3) (lv := [(0, .ref (h 0)), (1, vI c)]) (by decide) rfl rfl (Nat.le_of_ble_eq_true rfl) rfl ?_
  intro p e s m args below meth cd Q A C hret
  have hn := hO.1
  have hm := hO.2.1
  have en := nLa_e hO
  have em := nWa_e hO
  refine z_iconst C dX1_isShoneOn_0 ?_
  refine z_istore_n C [(2, vI 0), (0, .ref (h 0)), (1, vI c)] dX1_isShoneOn_1 (by decide) rfl ?_
  have L_2 : ∀ (d9 i : Nat) (φ1 : Nat → Int) (hi : i ≤ (nLa σ)) (hd : (nLa σ) + 1 ≤ i + d9) (hs : anyB (fun k => litB σ k c.toNat) i = false), Zs p l e rm_X1_isShoneOn s m args below meth cd Q A D 3 2 [(0, .ref (h 0)), (1, vI c), (2, vI (i : Int))] [] (cw cI h σ LT γ φ1) 0 0 := by
    intro d9
    induction d9 with
    | zero =>
      intro i φ1 hi hd hs
      exfalso; omega
    | succ d9 ih9 =>
      intro i φ1 hi hd hs
      refine z_iload_n C 2 dX1_isShoneOn_2 rfl ?_
      refine z_aload_n C 0 dX1_isShoneOn_3 rfl ?_
      refine z_get C (v := vI (σ 4 0)) (ref := "ShadowWalls") (T := TX1) (N := 11) (ci := 1) 0 8 inU_X1_X1_isShoneOn rfl rfl (by decide) (by decide +kernel) (fun _ h9 => h9) rfl dX1_isShoneOn_4 ?_
      refine z_icmp_ge C (tgt := 27) dX1_isShoneOn_7 (by decide) (by omega) (by omega) (fun c_7 => ?_) (fun c_7 => ?_)
      ·
        obtain rfl : i = nLa σ := by omega
        refine z_iconst C dX1_isShoneOn_27 ?_
        exact hret _ _ _ _ dX1_isShoneOn_28 (Or.inl rfl) ⟨_, rfl, by first | exact (bI_f hs).symm | exact (bI_t (any_1 (i := i) (bz_t hz_13 c_16) (by omega))).symm⟩
      ·
        refine z_aload_n C 0 dX1_isShoneOn_10 rfl ?_
        refine z_iload_n C 2 dX1_isShoneOn_11 rfl ?_
        refine z_iload_n C 1 dX1_isShoneOn_12 rfl ?_
        refine z_callVi C (As := [vI (i : Int), vI c]) (st := []) (y := yX1_shinesOn) (w := wsX1_shinesOn) (rm := rm_X1_shinesOn) (wr := []) (k' := 0) (n' := 0) [0, 1, 2, 3, 4, 5, 6, 7, 8] [] 0 (c_X1_shinesOn l D cI cJ h σ LT γ φ1 (i : Int) c (by omega) (by omega) hO) (cwV 2 C.1.2.2.2.2 gX1_isShoneOn_X1_shinesOn rfl rfl rfl (by decide +kernel) ⟨Nat.le_of_ble_eq_true rfl, Nat.le_of_ble_eq_true rfl⟩) rfl rfl rfl rfl rfl (by decide) rfl rfl rfl rfl (Nat.le_of_ble_eq_true rfl) rfl rfl ⟨Nat.le_of_ble_eq_true rfl, Nat.le_of_ble_eq_true rfl⟩ dX1_isShoneOn_13 ?_
        rintro z_13 _ ⟨φ'_13, rfl, hz_13⟩
        refine z_ws (ws' := (cw cI h σ LT γ φ'_13)) rfl ?_
        have r_13 : z_13 = 0 ∨ z_13 = 1 := by rw [hz_13]; exact bI_01 _
        have hz_13 : z_13 = bI (litB σ i c.toNat) := hz_13
        refine z_if_eq C (tgt := 21) dX1_isShoneOn_16 (by decide) (by omega) (fun c_16 => ?_) (fun c_16 => ?_)
        ·
          refine z_iinc C 2 [(2, vI ((i : Int) + 1)), (0, .ref (h 0)), (1, vI c)] dX1_isShoneOn_21 rfl (by decide) rfl ?_
          refine z_goto C (tgt := 2) dX1_isShoneOn_24 (by decide) ?_
          refine z_chg 0 (x' := ((i + 1 : Nat) : Int)) (lv' := [(2, vI ((i + 1 : Nat) : Int)), (0, .ref (h 0)), (1, vI c)]) rfl (by omega) rfl ?_
          refine z_sub (lv' := [(0, .ref (h 0)), (1, vI c), (2, vI ((i + 1 : Nat) : Int))]) [1, 2, 0] rfl ?_
          exact ih9 (i + 1) φ'_13 (by omega) (by omega) (any_0 hs (bz_f hz_13 c_16))
        ·
          refine z_iconst C dX1_isShoneOn_19 ?_
          exact hret _ _ _ _ dX1_isShoneOn_20 (Or.inr rfl) ⟨_, rfl, by first | exact (bI_f hs).symm | exact (bI_t (any_1 (i := i) (bz_t hz_13 c_16) (by omega))).symm⟩
  refine z_sub (lv' := [(0, .ref (h 0)), (1, vI c), (2, vI 0)]) [1, 2, 0] rfl ?_
  exact L_2 ((nLa σ) + 1) 0 φ (Nat.zero_le _) (by omega) (rfl)

abbrev rm_X1_litCellsAnew : Room := { frames := 5, cells := 0, slots := 0, locals := 118 }
set_option maxHeartbeats 4000000 in
set_option maxRecDepth 100000 in
theorem c_X1_litCellsAnew (l : Launch) (D : va_G) (cI cJ : ClassId) (h : Nat → Nat) (σ : YS) (LT : Nat → Int) (γ : YS) (φ : Nat → Int)  (hO : Ok σ) : Ci l yX1_litCellsAnew wsX1_litCellsAnew rm_X1_litCellsAnew D [(cI, .int), (cJ, .long)] [.ref (h 0)] (cw cI h σ LT γ φ) (fun z u => ∃ φ' : Nat → Int, u = (cw cI h σ LT γ φ') ∧ z = sm (fun c => bI (anyB (fun k => litB σ k c) (nLa σ))) 144) := by
  refine z_ofi (own := RX1) (cc := cX1_litCellsAnew) (maxL := 3) (lv := [(0, .ref (h 0))]) (by decide) rfl rfl (Nat.le_of_ble_eq_true rfl) rfl ?_
  intro p e s m args below meth cd Q A C hret
  have hn := hO.1
  have hm := hO.2.1
  have en := nLa_e hO
  have em := nWa_e hO
  refine z_iconst C dX1_litCellsAnew_0 ?_
  refine z_istore_n C [(1, vI 0), (0, .ref (h 0))] dX1_litCellsAnew_1 (by decide) rfl ?_
  refine z_iconst C dX1_litCellsAnew_2 ?_
  refine z_istore_n C [(2, vI 0), (1, vI 0), (0, .ref (h 0))] dX1_litCellsAnew_3 (by decide) rfl ?_
  have L_4 : ∀ (d9 i : Nat) (φ1 : Nat → Int) (hi : i ≤ 144) (hd : 144 + 1 ≤ i + d9), Zs p l e rm_X1_litCellsAnew s m args below meth cd Q A D 3 4 [(0, .ref (h 0)), (1, vI (sm (fun c => bI (anyB (fun k => litB σ k c) (nLa σ))) i)), (2, vI (i : Int))] [] (cw cI h σ LT γ φ1) 0 0 := by
    intro d9
    induction d9 with
    | zero =>
      intro i φ1 hi hd
      exfalso; omega
    | succ d9 ih9 =>
      intro i φ1 hi hd
      refine z_iload_n C 2 dX1_litCellsAnew_4 rfl ?_
      refine z_sipush C dX1_litCellsAnew_5 (by decide) ?_
      refine z_icmp_ge C (tgt := 28) dX1_litCellsAnew_8 (by decide) (by omega) (by omega) (fun c_8 => ?_) (fun c_8 => ?_)
      ·
        obtain rfl : i = 144 := by omega
        refine z_iload_n C 1 dX1_litCellsAnew_28 rfl ?_
        exact hret _ _ _ _ dX1_litCellsAnew_29 ⟨_, rfl, by rfl⟩
      ·
        refine z_aload_n C 0 dX1_litCellsAnew_11 rfl ?_
        refine z_iload_n C 2 dX1_litCellsAnew_12 rfl ?_
        refine z_callVi C (As := [vI (i : Int)]) (st := []) (y := yX1_isShoneOn) (w := wsX1_isShoneOn) (rm := rm_X1_isShoneOn) (wr := []) (k' := 0) (n' := 0) [0, 1, 2, 3, 4, 5, 6, 7, 8] [] 0 (c_X1_isShoneOn l D cI cJ h σ LT γ φ1 (i : Int) (by omega) hO) (cwV 1 C.1.2.2.2.2 gX1_litCellsAnew_X1_isShoneOn rfl rfl rfl (by decide +kernel) ⟨Nat.le_of_ble_eq_true rfl, Nat.le_of_ble_eq_true rfl⟩) rfl rfl rfl rfl rfl (by decide) rfl rfl rfl rfl (Nat.le_of_ble_eq_true rfl) rfl rfl ⟨Nat.le_of_ble_eq_true rfl, Nat.le_of_ble_eq_true rfl⟩ dX1_litCellsAnew_13 ?_
        rintro z_13 _ ⟨φ'_13, rfl, hz_13⟩
        refine z_ws (ws' := (cw cI h σ LT γ φ'_13)) rfl ?_
        have r_13 : z_13 = 0 ∨ z_13 = 1 := by rw [hz_13]; exact bI_01 _
        have hz_13 : z_13 = bI (anyB (fun k => litB σ k i) (nLa σ)) := hz_13
        refine z_if_eq C (tgt := 22) dX1_litCellsAnew_16 (by decide) (by omega) (fun c_16 => ?_) (fun c_16 => ?_)
        ·
          refine z_iinc C 2 [(2, vI ((i : Int) + 1)), (0, .ref (h 0)), (1, vI (sm (fun c => bI (anyB (fun k => litB σ k c) (nLa σ))) i))] dX1_litCellsAnew_22 rfl (by decide) rfl ?_
          refine z_goto C (tgt := 4) dX1_litCellsAnew_25 (by decide) ?_
          refine z_chg 2 (x' := sm (fun c => bI (anyB (fun k => litB σ k c) (nLa σ))) (i + 1)) (lv' := [(2, vI ((i : Int) + 1)), (0, .ref (h 0)), (1, vI (sm (fun c => bI (anyB (fun k => litB σ k c) (nLa σ))) (i + 1)))]) rfl (by first | exact sm_t (bz_t hz_13 c_16) | exact sm_f (bz_f hz_13 c_16)) rfl ?_
          refine z_chg 0 (x' := ((i + 1 : Nat) : Int)) (lv' := [(2, vI ((i + 1 : Nat) : Int)), (0, .ref (h 0)), (1, vI (sm (fun c => bI (anyB (fun k => litB σ k c) (nLa σ))) (i + 1)))]) rfl (by omega) rfl ?_
          refine z_sub (lv' := [(0, .ref (h 0)), (1, vI (sm (fun c => bI (anyB (fun k => litB σ k c) (nLa σ))) (i + 1))), (2, vI ((i + 1 : Nat) : Int))]) [1, 2, 0] rfl ?_
          exact ih9 (i + 1) φ'_13 (by omega) (by omega)
        ·
          refine z_iinc C 1 [(1, vI ((sm (fun c => bI (anyB (fun k => litB σ k c) (nLa σ))) i) + 1)), (0, .ref (h 0)), (2, vI (i : Int))] dX1_litCellsAnew_19 rfl (by decide) rfl ?_
          refine z_iinc C 2 [(2, vI ((i : Int) + 1)), (1, vI ((sm (fun c => bI (anyB (fun k => litB σ k c) (nLa σ))) i) + 1)), (0, .ref (h 0))] dX1_litCellsAnew_22 rfl (by decide) rfl ?_
          refine z_goto C (tgt := 4) dX1_litCellsAnew_25 (by decide) ?_
          refine z_chg 1 (x' := sm (fun c => bI (anyB (fun k => litB σ k c) (nLa σ))) (i + 1)) (lv' := [(2, vI ((i : Int) + 1)), (1, vI (sm (fun c => bI (anyB (fun k => litB σ k c) (nLa σ))) (i + 1))), (0, .ref (h 0))]) rfl (by first | exact sm_t (bz_t hz_13 c_16) | exact sm_f (bz_f hz_13 c_16)) rfl ?_
          refine z_chg 0 (x' := ((i + 1 : Nat) : Int)) (lv' := [(2, vI ((i + 1 : Nat) : Int)), (1, vI (sm (fun c => bI (anyB (fun k => litB σ k c) (nLa σ))) (i + 1))), (0, .ref (h 0))]) rfl (by omega) rfl ?_
          refine z_sub (lv' := [(0, .ref (h 0)), (1, vI (sm (fun c => bI (anyB (fun k => litB σ k c) (nLa σ))) (i + 1))), (2, vI ((i + 1 : Nat) : Int))]) [2, 1, 0] rfl ?_
          exact ih9 (i + 1) φ'_13 (by omega) (by omega)
  refine z_sub (lv' := [(0, .ref (h 0)), (1, vI 0), (2, vI 0)]) [2, 1, 0] rfl ?_
  exact L_4 (144 + 1) 0 φ (Nat.zero_le _) (by omega)

set_option maxRecDepth 100000 in
theorem inU_X1_X1_shine : ∀ w ∈ u_ws RX1 TX1 11, w ∈ wsX1_shine := by decide +kernel
abbrev rm_X1_shine : Room := { frames := 4, cells := 0, slots := 0, locals := 96 }
set_option maxHeartbeats 4000000 in
set_option maxRecDepth 100000 in
theorem c_X1_shine (l : Launch) (D : va_G) (cI cJ : ClassId) (h : Nat → Nat) (σ : YS) (LT : Nat → Int) (γ : YS) (φ : Nat → Int) (k : Int) (hk : 0 ≤ k ∧ k < σ 4 0) (hO : Ok σ) (hL : LR LT) : Cv l yX1_shine wsX1_shine rm_X1_shine D [(cI, .int), (cJ, .long)] [.ref (h 0), vI k] (cw cI h σ LT γ φ) (fun u => ∃ φ' : Nat → Int, u = (cw cI h σ (shL σ LT k.toNat 144) γ φ')) := by
  refine z_ofv (own := RX1) (cc := cX1_shine) (maxL := 4) (lv := [(0, .ref (h 0)), (1, vI k)]) (by decide) rfl rfl (Nat.le_of_ble_eq_true rfl) rfl ?_
  intro p e s m args below meth cd Q A C hret
  have hn := hO.1
  have hm := hO.2.1
  have en := nLa_e hO
  have em := nWa_e hO
  have hp := pow_e (k := k) (by omega)
  refine z_iconst C dX1_shine_0 ?_
  refine z_iload_n C 1 dX1_shine_1 rfl ?_
  refine z_ishl C (r := 2 ^ k.toNat) dX1_shine_2 ((bits4_e (a := 0) (k := k) (by omega) (by omega)).1) ?_
  refine z_istore_n C [(2, vI (2 ^ k.toNat)), (0, .ref (h 0)), (1, vI k)] dX1_shine_3 (by decide) rfl ?_
  refine z_iconst C dX1_shine_4 ?_
  refine z_istore_n C [(3, vI 0), (2, vI (2 ^ k.toNat)), (0, .ref (h 0)), (1, vI k)] dX1_shine_5 (by decide) rfl ?_
  have L_6 : ∀ (d9 i : Nat) (φ1 : Nat → Int) (hi : i ≤ 144) (hd : 144 + 1 ≤ i + d9), Zs p l e rm_X1_shine s m args below meth cd Q A D 4 6 [(0, .ref (h 0)), (1, vI k), (2, vI (2 ^ k.toNat)), (3, vI (i : Int))] [] (cw cI h σ (shL σ LT k.toNat i) γ φ1) 0 0 := by
    intro d9
    induction d9 with
    | zero =>
      intro i φ1 hi hd
      exfalso; omega
    | succ d9 ih9 =>
      intro i φ1 hi hd
      refine z_iload_n C 3 dX1_shine_6 rfl ?_
      refine z_aload_n C 0 dX1_shine_7 rfl ?_
      refine z_get C (v := .ref (h 5)) (ref := "ShadowWalls") (T := TX1) (N := 11) (ci := 1) 0 4 inU_X1_X1_shine rfl rfl (by decide) (by decide +kernel) (fun _ h9 => h9) rfl dX1_shine_8 ?_
      refine z_alen C (v := 144) (cA := cI) (ty := .int) 5 0 rfl rfl rfl dX1_shine_11 ?_
      refine z_icmp_ge C (tgt := 57) dX1_shine_12 (by decide) (by omega) (by omega) (fun c_12 => ?_) (fun c_12 => ?_)
      ·
        obtain rfl : i = 144 := by omega
        exact hret _ _ _ dX1_shine_57 ⟨_, rfl⟩
      ·
        refine z_aload_n C 0 dX1_shine_15 rfl ?_
        refine z_get C (v := .ref (h 5)) (ref := "ShadowWalls") (T := TX1) (N := 11) (ci := 1) 0 4 inU_X1_X1_shine rfl rfl (by decide) (by decide +kernel) (fun _ h9 => h9) rfl dX1_shine_16 ?_
        refine z_iload_n C 3 dX1_shine_19 rfl ?_
        refine z_aload_n C 0 dX1_shine_20 rfl ?_
        refine z_iload_n C 1 dX1_shine_21 rfl ?_
        refine z_iload_n C 3 dX1_shine_22 rfl ?_
        refine z_callVi C (As := [vI k, vI (i : Int)]) (st := [vI (i : Int), .ref (h 5)]) (y := yX1_shinesOn) (w := wsX1_shinesOn) (rm := rm_X1_shinesOn) (wr := []) (k' := 0) (n' := 0) [0, 1, 2, 3, 4, 5, 6, 7, 8] [] 0 (c_X1_shinesOn l D cI cJ h σ (shL σ LT k.toNat i) γ φ1 k (i : Int) (by omega) (by omega) hO) (cwV 2 C.1.2.2.2.2 gX1_shine_X1_shinesOn rfl rfl rfl (by decide +kernel) ⟨Nat.le_of_ble_eq_true rfl, Nat.le_of_ble_eq_true rfl⟩) rfl rfl rfl rfl rfl (by decide) rfl rfl rfl rfl (Nat.le_of_ble_eq_true rfl) rfl rfl ⟨Nat.le_of_ble_eq_true rfl, Nat.le_of_ble_eq_true rfl⟩ dX1_shine_23 ?_
        rintro z_23 _ ⟨φ'_23, rfl, hz_23⟩
        refine z_ws (ws' := (cw cI h σ ((shL σ LT k.toNat i)) γ φ'_23)) rfl ?_
        have r_23 : z_23 = 0 ∨ z_23 = 1 := by rw [hz_23]; exact bI_01 _
        have hz_23 : z_23 = bI (litB σ k.toNat i) := hz_23
        refine z_if_eq C (tgt := 40) dX1_shine_26 (by decide) (by omega) (fun c_26 => ?_) (fun c_26 => ?_)
        ·
          refine z_aload_n C 0 dX1_shine_40 rfl ?_
          refine z_get C (v := .ref (h 5)) (ref := "ShadowWalls") (T := TX1) (N := 11) (ci := 1) 0 4 inU_X1_X1_shine rfl rfl (by decide) (by decide +kernel) (fun _ h9 => h9) rfl dX1_shine_41 ?_
          refine z_iload_n C 3 dX1_shine_44 rfl ?_
          refine z_iald C (cA := cI) (N := 144) (f := (shL σ LT k.toNat i)) 5 0 rfl rfl (by decide) (by omega) dX1_shine_45 ?_
          refine z_st (v' := (shL σ LT k.toNat i) i) rfl ?_
          have b_48 := bits4_e (a := shL σ LT k.toNat i i) (k := k) (by rw [shL_i]; exact hL i) (by omega)
          refine z_iload_n C 2 dX1_shine_46 rfl ?_
          refine z_iconst C dX1_shine_47 ?_
          refine z_ixor C (r := -1 - 2 ^ k.toNat) dX1_shine_48 (b_48.2.1) ?_
          refine z_iand C (r := bcl ((shL σ LT k.toNat i) i) (2 ^ k.toNat)) dX1_shine_49 (b_48.2.2.1) ?_
          have hv_50 : fU (shL σ LT k.toNat i) i (bcl ((shL σ LT k.toNat i) i) (2 ^ k.toNat)) = shL σ LT k.toNat (i + 1) := shL_s (by rw [shL_i]; first | (rw [if_pos (bz_t hz_23 c_26)]; done) | (rw [if_neg (by rw [bz_f hz_23 c_26]; decide)]; done))
          refine z_iast C (cA := cI) (N := 144) (f := (shL σ LT k.toNat i)) (ws' := (cw cI h σ (fU (shL σ LT k.toNat i) i (bcl ((shL σ LT k.toNat i) i) (2 ^ k.toNat))) γ φ'_23)) 5 0 rfl rfl (by decide) (by omega) rfl dX1_shine_50 ?_
          refine z_iinc C 3 [(3, vI ((i : Int) + 1)), (0, .ref (h 0)), (1, vI k), (2, vI (2 ^ k.toNat))] dX1_shine_51 rfl (by decide) rfl ?_
          refine z_goto C (tgt := 6) dX1_shine_54 (by decide) ?_
          refine z_chg 0 (x' := ((i + 1 : Nat) : Int)) (lv' := [(3, vI ((i + 1 : Nat) : Int)), (0, .ref (h 0)), (1, vI k), (2, vI (2 ^ k.toNat))]) rfl (by omega) rfl ?_
          refine z_sub (lv' := [(0, .ref (h 0)), (1, vI k), (2, vI (2 ^ k.toNat)), (3, vI ((i + 1 : Nat) : Int))]) [1, 2, 3, 0] rfl ?_
          refine z_ws (ws' := (cw cI h σ (shL σ LT k.toNat (i + 1)) γ φ'_23)) (by rw [hv_50]) ?_
          exact ih9 (i + 1) φ'_23 (by omega) (by omega)
        ·
          refine z_aload_n C 0 dX1_shine_29 rfl ?_
          refine z_get C (v := .ref (h 5)) (ref := "ShadowWalls") (T := TX1) (N := 11) (ci := 1) 0 4 inU_X1_X1_shine rfl rfl (by decide) (by decide +kernel) (fun _ h9 => h9) rfl dX1_shine_30 ?_
          refine z_iload_n C 3 dX1_shine_33 rfl ?_
          refine z_iald C (cA := cI) (N := 144) (f := (shL σ LT k.toNat i)) 5 0 rfl rfl (by decide) (by omega) dX1_shine_34 ?_
          refine z_st (v' := (shL σ LT k.toNat i) i) rfl ?_
          have b_36 := bits_e (a := shL σ LT k.toNat i i) (b := 2 ^ k.toNat) (by rw [shL_i]; exact hL i) (by omega)
          refine z_iload_n C 2 dX1_shine_35 rfl ?_
          refine z_ior C (r := bor ((shL σ LT k.toNat i) i) (2 ^ k.toNat)) dX1_shine_36 (b_36.1.2) ?_
          refine z_goto C (tgt := 50) dX1_shine_37 (by decide) ?_
          have hv_50 : fU (shL σ LT k.toNat i) i (bor ((shL σ LT k.toNat i) i) (2 ^ k.toNat)) = shL σ LT k.toNat (i + 1) := shL_s (by rw [shL_i]; first | (rw [if_pos (bz_t hz_23 c_26)]; done) | (rw [if_neg (by rw [bz_f hz_23 c_26]; decide)]; done))
          refine z_iast C (cA := cI) (N := 144) (f := (shL σ LT k.toNat i)) (ws' := (cw cI h σ (fU (shL σ LT k.toNat i) i (bor ((shL σ LT k.toNat i) i) (2 ^ k.toNat))) γ φ'_23)) 5 0 rfl rfl (by decide) (by omega) rfl dX1_shine_50 ?_
          refine z_iinc C 3 [(3, vI ((i : Int) + 1)), (0, .ref (h 0)), (1, vI k), (2, vI (2 ^ k.toNat))] dX1_shine_51 rfl (by decide) rfl ?_
          refine z_goto C (tgt := 6) dX1_shine_54 (by decide) ?_
          refine z_chg 0 (x' := ((i + 1 : Nat) : Int)) (lv' := [(3, vI ((i + 1 : Nat) : Int)), (0, .ref (h 0)), (1, vI k), (2, vI (2 ^ k.toNat))]) rfl (by omega) rfl ?_
          refine z_sub (lv' := [(0, .ref (h 0)), (1, vI k), (2, vI (2 ^ k.toNat)), (3, vI ((i + 1 : Nat) : Int))]) [1, 2, 3, 0] rfl ?_
          refine z_ws (ws' := (cw cI h σ (shL σ LT k.toNat (i + 1)) γ φ'_23)) (by rw [hv_50]) ?_
          exact ih9 (i + 1) φ'_23 (by omega) (by omega)
  refine z_sub (lv' := [(0, .ref (h 0)), (1, vI k), (2, vI (2 ^ k.toNat)), (3, vI 0)]) [2, 3, 1, 0] rfl ?_
  refine z_ws (ws' := (cw cI h σ (shL σ LT k.toNat 0) γ φ)) (by rw [shL_0]) ?_
  exact L_6 (144 + 1) 0 φ (Nat.zero_le _) (by omega)

set_option maxRecDepth 100000 in
theorem inU_X1_X1_shineAll : ∀ w ∈ u_ws RX1 TX1 11, w ∈ wsX1_shineAll := by decide +kernel
abbrev rm_X1_shineAll : Room := { frames := 5, cells := 0, slots := 0, locals := 119 }
set_option maxHeartbeats 4000000 in
set_option maxRecDepth 100000 in
theorem c_X1_shineAll (l : Launch) (D : va_G) (cI cJ : ClassId) (h : Nat → Nat) (σ : YS) (LT : Nat → Int) (γ : YS) (φ : Nat → Int)  (hO : Ok σ) (hL : LR LT) : Cv l yX1_shineAll wsX1_shineAll rm_X1_shineAll D [(cI, .int), (cJ, .long)] [.ref (h 0)] (cw cI h σ LT γ φ) (fun u => ∃ φ' : Nat → Int, u = (cw cI h σ (shA σ LT (nLa σ)) γ φ')) := by
  refine z_ofv (own := RX1) (cc := cX1_shineAll) (maxL := 2) (lv := [(0, .ref (h 0))]) (by decide) rfl rfl (Nat.le_of_ble_eq_true rfl) rfl ?_
  intro p e s m args below meth cd Q A C hret
  have hn := hO.1
  have hm := hO.2.1
  have en := nLa_e hO
  have em := nWa_e hO
  refine z_iconst C dX1_shineAll_0 ?_
  refine z_istore_n C [(1, vI 0), (0, .ref (h 0))] dX1_shineAll_1 (by decide) rfl ?_
  have L_2 : ∀ (d9 i : Nat) (φ1 : Nat → Int) (hi : i ≤ (nLa σ)) (hd : (nLa σ) + 1 ≤ i + d9), Zs p l e rm_X1_shineAll s m args below meth cd Q A D 2 2 [(0, .ref (h 0)), (1, vI (i : Int))] [] (cw cI h σ (shA σ LT i) γ φ1) 0 0 := by
    intro d9
    induction d9 with
    | zero =>
      intro i φ1 hi hd
      exfalso; omega
    | succ d9 ih9 =>
      intro i φ1 hi hd
      refine z_iload_n C 1 dX1_shineAll_2 rfl ?_
      refine z_aload_n C 0 dX1_shineAll_3 rfl ?_
      refine z_get C (v := vI (σ 4 0)) (ref := "ShadowWalls") (T := TX1) (N := 11) (ci := 1) 0 8 inU_X1_X1_shineAll rfl rfl (by decide) (by decide +kernel) (fun _ h9 => h9) rfl dX1_shineAll_4 ?_
      refine z_icmp_ge C (tgt := 21) dX1_shineAll_7 (by decide) (by omega) (by omega) (fun c_7 => ?_) (fun c_7 => ?_)
      ·
        obtain rfl : i = nLa σ := by omega
        exact hret _ _ _ dX1_shineAll_21 ⟨_, rfl⟩
      ·
        refine z_aload_n C 0 dX1_shineAll_10 rfl ?_
        refine z_iload_n C 1 dX1_shineAll_11 rfl ?_
        refine z_callVv C (As := [vI (i : Int)]) (st := []) (y := yX1_shine) (w := wsX1_shine) (rm := rm_X1_shine) (wr := []) (k' := 0) (n' := 0) [0, 1, 2, 3, 4, 5, 6, 7, 8] [] 0 (c_X1_shine l D cI cJ h σ (shA σ LT i) γ φ1 (i : Int) (by omega) hO (LR_shA hL i (by omega))) (cwV 1 C.1.2.2.2.2 gX1_shineAll_X1_shine rfl rfl rfl (by decide +kernel) ⟨Nat.le_of_ble_eq_true rfl, Nat.le_of_ble_eq_true rfl⟩) rfl rfl rfl rfl rfl (by decide) rfl rfl rfl rfl (Nat.le_of_ble_eq_true rfl) rfl rfl ⟨Nat.le_of_ble_eq_true rfl, Nat.le_of_ble_eq_true rfl⟩ dX1_shineAll_12 ?_
        rintro _ ⟨φ'_12, rfl⟩
        refine z_ws (ws' := (cw cI h σ (shL σ (shA σ LT i) i 144) γ φ'_12)) rfl ?_
        refine z_iinc C 1 [(1, vI ((i : Int) + 1)), (0, .ref (h 0))] dX1_shineAll_15 rfl (by decide) rfl ?_
        refine z_goto C (tgt := 2) dX1_shineAll_18 (by decide) ?_
        refine z_chg 0 (x' := ((i + 1 : Nat) : Int)) (lv' := [(1, vI ((i + 1 : Nat) : Int)), (0, .ref (h 0))]) rfl (by omega) rfl ?_
        refine z_sub (lv' := [(0, .ref (h 0)), (1, vI ((i + 1 : Nat) : Int))]) [1, 0] rfl ?_
        refine z_ws (ws' := (cw cI h σ (shA σ LT (i + 1)) γ φ'_12)) (rfl) ?_
        exact ih9 (i + 1) φ'_12 (by omega) (by omega)
  refine z_sub (lv' := [(0, .ref (h 0)), (1, vI 0)]) [1, 0] rfl ?_
  refine z_ws (ws' := (cw cI h σ (shA σ LT 0) γ φ)) (rfl) ?_
  exact L_2 ((nLa σ) + 1) 0 φ (Nat.zero_le _) (by omega)

abbrev rm_X1_cellsLitBy : Room := { frames := 1, cells := 0, slots := 0, locals := 21 }
set_option maxHeartbeats 4000000 in
set_option maxRecDepth 100000 in
theorem c_X1_cellsLitBy (l : Launch) (D : va_G) (cI cJ : ClassId) (h : Nat → Nat) (σ : YS) (LT : Nat → Int) (γ : YS) (φ : Nat → Int) (k : Int) (hk : 0 ≤ k ∧ k < 4) (hL : LR LT) : Ci l yX1_cellsLitBy wsX1_cellsLitBy rm_X1_cellsLitBy D [(cI, .int), (cJ, .long)] [.ref (h 0), vI k] (cw cI h σ LT γ φ) (fun z u => u = (cw cI h σ LT γ φ) ∧ z = sm (fun c => bI (bt (LT c) k.toNat)) 144) := by
  refine z_ofi (own := RX1) (cc := cX1_cellsLitBy) (maxL := 4) (lv := [(0, .ref (h 0)), (1, vI k)]) (by decide) rfl rfl (Nat.le_of_ble_eq_true rfl) rfl ?_
  intro p e s m args below meth cd Q A C hret
  refine z_iconst C dX1_cellsLitBy_0 ?_
  refine z_istore_n C [(2, vI 0), (0, .ref (h 0)), (1, vI k)] dX1_cellsLitBy_1 (by decide) rfl ?_
  refine z_iconst C dX1_cellsLitBy_2 ?_
  refine z_istore_n C [(3, vI 0), (2, vI 0), (0, .ref (h 0)), (1, vI k)] dX1_cellsLitBy_3 (by decide) rfl ?_
  have L_4 : ∀ (d9 i : Nat) (hi : i ≤ 144) (hd : 144 + 1 ≤ i + d9), Zs p l e rm_X1_cellsLitBy s m args below meth cd Q A D 4 4 [(0, .ref (h 0)), (1, vI k), (2, vI (sm (fun c => bI (bt (LT c) k.toNat)) i)), (3, vI (i : Int))] [] (cw cI h σ LT γ φ) 0 0 := by
    intro d9
    induction d9 with
    | zero =>
      intro i hi hd
      exfalso; omega
    | succ d9 ih9 =>
      intro i hi hd
      refine z_iload_n C 3 dX1_cellsLitBy_4 rfl ?_
      refine z_sipush C dX1_cellsLitBy_5 (by decide) ?_
      refine z_icmp_ge C (tgt := 32) dX1_cellsLitBy_8 (by decide) (by omega) (by omega) (fun c_8 => ?_) (fun c_8 => ?_)
      ·
        obtain rfl : i = 144 := by omega
        refine z_iload_n C 2 dX1_cellsLitBy_32 rfl ?_
        exact hret _ _ _ _ dX1_cellsLitBy_33 ⟨rfl, by rfl⟩
      ·
        refine z_aload_n C 0 dX1_cellsLitBy_11 rfl ?_
        refine z_iload_n C 3 dX1_cellsLitBy_12 rfl ?_
        refine z_callVi C (As := [vI (i : Int)]) (st := []) (y := yX1_lampsOn) (w := wsX1_lampsOn) (rm := rm_X1_lampsOn) (wr := []) (k' := 0) (n' := 0) [0, 1, 2, 3, 4, 5, 6, 7, 8] [] 0 (c_X1_lampsOn l D cI cJ h σ LT γ φ (i : Int) (by omega)) (cwV 1 C.1.2.2.2.2 gX1_cellsLitBy_X1_lampsOn rfl rfl rfl (by decide +kernel) ⟨Nat.le_of_ble_eq_true rfl, Nat.le_of_ble_eq_true rfl⟩) rfl rfl rfl rfl rfl (by decide) rfl rfl rfl rfl (Nat.le_of_ble_eq_true rfl) rfl rfl ⟨Nat.le_of_ble_eq_true rfl, Nat.le_of_ble_eq_true rfl⟩ dX1_cellsLitBy_13 ?_
        rintro z_13 _ ⟨rfl, rfl⟩
        refine z_ws (ws' := (cw cI h σ LT γ φ)) rfl ?_
        refine z_st (v' := (LT i)) rfl ?_
        have b_18 := bits4_e (a := LT i) (k := k) (hL i) (by omega)
        have hp := pow_e (k := k) (by omega)
        have b_19 := bits_e (a := LT i) (b := 2 ^ k.toNat) (hL i) (by omega)
        have r_L := hL i
        refine z_iconst C dX1_cellsLitBy_16 ?_
        refine z_iload_n C 1 dX1_cellsLitBy_17 rfl ?_
        refine z_ishl C (r := 2 ^ k.toNat) dX1_cellsLitBy_18 (b_18.1) ?_
        refine z_iand C (r := band (LT i) (2 ^ k.toNat)) dX1_cellsLitBy_19 ((bits_e (hL i) (by omega)).1.1) ?_
        refine z_if_eq C (tgt := 26) dX1_cellsLitBy_20 (by decide) (by omega) (fun c_20 => ?_) (fun c_20 => ?_)
        ·
          refine z_iinc C 3 [(3, vI ((i : Int) + 1)), (0, .ref (h 0)), (1, vI k), (2, vI (sm (fun c => bI (bt (LT c) k.toNat)) i))] dX1_cellsLitBy_26 rfl (by decide) rfl ?_
          refine z_goto C (tgt := 4) dX1_cellsLitBy_29 (by decide) ?_
          refine z_chg 3 (x' := sm (fun c => bI (bt (LT c) k.toNat)) (i + 1)) (lv' := [(3, vI ((i : Int) + 1)), (0, .ref (h 0)), (1, vI k), (2, vI (sm (fun c => bI (bt (LT c) k.toNat)) (i + 1)))]) rfl (by first | exact sm_t (b_18.2.2.2.1.mp c_20) | exact sm_f (Bool.eq_false_iff.mpr (fun q => b_18.2.2.2.1.mpr q c_20))) rfl ?_
          refine z_chg 0 (x' := ((i + 1 : Nat) : Int)) (lv' := [(3, vI ((i + 1 : Nat) : Int)), (0, .ref (h 0)), (1, vI k), (2, vI (sm (fun c => bI (bt (LT c) k.toNat)) (i + 1)))]) rfl (by omega) rfl ?_
          refine z_sub (lv' := [(0, .ref (h 0)), (1, vI k), (2, vI (sm (fun c => bI (bt (LT c) k.toNat)) (i + 1))), (3, vI ((i + 1 : Nat) : Int))]) [1, 2, 3, 0] rfl ?_
          exact ih9 (i + 1) (by omega) (by omega)
        ·
          refine z_iinc C 2 [(2, vI ((sm (fun c => bI (bt (LT c) k.toNat)) i) + 1)), (0, .ref (h 0)), (1, vI k), (3, vI (i : Int))] dX1_cellsLitBy_23 rfl (by decide) rfl ?_
          refine z_iinc C 3 [(3, vI ((i : Int) + 1)), (2, vI ((sm (fun c => bI (bt (LT c) k.toNat)) i) + 1)), (0, .ref (h 0)), (1, vI k)] dX1_cellsLitBy_26 rfl (by decide) rfl ?_
          refine z_goto C (tgt := 4) dX1_cellsLitBy_29 (by decide) ?_
          refine z_chg 1 (x' := sm (fun c => bI (bt (LT c) k.toNat)) (i + 1)) (lv' := [(3, vI ((i : Int) + 1)), (2, vI (sm (fun c => bI (bt (LT c) k.toNat)) (i + 1))), (0, .ref (h 0)), (1, vI k)]) rfl (by first | exact sm_t (b_18.2.2.2.1.mp c_20) | exact sm_f (Bool.eq_false_iff.mpr (fun q => b_18.2.2.2.1.mpr q c_20))) rfl ?_
          refine z_chg 0 (x' := ((i + 1 : Nat) : Int)) (lv' := [(3, vI ((i + 1 : Nat) : Int)), (2, vI (sm (fun c => bI (bt (LT c) k.toNat)) (i + 1))), (0, .ref (h 0)), (1, vI k)]) rfl (by omega) rfl ?_
          refine z_sub (lv' := [(0, .ref (h 0)), (1, vI k), (2, vI (sm (fun c => bI (bt (LT c) k.toNat)) (i + 1))), (3, vI ((i + 1 : Nat) : Int))]) [2, 3, 1, 0] rfl ?_
          exact ih9 (i + 1) (by omega) (by omega)
  refine z_sub (lv' := [(0, .ref (h 0)), (1, vI k), (2, vI 0), (3, vI 0)]) [2, 3, 1, 0] rfl ?_
  exact L_4 (144 + 1) 0 (Nat.zero_le _) (by omega)

abbrev rm_X1_cellsLitOnlyBy : Room := { frames := 1, cells := 0, slots := 0, locals := 21 }
set_option maxHeartbeats 4000000 in
set_option maxRecDepth 100000 in
theorem c_X1_cellsLitOnlyBy (l : Launch) (D : va_G) (cI cJ : ClassId) (h : Nat → Nat) (σ : YS) (LT : Nat → Int) (γ : YS) (φ : Nat → Int) (k : Int) (hk : 0 ≤ k ∧ k < 4) (hL : LR LT) : Ci l yX1_cellsLitOnlyBy wsX1_cellsLitOnlyBy rm_X1_cellsLitOnlyBy D [(cI, .int), (cJ, .long)] [.ref (h 0), vI k] (cw cI h σ LT γ φ) (fun z u => u = (cw cI h σ LT γ φ) ∧ z = sm (fun c => bI (decide (LT c = 2 ^ k.toNat))) 144) := by
  refine z_ofi (own := RX1) (cc := cX1_cellsLitOnlyBy) (maxL := 4) (lv := [(0, .ref (h 0)), (1, vI k)]) (by decide) rfl rfl (Nat.le_of_ble_eq_true rfl) rfl ?_
  intro p e s m args below meth cd Q A C hret
  refine z_iconst C dX1_cellsLitOnlyBy_0 ?_
  refine z_istore_n C [(2, vI 0), (0, .ref (h 0)), (1, vI k)] dX1_cellsLitOnlyBy_1 (by decide) rfl ?_
  refine z_iconst C dX1_cellsLitOnlyBy_2 ?_
  refine z_istore_n C [(3, vI 0), (2, vI 0), (0, .ref (h 0)), (1, vI k)] dX1_cellsLitOnlyBy_3 (by decide) rfl ?_
  have L_4 : ∀ (d9 i : Nat) (hi : i ≤ 144) (hd : 144 + 1 ≤ i + d9), Zs p l e rm_X1_cellsLitOnlyBy s m args below meth cd Q A D 4 4 [(0, .ref (h 0)), (1, vI k), (2, vI (sm (fun c => bI (decide (LT c = 2 ^ k.toNat))) i)), (3, vI (i : Int))] [] (cw cI h σ LT γ φ) 0 0 := by
    intro d9
    induction d9 with
    | zero =>
      intro i hi hd
      exfalso; omega
    | succ d9 ih9 =>
      intro i hi hd
      refine z_iload_n C 3 dX1_cellsLitOnlyBy_4 rfl ?_
      refine z_sipush C dX1_cellsLitOnlyBy_5 (by decide) ?_
      refine z_icmp_ge C (tgt := 31) dX1_cellsLitOnlyBy_8 (by decide) (by omega) (by omega) (fun c_8 => ?_) (fun c_8 => ?_)
      ·
        obtain rfl : i = 144 := by omega
        refine z_iload_n C 2 dX1_cellsLitOnlyBy_31 rfl ?_
        exact hret _ _ _ _ dX1_cellsLitOnlyBy_32 ⟨rfl, by rfl⟩
      ·
        refine z_aload_n C 0 dX1_cellsLitOnlyBy_11 rfl ?_
        refine z_iload_n C 3 dX1_cellsLitOnlyBy_12 rfl ?_
        refine z_callVi C (As := [vI (i : Int)]) (st := []) (y := yX1_lampsOn) (w := wsX1_lampsOn) (rm := rm_X1_lampsOn) (wr := []) (k' := 0) (n' := 0) [0, 1, 2, 3, 4, 5, 6, 7, 8] [] 0 (c_X1_lampsOn l D cI cJ h σ LT γ φ (i : Int) (by omega)) (cwV 1 C.1.2.2.2.2 gX1_cellsLitOnlyBy_X1_lampsOn rfl rfl rfl (by decide +kernel) ⟨Nat.le_of_ble_eq_true rfl, Nat.le_of_ble_eq_true rfl⟩) rfl rfl rfl rfl rfl (by decide) rfl rfl rfl rfl (Nat.le_of_ble_eq_true rfl) rfl rfl ⟨Nat.le_of_ble_eq_true rfl, Nat.le_of_ble_eq_true rfl⟩ dX1_cellsLitOnlyBy_13 ?_
        rintro z_13 _ ⟨rfl, rfl⟩
        refine z_ws (ws' := (cw cI h σ LT γ φ)) rfl ?_
        refine z_st (v' := (LT i)) rfl ?_
        have b_18 := bits4_e (a := LT i) (k := k) (hL i) (by omega)
        have hp := pow_e (k := k) (by omega)
        have r_13 := hL i
        refine z_iconst C dX1_cellsLitOnlyBy_16 ?_
        refine z_iload_n C 1 dX1_cellsLitOnlyBy_17 rfl ?_
        refine z_ishl C (r := 2 ^ k.toNat) dX1_cellsLitOnlyBy_18 (b_18.1) ?_
        refine z_icmp_ne C (tgt := 25) dX1_cellsLitOnlyBy_19 (by decide) (by omega) (by omega) (fun c_19 => ?_) (fun c_19 => ?_)
        ·
          refine z_iinc C 3 [(3, vI ((i : Int) + 1)), (0, .ref (h 0)), (1, vI k), (2, vI (sm (fun c => bI (decide (LT c = 2 ^ k.toNat))) i))] dX1_cellsLitOnlyBy_25 rfl (by decide) rfl ?_
          refine z_goto C (tgt := 4) dX1_cellsLitOnlyBy_28 (by decide) ?_
          refine z_chg 3 (x' := sm (fun c => bI (decide (LT c = 2 ^ k.toNat))) (i + 1)) (lv' := [(3, vI ((i : Int) + 1)), (0, .ref (h 0)), (1, vI k), (2, vI (sm (fun c => bI (decide (LT c = 2 ^ k.toNat))) (i + 1)))]) rfl (by first | exact sm_t (decide_eq_true c_19) | exact sm_f (decide_eq_false c_19)) rfl ?_
          refine z_chg 0 (x' := ((i + 1 : Nat) : Int)) (lv' := [(3, vI ((i + 1 : Nat) : Int)), (0, .ref (h 0)), (1, vI k), (2, vI (sm (fun c => bI (decide (LT c = 2 ^ k.toNat))) (i + 1)))]) rfl (by omega) rfl ?_
          refine z_sub (lv' := [(0, .ref (h 0)), (1, vI k), (2, vI (sm (fun c => bI (decide (LT c = 2 ^ k.toNat))) (i + 1))), (3, vI ((i + 1 : Nat) : Int))]) [1, 2, 3, 0] rfl ?_
          exact ih9 (i + 1) (by omega) (by omega)
        ·
          refine z_iinc C 2 [(2, vI ((sm (fun c => bI (decide (LT c = 2 ^ k.toNat))) i) + 1)), (0, .ref (h 0)), (1, vI k), (3, vI (i : Int))] dX1_cellsLitOnlyBy_22 rfl (by decide) rfl ?_
          refine z_iinc C 3 [(3, vI ((i : Int) + 1)), (2, vI ((sm (fun c => bI (decide (LT c = 2 ^ k.toNat))) i) + 1)), (0, .ref (h 0)), (1, vI k)] dX1_cellsLitOnlyBy_25 rfl (by decide) rfl ?_
          refine z_goto C (tgt := 4) dX1_cellsLitOnlyBy_28 (by decide) ?_
          refine z_chg 1 (x' := sm (fun c => bI (decide (LT c = 2 ^ k.toNat))) (i + 1)) (lv' := [(3, vI ((i : Int) + 1)), (2, vI (sm (fun c => bI (decide (LT c = 2 ^ k.toNat))) (i + 1))), (0, .ref (h 0)), (1, vI k)]) rfl (by first | exact sm_t (decide_eq_true c_19) | exact sm_f (decide_eq_false c_19)) rfl ?_
          refine z_chg 0 (x' := ((i + 1 : Nat) : Int)) (lv' := [(3, vI ((i + 1 : Nat) : Int)), (2, vI (sm (fun c => bI (decide (LT c = 2 ^ k.toNat))) (i + 1))), (0, .ref (h 0)), (1, vI k)]) rfl (by omega) rfl ?_
          refine z_sub (lv' := [(0, .ref (h 0)), (1, vI k), (2, vI (sm (fun c => bI (decide (LT c = 2 ^ k.toNat))) (i + 1))), (3, vI ((i + 1 : Nat) : Int))]) [2, 3, 1, 0] rfl ?_
          exact ih9 (i + 1) (by omega) (by omega)
  refine z_sub (lv' := [(0, .ref (h 0)), (1, vI k), (2, vI 0), (3, vI 0)]) [2, 3, 1, 0] rfl ?_
  exact L_4 (144 + 1) 0 (Nat.zero_le _) (by omega)

set_option maxRecDepth 100000 in
theorem inU_X1_X1_brightness : ∀ w ∈ u_ws RX1 TX1 11, w ∈ wsX1_brightness := by decide +kernel
abbrev rm_X1_brightness : Room := { frames := 1, cells := 0, slots := 0, locals := 24 }
set_option maxHeartbeats 4000000 in
set_option maxRecDepth 100000 in
theorem c_X1_brightness (l : Launch) (D : va_G) (cI cJ : ClassId) (h : Nat → Nat) (σ : YS) (LT : Nat → Int) (γ : YS) (φ : Nat → Int) (c : Int) (hc : 0 ≤ c ∧ c < 144) (hO : Ok σ) (hL : LR LT) : Ci l yX1_brightness wsX1_brightness rm_X1_brightness D [(cI, .int), (cJ, .long)] [.ref (h 0), vI c] (cw cI h σ LT γ φ) (fun z u => u = (cw cI h σ LT γ φ) ∧ z = brC σ LT c.toNat) := by
  refine z_ofi (own := RX1) (cc := cX1_brightness) (maxL := 7) (lv := [(0, .ref (h 0)), (1, vI c)]) (by decide) rfl rfl (Nat.le_of_ble_eq_true rfl) rfl ?_
  intro p e s m args below meth cd Q A C hret
  have hn := hO.1
  have hm := hO.2.1
  have en := nLa_e hO
  have em := nWa_e hO
  have ec : ((c.toNat : Nat) : Int) = c := Int.toNat_of_nonneg hc.1
  refine z_iconst C dX1_brightness_0 ?_
  refine z_istore_n C [(2, vI 0), (0, .ref (h 0)), (1, vI c)] dX1_brightness_1 (by decide) rfl ?_
  refine z_iconst C dX1_brightness_2 ?_
  refine z_istore_n C [(3, vI 0), (2, vI 0), (0, .ref (h 0)), (1, vI c)] dX1_brightness_3 (by decide) rfl ?_
  have L_4 : ∀ (d9 i : Nat) (hi : i ≤ (nLa σ)) (hd : (nLa σ) + 1 ≤ i + d9), Zs p l e rm_X1_brightness s m args below meth cd Q A D 7 4 [(0, .ref (h 0)), (1, vI c), (2, vI (sm (brF σ (LT c.toNat) c.toNat) i)), (3, vI (i : Int))] [] (cw cI h σ LT γ φ) 0 0 := by
    intro d9
    induction d9 with
    | zero =>
      intro i hi hd
      exfalso; omega
    | succ d9 ih9 =>
      intro i hi hd
      refine z_iload_n C 3 dX1_brightness_4 rfl ?_
      refine z_aload_n C 0 dX1_brightness_5 rfl ?_
      refine z_get C (v := vI (σ 4 0)) (ref := "ShadowWalls") (T := TX1) (N := 11) (ci := 1) 0 8 inU_X1_X1_brightness rfl rfl (by decide) (by decide +kernel) (fun _ h9 => h9) rfl dX1_brightness_6 ?_
      refine z_icmp_ge C (tgt := 83) dX1_brightness_9 (by decide) (by omega) (by omega) (fun c_9 => ?_) (fun c_9 => ?_)
      ·
        obtain rfl : i = nLa σ := by omega
        refine z_iload_n C 2 dX1_brightness_83 rfl ?_
        exact hret _ _ _ _ dX1_brightness_84 ⟨rfl, by rfl⟩
      ·
        refine z_aload_n C 0 dX1_brightness_12 rfl ?_
        refine z_iload_n C 1 dX1_brightness_13 rfl ?_
        refine z_callVi C (As := [vI c]) (st := []) (y := yX1_lampsOn) (w := wsX1_lampsOn) (rm := rm_X1_lampsOn) (wr := []) (k' := 0) (n' := 0) [0, 1, 2, 3, 4, 5, 6, 7, 8] [] 0 (c_X1_lampsOn l D cI cJ h σ LT γ φ c (by omega)) (cwV 1 C.1.2.2.2.2 gX1_brightness_X1_lampsOn rfl rfl rfl (by decide +kernel) ⟨Nat.le_of_ble_eq_true rfl, Nat.le_of_ble_eq_true rfl⟩) rfl rfl rfl rfl rfl (by decide) rfl rfl rfl rfl (Nat.le_of_ble_eq_true rfl) rfl rfl ⟨Nat.le_of_ble_eq_true rfl, Nat.le_of_ble_eq_true rfl⟩ dX1_brightness_14 ?_
        rintro z_14 _ ⟨rfl, rfl⟩
        refine z_ws (ws' := (cw cI h σ LT γ φ)) rfl ?_
        refine z_st (v' := (LT c.toNat)) rfl ?_
        have r_14 := hO.2.2.1 i (by omega)
        have b_18 := bits4_e (a := LT c.toNat) (k := (i : Int)) (hL _) (by omega)
        simp only [Int.toNat_natCast] at b_18
        have b_20 := b_18.2.2.2.1
        have hp := pow_r i (by omega)
        have b_19 := bits_e (a := LT c.toNat) (b := 2 ^ i) (hL _) (by omega)
        have r_L := hL c.toNat
        refine z_iconst C dX1_brightness_17 ?_
        refine z_iload_n C 3 dX1_brightness_18 rfl ?_
        refine z_ishl C (r := 2 ^ i) dX1_brightness_19 (b_18.1) ?_
        refine z_iand C (r := band (LT c.toNat) (2 ^ i)) dX1_brightness_20 (b_19.1.1) ?_
        refine z_if_eq C (tgt := 77) dX1_brightness_21 (by decide) (by omega) (fun c_21 => ?_) (fun c_21 => ?_)
        ·
          refine z_iinc C 3 [(3, vI ((i : Int) + 1)), (0, .ref (h 0)), (1, vI c), (2, vI (sm (brF σ (LT c.toNat) c.toNat) i))] dX1_brightness_77 rfl (by decide) rfl ?_
          refine z_goto C (tgt := 4) dX1_brightness_80 (by decide) ?_
          refine z_chg 3 (x' := sm (brF σ (LT c.toNat) c.toNat) (i + 1)) (lv' := [(3, vI ((i : Int) + 1)), (0, .ref (h 0)), (1, vI c), (2, vI (sm (brF σ (LT c.toNat) c.toNat) (i + 1)))]) rfl (by first | exact brg_t ec b_20 c_21 rfl | exact brg_f b_20 c_21) rfl ?_
          refine z_chg 0 (x' := ((i + 1 : Nat) : Int)) (lv' := [(3, vI ((i + 1 : Nat) : Int)), (0, .ref (h 0)), (1, vI c), (2, vI (sm (brF σ (LT c.toNat) c.toNat) (i + 1)))]) rfl (by omega) rfl ?_
          refine z_sub (lv' := [(0, .ref (h 0)), (1, vI c), (2, vI (sm (brF σ (LT c.toNat) c.toNat) (i + 1))), (3, vI ((i + 1 : Nat) : Int))]) [1, 2, 3, 0] rfl ?_
          exact ih9 (i + 1) (by omega) (by omega)
        ·
          refine z_aload_n C 0 dX1_brightness_24 rfl ?_
          refine z_iload_n C 3 dX1_brightness_25 rfl ?_
          refine z_callVi C (As := [vI (i : Int)]) (st := []) (y := yX1_cellOfLamp) (w := wsX1_cellOfLamp) (rm := rm_X1_cellOfLamp) (wr := []) (k' := 0) (n' := 0) [0, 1, 2, 3, 4, 5, 6, 7, 8] [] 0 (c_X1_cellOfLamp l D cI cJ h σ LT γ φ (i : Int) (by omega)) (cwV 1 C.1.2.2.2.2 gX1_brightness_X1_cellOfLamp rfl rfl rfl (by decide +kernel) ⟨Nat.le_of_ble_eq_true rfl, Nat.le_of_ble_eq_true rfl⟩) rfl rfl rfl rfl rfl (by decide) rfl rfl rfl rfl (Nat.le_of_ble_eq_true rfl) rfl rfl ⟨Nat.le_of_ble_eq_true rfl, Nat.le_of_ble_eq_true rfl⟩ dX1_brightness_26 ?_
          rintro z_26 _ ⟨rfl, rfl⟩
          refine z_ws (ws' := (cw cI h σ LT γ φ)) rfl ?_
          refine z_st (v' := (σ 1 i)) rfl ?_
          refine z_istore C [(4, vI (σ 1 i)), (0, .ref (h 0)), (1, vI c), (2, vI (sm (brF σ (LT c.toNat) c.toNat) i)), (3, vI (i : Int))] dX1_brightness_29 (by decide) rfl ?_
          refine z_iload_n C 2 dX1_brightness_31 rfl ?_
          refine z_callSi C (As := [vI c]) (st := []) (y := yX1_columnOf) (w := wsX1_columnOf) (rm := rm_X1_columnOf) (wr := (cw cI h σ LT γ φ)) (k' := 0) (n' := 0) [] [0, 1, 2, 3, 4, 5, 6, 7, 8] (c_X1_columnOf l D cI cJ  c (by omega)) (va_cwS 1 C.1.2.2.2.2 gX1_brightness_X1_columnOf rfl rfl rfl (by decide +kernel) ⟨Nat.le_of_ble_eq_true rfl, Nat.le_of_ble_eq_true rfl⟩) rfl rfl rfl rfl rfl (by decide) rfl rfl (Nat.le_of_ble_eq_true rfl) rfl rfl ⟨Nat.le_of_ble_eq_true rfl, Nat.le_of_ble_eq_true rfl⟩ dX1_brightness_32 ?_
          rintro z_32 _ ⟨rfl, rfl⟩
          refine z_ws (ws' := (cw cI h σ LT γ φ)) rfl ?_
          refine z_st (v' := (c % 12)) rfl ?_
          refine z_iload C 0 dX1_brightness_35 rfl ?_
          refine z_callSi C (As := [vI (σ 1 i)]) (st := [vI (c % 12)]) (y := yX1_columnOf) (w := wsX1_columnOf) (rm := rm_X1_columnOf) (wr := (cw cI h σ LT γ φ)) (k' := 0) (n' := 0) [] [0, 1, 2, 3, 4, 5, 6, 7, 8] (c_X1_columnOf l D cI cJ  (σ 1 i) (by omega)) (va_cwS 1 C.1.2.2.2.2 gX1_brightness_X1_columnOf rfl rfl rfl (by decide +kernel) ⟨Nat.le_of_ble_eq_true rfl, Nat.le_of_ble_eq_true rfl⟩) rfl rfl rfl rfl rfl (by decide) rfl rfl (Nat.le_of_ble_eq_true rfl) rfl rfl ⟨Nat.le_of_ble_eq_true rfl, Nat.le_of_ble_eq_true rfl⟩ dX1_brightness_37 ?_
          rintro z_37 _ ⟨rfl, rfl⟩
          refine z_ws (ws' := (cw cI h σ LT γ φ)) rfl ?_
          refine z_st (v' := ((σ 1 i) % 12)) rfl ?_
          refine z_isub C dX1_brightness_40 ?_
          refine z_mabs C dX1_brightness_41 (by decide +kernel) (by decide +kernel) (by decide +kernel) (by decide +kernel) (Nat.le_of_ble_eq_true rfl) (Nat.le_of_ble_eq_true rfl) (Nat.le_of_ble_eq_true rfl) (Nat.le_of_ble_eq_true rfl) (by omega) ?_
          refine z_st (v' := abZ ((c % 12) - ((σ 1 i) % 12))) rfl ?_
          have a_41 := abZ_c ((c % 12) - ((σ 1 i) % 12))
          refine z_istore C [(5, vI (abZ ((c % 12) - ((σ 1 i) % 12)))), (4, vI (σ 1 i)), (0, .ref (h 0)), (1, vI c), (2, vI (sm (brF σ (LT c.toNat) c.toNat) i)), (3, vI (i : Int))] dX1_brightness_44 (by decide) rfl ?_
          refine z_iload_n C 3 dX1_brightness_46 rfl ?_
          refine z_callSi C (As := [vI c]) (st := []) (y := yX1_rowOf) (w := wsX1_rowOf) (rm := rm_X1_rowOf) (wr := (cw cI h σ LT γ φ)) (k' := 0) (n' := 0) [] [0, 1, 2, 3, 4, 5, 6, 7, 8] (c_X1_rowOf l D cI cJ  c (by omega)) (va_cwS 1 C.1.2.2.2.2 gX1_brightness_X1_rowOf rfl rfl rfl (by decide +kernel) ⟨Nat.le_of_ble_eq_true rfl, Nat.le_of_ble_eq_true rfl⟩) rfl rfl rfl rfl rfl (by decide) rfl rfl (Nat.le_of_ble_eq_true rfl) rfl rfl ⟨Nat.le_of_ble_eq_true rfl, Nat.le_of_ble_eq_true rfl⟩ dX1_brightness_47 ?_
          rintro z_47 _ ⟨rfl, rfl⟩
          refine z_ws (ws' := (cw cI h σ LT γ φ)) rfl ?_
          refine z_st (v' := (c / 12)) rfl ?_
          refine z_iload C 1 dX1_brightness_50 rfl ?_
          refine z_callSi C (As := [vI (σ 1 i)]) (st := [vI (c / 12)]) (y := yX1_rowOf) (w := wsX1_rowOf) (rm := rm_X1_rowOf) (wr := (cw cI h σ LT γ φ)) (k' := 0) (n' := 0) [] [0, 1, 2, 3, 4, 5, 6, 7, 8] (c_X1_rowOf l D cI cJ  (σ 1 i) (by omega)) (va_cwS 1 C.1.2.2.2.2 gX1_brightness_X1_rowOf rfl rfl rfl (by decide +kernel) ⟨Nat.le_of_ble_eq_true rfl, Nat.le_of_ble_eq_true rfl⟩) rfl rfl rfl rfl rfl (by decide) rfl rfl (Nat.le_of_ble_eq_true rfl) rfl rfl ⟨Nat.le_of_ble_eq_true rfl, Nat.le_of_ble_eq_true rfl⟩ dX1_brightness_52 ?_
          rintro z_52 _ ⟨rfl, rfl⟩
          refine z_ws (ws' := (cw cI h σ LT γ φ)) rfl ?_
          refine z_st (v' := ((σ 1 i) / 12)) rfl ?_
          refine z_isub C dX1_brightness_55 ?_
          refine z_mabs C dX1_brightness_56 (by decide +kernel) (by decide +kernel) (by decide +kernel) (by decide +kernel) (Nat.le_of_ble_eq_true rfl) (Nat.le_of_ble_eq_true rfl) (Nat.le_of_ble_eq_true rfl) (Nat.le_of_ble_eq_true rfl) (by omega) ?_
          refine z_st (v' := abZ ((c / 12) - ((σ 1 i) / 12))) rfl ?_
          have a_56 := abZ_c ((c / 12) - ((σ 1 i) / 12))
          refine z_istore C [(6, vI (abZ ((c / 12) - ((σ 1 i) / 12)))), (5, vI (abZ ((c % 12) - ((σ 1 i) % 12)))), (4, vI (σ 1 i)), (0, .ref (h 0)), (1, vI c), (2, vI (sm (brF σ (LT c.toNat) c.toNat) i)), (3, vI (i : Int))] dX1_brightness_59 (by decide) rfl ?_
          refine z_iload_n C 5 dX1_brightness_61 rfl ?_
          refine z_aload_n C 3 dX1_brightness_62 rfl ?_
          refine z_iload_n C 6 dX1_brightness_63 rfl ?_
          refine z_callVi C (As := [vI (i : Int)]) (st := [vI (sm (brF σ (LT c.toNat) c.toNat) i)]) (y := yX1_reachOf) (w := wsX1_reachOf) (rm := rm_X1_reachOf) (wr := []) (k' := 0) (n' := 0) [0, 1, 2, 3, 4, 5, 6, 7, 8] [] 0 (c_X1_reachOf l D cI cJ h σ LT γ φ (i : Int) (by omega)) (cwV 1 C.1.2.2.2.2 gX1_brightness_X1_reachOf rfl rfl rfl (by decide +kernel) ⟨Nat.le_of_ble_eq_true rfl, Nat.le_of_ble_eq_true rfl⟩) rfl rfl rfl rfl rfl (by decide) rfl rfl rfl rfl (Nat.le_of_ble_eq_true rfl) rfl rfl ⟨Nat.le_of_ble_eq_true rfl, Nat.le_of_ble_eq_true rfl⟩ dX1_brightness_64 ?_
          rintro z_64 _ ⟨rfl, rfl⟩
          refine z_ws (ws' := (cw cI h σ LT γ φ)) rfl ?_
          refine z_st (v' := (σ 2 i)) rfl ?_
          refine z_iload C 1 dX1_brightness_67 rfl ?_
          refine z_iload C 0 dX1_brightness_69 rfl ?_
          refine z_mmax C dX1_brightness_71 (by decide +kernel) (by decide +kernel) (by decide +kernel) (by decide +kernel) (Nat.le_of_ble_eq_true rfl) (Nat.le_of_ble_eq_true rfl) (Nat.le_of_ble_eq_true rfl) (Nat.le_of_ble_eq_true rfl) (by omega) (by omega) ?_
          refine z_st (v' := mxZ (abZ ((c % 12) - ((σ 1 i) % 12))) (abZ ((c / 12) - ((σ 1 i) / 12)))) rfl ?_
          have a_71 := mxZ_c (abZ ((c % 12) - ((σ 1 i) % 12))) (abZ ((c / 12) - ((σ 1 i) / 12)))
          refine z_isub C dX1_brightness_74 ?_
          refine z_iadd C dX1_brightness_75 ?_
          refine z_istore_n C [(2, vI ((sm (brF σ (LT c.toNat) c.toNat) i) + ((σ 2 i) - (mxZ (abZ ((c % 12) - ((σ 1 i) % 12))) (abZ ((c / 12) - ((σ 1 i) / 12))))))), (6, vI (abZ ((c / 12) - ((σ 1 i) / 12)))), (5, vI (abZ ((c % 12) - ((σ 1 i) % 12)))), (4, vI (σ 1 i)), (0, .ref (h 0)), (1, vI c), (3, vI (i : Int))] dX1_brightness_76 (by decide) rfl ?_
          refine z_iinc C 6 [(3, vI ((i : Int) + 1)), (2, vI ((sm (brF σ (LT c.toNat) c.toNat) i) + ((σ 2 i) - (mxZ (abZ ((c % 12) - ((σ 1 i) % 12))) (abZ ((c / 12) - ((σ 1 i) / 12))))))), (6, vI (abZ ((c / 12) - ((σ 1 i) / 12)))), (5, vI (abZ ((c % 12) - ((σ 1 i) % 12)))), (4, vI (σ 1 i)), (0, .ref (h 0)), (1, vI c)] dX1_brightness_77 rfl (by decide) rfl ?_
          refine z_goto C (tgt := 4) dX1_brightness_80 (by decide) ?_
          refine z_chg 1 (x' := sm (brF σ (LT c.toNat) c.toNat) (i + 1)) (lv' := [(3, vI ((i : Int) + 1)), (2, vI (sm (brF σ (LT c.toNat) c.toNat) (i + 1))), (6, vI (abZ ((c / 12) - ((σ 1 i) / 12)))), (5, vI (abZ ((c % 12) - ((σ 1 i) % 12)))), (4, vI (σ 1 i)), (0, .ref (h 0)), (1, vI c)]) rfl (by first | exact brg_t ec b_20 c_21 rfl | exact brg_f b_20 c_21) rfl ?_
          refine z_chg 0 (x' := ((i + 1 : Nat) : Int)) (lv' := [(3, vI ((i + 1 : Nat) : Int)), (2, vI (sm (brF σ (LT c.toNat) c.toNat) (i + 1))), (6, vI (abZ ((c / 12) - ((σ 1 i) / 12)))), (5, vI (abZ ((c % 12) - ((σ 1 i) % 12)))), (4, vI (σ 1 i)), (0, .ref (h 0)), (1, vI c)]) rfl (by omega) rfl ?_
          refine z_sub (lv' := [(0, .ref (h 0)), (1, vI c), (2, vI (sm (brF σ (LT c.toNat) c.toNat) (i + 1))), (3, vI ((i + 1 : Nat) : Int))]) [5, 6, 1, 0] rfl ?_
          exact ih9 (i + 1) (by omega) (by omega)
  refine z_sub (lv' := [(0, .ref (h 0)), (1, vI c), (2, vI 0), (3, vI 0)]) [2, 3, 1, 0] rfl ?_
  exact L_4 ((nLa σ) + 1) 0 (Nat.zero_le _) (by omega)
