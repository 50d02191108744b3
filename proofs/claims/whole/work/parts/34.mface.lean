theorem isA_c {z x y : Int} (h : z = bI (decide (0 ≤ x) && decide (x ≤ 143) && (decide (0 ≤ y) && decide (y ≤ 143)))) : (z = 1 ∧ (0 ≤ x ∧ x < 144) ∧ 0 ≤ y ∧ y < 144) ∨ (z = 0 ∧ ¬ ((0 ≤ x ∧ x < 144) ∧ 0 ≤ y ∧ y < 144)) := by
  by_cases q : (0 ≤ x ∧ x < 144) ∧ 0 ≤ y ∧ y < 144
  · left; refine ⟨?_, q⟩; rw [h, bI_t]; simp; omega
  · right; refine ⟨?_, q⟩; rw [h, bI_f]; simp; omega
def rkM (LI BR : Nat → Int) (c : Nat) : Int := if LI c = 0 then -1 else BR c
theorem rkM_r {LI BR : Nat → Int} (h : BR9 BR) (c : Nat) : -100 ≤ rkM LI BR c ∧ rkM LI BR c ≤ 100 := by
  unfold rkM
  split
  · omega
  · exact h c
def dkM (σ : YS) (LI BR : Nat → Int) : Nat → Int
  | 0 => -1
  | i + 1 => if σ 0 i = 0 ∧ (dkM σ LI BR i = -1 ∨ rkM LI BR i < rkM LI BR (dkM σ LI BR i).toNat) then (i : Int) else dkM σ LI BR i
theorem dkM_r (σ : YS) (LI BR : Nat → Int) : ∀ i : Nat, i ≤ 144 → -1 ≤ dkM σ LI BR i ∧ dkM σ LI BR i < i := by
  intro i
  induction i with
  | zero => intro _; simp [dkM]
  | succ i ih =>
    intro hi
    have := ih (by omega)
    simp only [dkM]
    split <;> omega
theorem dm_n {σ : YS} {LI BR : Nat → Int} {i : Nat} (h : ¬ σ 0 i = 0) : dkM σ LI BR i = dkM σ LI BR (i + 1) := by
  simp only [dkM]; rw [if_neg (fun q => h q.1)]
theorem dm_0 {σ : YS} {LI BR : Nat → Int} {i : Nat} (h : σ 0 i = 0) (c : dkM σ LI BR i = -1) : (i : Int) = dkM σ LI BR (i + 1) := by
  simp only [dkM]; rw [if_pos ⟨h, Or.inl c⟩]
theorem dm_t {σ : YS} {LI BR : Nat → Int} {i : Nat} (h : σ 0 i = 0) (c : rkM LI BR i < rkM LI BR (dkM σ LI BR i).toNat) : (i : Int) = dkM σ LI BR (i + 1) := by
  simp only [dkM]; rw [if_pos ⟨h, Or.inr c⟩]
theorem dm_f {σ : YS} {LI BR : Nat → Int} {i : Nat} (c1 : ¬ dkM σ LI BR i = -1) (c : ¬ rkM LI BR i < rkM LI BR (dkM σ LI BR i).toNat) : dkM σ LI BR i = dkM σ LI BR (i + 1) := by
  simp only [dkM]; rw [if_neg (fun q => q.2.elim c1 c)]
abbrev rm_X2_areCells : Room := { frames := 1, cells := 0, slots := 0, locals := 22 }
set_option maxHeartbeats 4000000 in
set_option maxRecDepth 100000 in
theorem c_X2_areCells (l : Launch) (D : va_G) (cI cJ : ClassId)  (x y : Int) (hx : rng x) (hy : rng y) : Ci l yX2_areCells wsX2_areCells rm_X2_areCells D [(cI, .int), (cJ, .long)] [vI x, vI y] [] (fun z u => u = [] ∧ z = bI (decide (0 ≤ x) && decide (x ≤ 143) && (decide (0 ≤ y) && decide (y ≤ 143)))) := by
  refine z_ofz (own := RX2) (cc := cX2_areCells) (maxL := 2) (lv := [(0, vI x), (1, vI y)]) (by decide) rfl rfl (Nat.le_of_ble_eq_true rfl) rfl ?_
  intro p e s m args below meth cd Q A C hret
  refine z_iload_n C 0 dX2_areCells_0 rfl ?_
  refine z_iconst C dX2_areCells_1 ?_
  refine z_sipush C dX2_areCells_2 (by decide) ?_
  refine z_callSi C (As := [vI x, vI 0, vI 143]) (st := []) (y := yX2_isIn) (w := wsX2_isIn) (rm := rm_X2_isIn) (wr := []) (k' := 0) (n' := 0) [] [] (c_X2_isIn l D cI cJ  x 0 143 (by omega) (by omega) (by omega)) (va_cwS 3 C.1.2.2.2.2 gX2_areCells_X2_isIn rfl rfl rfl (by decide +kernel) ⟨Nat.le_of_ble_eq_true rfl, Nat.le_of_ble_eq_true rfl⟩) rfl rfl rfl rfl rfl (by decide) rfl rfl (Nat.le_of_ble_eq_true rfl) rfl rfl ⟨Nat.le_of_ble_eq_true rfl, Nat.le_of_ble_eq_true rfl⟩ dX2_areCells_5 ?_
  rintro z_5 _ ⟨rfl, hz_5⟩
  refine z_ws (ws' := []) rfl ?_
  have r_5 : z_5 = 0 ∨ z_5 = 1 := by rw [hz_5]; exact bI_01 _
  have hz_5 : z_5 = bI (decide (0 ≤ x) && decide (x ≤ 143)) := hz_5
  have i_5 := isIn_c hz_5
  refine z_if_eq C (tgt := 26) dX2_areCells_8 (by decide) (by omega) (fun c_8 => ?_) (fun c_8 => ?_)
  ·
    refine z_iconst C dX2_areCells_26 ?_
    exact hret _ _ _ _ dX2_areCells_27 (Or.inl rfl) ⟨rfl, by first | (rw [bI_t (by simp; omega)]; done) | (rw [bI_f (by simp; omega)]; done)⟩
  ·
    refine z_iload_n C 1 dX2_areCells_11 rfl ?_
    refine z_iconst C dX2_areCells_12 ?_
    refine z_sipush C dX2_areCells_13 (by decide) ?_
    refine z_callSi C (As := [vI y, vI 0, vI 143]) (st := []) (y := yX2_isIn) (w := wsX2_isIn) (rm := rm_X2_isIn) (wr := []) (k' := 0) (n' := 0) [] [] (c_X2_isIn l D cI cJ  y 0 143 (by omega) (by omega) (by omega)) (va_cwS 3 C.1.2.2.2.2 gX2_areCells_X2_isIn rfl rfl rfl (by decide +kernel) ⟨Nat.le_of_ble_eq_true rfl, Nat.le_of_ble_eq_true rfl⟩) rfl rfl rfl rfl rfl (by decide) rfl rfl (Nat.le_of_ble_eq_true rfl) rfl rfl ⟨Nat.le_of_ble_eq_true rfl, Nat.le_of_ble_eq_true rfl⟩ dX2_areCells_16 ?_
    rintro z_16 _ ⟨rfl, hz_16⟩
    refine z_ws (ws' := []) rfl ?_
    have r_16 : z_16 = 0 ∨ z_16 = 1 := by rw [hz_16]; exact bI_01 _
    have hz_16 : z_16 = bI (decide (0 ≤ y) && decide (y ≤ 143)) := hz_16
    have i_16 := isIn_c hz_16
    refine z_if_eq C (tgt := 26) dX2_areCells_19 (by decide) (by omega) (fun c_19 => ?_) (fun c_19 => ?_)
    ·
      refine z_iconst C dX2_areCells_26 ?_
      exact hret _ _ _ _ dX2_areCells_27 (Or.inl rfl) ⟨rfl, by first | (rw [bI_t (by simp; omega)]; done) | (rw [bI_f (by simp; omega)]; done)⟩
    ·
      refine z_iconst C dX2_areCells_22 ?_
      refine z_goto C (tgt := 27) dX2_areCells_23 (by decide) ?_
      exact hret _ _ _ _ dX2_areCells_27 (Or.inr rfl) ⟨rfl, by first | (rw [bI_t (by simp; omega)]; done) | (rw [bI_f (by simp; omega)]; done)⟩

set_option maxRecDepth 100000 in
theorem inU_X2_X2_set : ∀ w ∈ u_ws RX2 TX2 14, w ∈ wsX2_set := by decide +kernel
abbrev rm_X2_set : Room := { frames := 2, cells := 0, slots := 0, locals := 43 }
set_option maxHeartbeats 4000000 in
set_option maxRecDepth 100000 in
theorem c_X2_set (l : Launch) (D : va_G) (cI cJ : ClassId) (h : Nat → Nat) (σ : YS) (LI BR : Nat → Int) (γ : YS) (φ : Nat → Int) (θ : Int) (x y kd : Int) (hx : 0 ≤ x ∧ x < 12) (hy : 0 ≤ y ∧ y < 12) (hk : 0 ≤ kd ∧ kd < 4) (hO : Ok σ) (hL : LI4 LI) : Ci l yX2_set wsX2_set rm_X2_set D [(cI, .int), (cJ, .long)] [.ref (h 0), vI x, vI y, vI kd] (mx cI h σ LI BR γ φ θ) (fun z u => u = (mx cI h (sU σ 0 (12 * y + x).toNat kd) LI BR γ φ 0) ∧ z = σ 0 (12 * y + x).toNat) := by
  refine z_ofi (own := RX2) (cc := cX2_set) (maxL := 5) (lv := [(0, .ref (h 0)), (1, vI x), (2, vI y), (3, vI kd)]) (by decide) rfl rfl (Nat.le_of_ble_eq_true rfl) rfl ?_
  intro p e s m args below meth cd Q A C hret
  have hn := hO.1
  have hm := hO.2.1
  have en := nLa_e hO
  have em := nWa_e hO
  have hcc : 0 ≤ 12 * y + x ∧ 12 * y + x < 144 := by omega
  have ecc : (((12 * y + x).toNat : Nat) : Int) = 12 * y + x := Int.toNat_of_nonneg hcc.1
  refine z_aload_n C 0 dX2_set_0 rfl ?_
  refine z_iconst C dX2_set_1 ?_
  refine z_put C (ref := "ShadowWallsModel") (T := TX2) (N := 14) (ci := 2) (ty := .int) (ws' := (mx cI h σ LI BR γ φ 0)) 0 0 inU_X2_X2_set tyX2 tyX2_ok nmX2 rfl rfl (by decide) (by decide +kernel) (fun _ h9 => h9) rfl (by decide +kernel) (rfl) (rfl) (Nat.le_of_ble_eq_true rfl) rfl dX2_set_2 ?_
  refine z_iload_n C 1 dX2_set_5 rfl ?_
  refine z_iload_n C 2 dX2_set_6 rfl ?_
  refine z_callSi C (As := [vI x, vI y]) (st := []) (y := yX2_isCell) (w := wsX2_isCell) (rm := rm_X2_isCell) (wr := (mx cI h σ LI BR γ φ 0)) (k' := 0) (n' := 0) [] [0, 1, 2, 3, 4, 5, 6, 7, 8] (c_X2_isCell l D cI cJ  x y (by omega) (by omega)) (va_cwS 2 C.1.2.2.2.2 gX2_set_X2_isCell rfl rfl rfl (by decide +kernel) ⟨Nat.le_of_ble_eq_true rfl, Nat.le_of_ble_eq_true rfl⟩) rfl rfl rfl rfl rfl (by decide) rfl rfl (Nat.le_of_ble_eq_true rfl) rfl rfl ⟨Nat.le_of_ble_eq_true rfl, Nat.le_of_ble_eq_true rfl⟩ dX2_set_7 ?_
  rintro z_7 _ ⟨rfl, hz_7⟩
  refine z_ws (ws' := (mx cI h σ LI BR γ φ 0)) rfl ?_
  have r_7 : z_7 = 0 ∨ z_7 = 1 := by rw [hz_7]; exact bI_01 _
  have hz_7 : z_7 = bI (decide (0 ≤ x) && decide (x ≤ 11) && (decide (0 ≤ y) && decide (y ≤ 11))) := hz_7
  have i_7 := isC_c hz_7
  refine z_if_ne C (tgt := 19) dX2_set_10 (by decide) (by omega) (fun c_10 => ?_) (fun c_10 => ?_)
  ·
    refine z_iload_n C 3 dX2_set_19 rfl ?_
    refine z_iconst C dX2_set_20 ?_
    refine z_iconst C dX2_set_21 ?_
    refine z_callSi C (As := [vI kd, vI 0, vI 3]) (st := []) (y := yX2_isIn) (w := wsX2_isIn) (rm := rm_X2_isIn) (wr := (mx cI h σ LI BR γ φ 0)) (k' := 0) (n' := 0) [] [0, 1, 2, 3, 4, 5, 6, 7, 8] (c_X2_isIn l D cI cJ  kd 0 3 (by omega) (by omega) (by omega)) (va_cwS 3 C.1.2.2.2.2 gX2_set_X2_isIn rfl rfl rfl (by decide +kernel) ⟨Nat.le_of_ble_eq_true rfl, Nat.le_of_ble_eq_true rfl⟩) rfl rfl rfl rfl rfl (by decide) rfl rfl (Nat.le_of_ble_eq_true rfl) rfl rfl ⟨Nat.le_of_ble_eq_true rfl, Nat.le_of_ble_eq_true rfl⟩ dX2_set_22 ?_
    rintro z_22 _ ⟨rfl, hz_22⟩
    refine z_ws (ws' := (mx cI h σ LI BR γ φ 0)) rfl ?_
    have r_22 : z_22 = 0 ∨ z_22 = 1 := by rw [hz_22]; exact bI_01 _
    have hz_22 : z_22 = bI (decide (0 ≤ kd) && decide (kd ≤ 3)) := hz_22
    have i_22 := isIn_c hz_22
    refine z_if_ne C (tgt := 34) dX2_set_25 (by decide) (by omega) (fun c_25 => ?_) (fun c_25 => ?_)
    ·
      refine z_aload_n C 0 dX2_set_34 rfl ?_
      refine z_get C (v := .ref (h 1)) (ref := "ShadowWallsModel") (T := TX2) (N := 14) (ci := 2) 0 1 inU_X2_X2_set rfl rfl (by decide) (by decide +kernel) (fun _ h9 => h9) rfl dX2_set_35 ?_
      refine z_bipush C dX2_set_38 (by decide) ?_
      refine z_iload_n C 2 dX2_set_40 rfl ?_
      refine z_imul C dX2_set_41 ?_
      refine z_iload_n C 1 dX2_set_42 rfl ?_
      refine z_iadd C dX2_set_43 ?_
      refine z_iald C (cA := cI) (N := 144) (f := σ 0) 1 0 rfl rfl (by decide) (by omega) dX2_set_44 ?_
      refine z_istore C [(4, vI (σ 0 (((12 * y) + x).toNat))), (0, .ref (h 0)), (1, vI x), (2, vI y), (3, vI kd)] dX2_set_45 (by decide) rfl ?_
      refine z_aload_n C 1 dX2_set_47 rfl ?_
      refine z_get C (v := .ref (h 1)) (ref := "ShadowWallsModel") (T := TX2) (N := 14) (ci := 2) 0 1 inU_X2_X2_set rfl rfl (by decide) (by decide +kernel) (fun _ h9 => h9) rfl dX2_set_48 ?_
      refine z_bipush C dX2_set_51 (by decide) ?_
      refine z_iload_n C 3 dX2_set_53 rfl ?_
      refine z_imul C dX2_set_54 ?_
      refine z_iload_n C 2 dX2_set_55 rfl ?_
      refine z_iadd C dX2_set_56 ?_
      refine z_iload_n C 4 dX2_set_57 rfl ?_
      refine z_iast C (cA := cI) (N := 144) (f := σ 0) (ws' := (mx cI h (sU σ 0 (((12 * y) + x).toNat) kd) LI BR γ φ 0)) 1 0 rfl rfl (by decide) (by omega) rfl dX2_set_58 ?_
      refine z_iload C 0 dX2_set_59 rfl ?_
      exact hret _ _ _ _ dX2_set_61 ⟨rfl, by rfl⟩
    ·
      exfalso; omega
  ·
    exfalso; omega

set_option maxHeartbeats 4000000 in
set_option maxRecDepth 100000 in
theorem b1_X2_set (l : Launch) (D : va_G) (cI cJ : ClassId) (h : Nat → Nat) (σ : YS) (LI BR : Nat → Int) (γ : YS) (φ : Nat → Int) (θ : Int) (x y kd : Int) (hr : rng x ∧ rng y ∧ rng kd) (hO : Ok σ) (hb : ¬ ((0 ≤ x ∧ x < 12) ∧ 0 ≤ y ∧ y < 12)) : Ci l yX2_set wsX2_set rm_X2_set D [(cI, .int), (cJ, .long)] [.ref (h 0), vI x, vI y, vI kd] (mx cI h σ LI BR γ φ θ) (fun z u => u = (mx cI h σ LI BR γ φ 1) ∧ z = 0) := by
  refine z_ofi (own := RX2) (cc := cX2_set) (maxL := 5) (lv := [(0, .ref (h 0)), (1, vI x), (2, vI y), (3, vI kd)]) (by decide) rfl rfl (Nat.le_of_ble_eq_true rfl) rfl ?_
  intro p e s m args below meth cd Q A C hret
  have hn := hO.1
  have hm := hO.2.1
  have en := nLa_e hO
  have em := nWa_e hO
  refine z_aload_n C 0 dX2_set_0 rfl ?_
  refine z_iconst C dX2_set_1 ?_
  refine z_put C (ref := "ShadowWallsModel") (T := TX2) (N := 14) (ci := 2) (ty := .int) (ws' := (mx cI h σ LI BR γ φ 0)) 0 0 inU_X2_X2_set tyX2 tyX2_ok nmX2 rfl rfl (by decide) (by decide +kernel) (fun _ h9 => h9) rfl (by decide +kernel) (rfl) (rfl) (Nat.le_of_ble_eq_true rfl) rfl dX2_set_2 ?_
  refine z_iload_n C 1 dX2_set_5 rfl ?_
  refine z_iload_n C 2 dX2_set_6 rfl ?_
  refine z_callSi C (As := [vI x, vI y]) (st := []) (y := yX2_isCell) (w := wsX2_isCell) (rm := rm_X2_isCell) (wr := (mx cI h σ LI BR γ φ 0)) (k' := 0) (n' := 0) [] [0, 1, 2, 3, 4, 5, 6, 7, 8] (c_X2_isCell l D cI cJ  x y (by omega) (by omega)) (va_cwS 2 C.1.2.2.2.2 gX2_set_X2_isCell rfl rfl rfl (by decide +kernel) ⟨Nat.le_of_ble_eq_true rfl, Nat.le_of_ble_eq_true rfl⟩) rfl rfl rfl rfl rfl (by decide) rfl rfl (Nat.le_of_ble_eq_true rfl) rfl rfl ⟨Nat.le_of_ble_eq_true rfl, Nat.le_of_ble_eq_true rfl⟩ dX2_set_7 ?_
  rintro z_7 _ ⟨rfl, hz_7⟩
  refine z_ws (ws' := (mx cI h σ LI BR γ φ 0)) rfl ?_
  have r_7 : z_7 = 0 ∨ z_7 = 1 := by rw [hz_7]; exact bI_01 _
  have hz_7 : z_7 = bI (decide (0 ≤ x) && decide (x ≤ 11) && (decide (0 ≤ y) && decide (y ≤ 11))) := hz_7
  have i_7 := isC_c hz_7
  refine z_if_ne C (tgt := 19) dX2_set_10 (by decide) (by omega) (fun c_10 => ?_) (fun c_10 => ?_)
  ·
    exfalso; omega
  ·
    refine z_aload_n C 0 dX2_set_13 rfl ?_
    refine z_iconst C dX2_set_14 ?_
    refine z_callVi C (As := [vI 1]) (st := []) (y := yX2_no) (w := wsX2_no) (rm := rm_X2_no) (wr := []) (k' := 0) (n' := 0) [0, 1, 2, 3, 4, 5, 6, 7, 8] [] 0 (c_X2_no l D cI cJ h σ LI BR γ φ 0 1 ) (cwV 1 C.1.2.2.2.2 gX2_set_X2_no rfl rfl rfl (by decide +kernel) ⟨Nat.le_of_ble_eq_true rfl, Nat.le_of_ble_eq_true rfl⟩) rfl rfl rfl rfl rfl (by decide) rfl rfl rfl rfl (Nat.le_of_ble_eq_true rfl) rfl rfl ⟨Nat.le_of_ble_eq_true rfl, Nat.le_of_ble_eq_true rfl⟩ dX2_set_15 ?_
    rintro z_15 _ ⟨rfl, rfl⟩
    refine z_ws (ws' := (mx cI h σ LI BR γ φ 1)) rfl ?_
    refine z_st (v' := 0) rfl ?_
    exact hret _ _ _ _ dX2_set_18 ⟨rfl, by rfl⟩

set_option maxHeartbeats 4000000 in
set_option maxRecDepth 100000 in
theorem b2_X2_set (l : Launch) (D : va_G) (cI cJ : ClassId) (h : Nat → Nat) (σ : YS) (LI BR : Nat → Int) (γ : YS) (φ : Nat → Int) (θ : Int) (x y kd : Int) (hr : rng x ∧ rng y ∧ rng kd) (hO : Ok σ) (hb : ((0 ≤ x ∧ x < 12) ∧ 0 ≤ y ∧ y < 12) ∧ ¬ (0 ≤ kd ∧ kd < 4)) : Ci l yX2_set wsX2_set rm_X2_set D [(cI, .int), (cJ, .long)] [.ref (h 0), vI x, vI y, vI kd] (mx cI h σ LI BR γ φ θ) (fun z u => u = (mx cI h σ LI BR γ φ 2) ∧ z = 0) := by
  refine z_ofi (own := RX2) (cc := cX2_set) (maxL := 5) (lv := [(0, .ref (h 0)), (1, vI x), (2, vI y), (3, vI kd)]) (by decide) rfl rfl (Nat.le_of_ble_eq_true rfl) rfl ?_
  intro p e s m args below meth cd Q A C hret
  have hn := hO.1
  have hm := hO.2.1
  have en := nLa_e hO
  have em := nWa_e hO
  refine z_aload_n C 0 dX2_set_0 rfl ?_
  refine z_iconst C dX2_set_1 ?_
  refine z_put C (ref := "ShadowWallsModel") (T := TX2) (N := 14) (ci := 2) (ty := .int) (ws' := (mx cI h σ LI BR γ φ 0)) 0 0 inU_X2_X2_set tyX2 tyX2_ok nmX2 rfl rfl (by decide) (by decide +kernel) (fun _ h9 => h9) rfl (by decide +kernel) (rfl) (rfl) (Nat.le_of_ble_eq_true rfl) rfl dX2_set_2 ?_
  refine z_iload_n C 1 dX2_set_5 rfl ?_
  refine z_iload_n C 2 dX2_set_6 rfl ?_
  refine z_callSi C (As := [vI x, vI y]) (st := []) (y := yX2_isCell) (w := wsX2_isCell) (rm := rm_X2_isCell) (wr := (mx cI h σ LI BR γ φ 0)) (k' := 0) (n' := 0) [] [0, 1, 2, 3, 4, 5, 6, 7, 8] (c_X2_isCell l D cI cJ  x y (by omega) (by omega)) (va_cwS 2 C.1.2.2.2.2 gX2_set_X2_isCell rfl rfl rfl (by decide +kernel) ⟨Nat.le_of_ble_eq_true rfl, Nat.le_of_ble_eq_true rfl⟩) rfl rfl rfl rfl rfl (by decide) rfl rfl (Nat.le_of_ble_eq_true rfl) rfl rfl ⟨Nat.le_of_ble_eq_true rfl, Nat.le_of_ble_eq_true rfl⟩ dX2_set_7 ?_
  rintro z_7 _ ⟨rfl, hz_7⟩
  refine z_ws (ws' := (mx cI h σ LI BR γ φ 0)) rfl ?_
  have r_7 : z_7 = 0 ∨ z_7 = 1 := by rw [hz_7]; exact bI_01 _
  have hz_7 : z_7 = bI (decide (0 ≤ x) && decide (x ≤ 11) && (decide (0 ≤ y) && decide (y ≤ 11))) := hz_7
  have i_7 := isC_c hz_7
  refine z_if_ne C (tgt := 19) dX2_set_10 (by decide) (by omega) (fun c_10 => ?_) (fun c_10 => ?_)
  ·
    refine z_iload_n C 3 dX2_set_19 rfl ?_
    refine z_iconst C dX2_set_20 ?_
    refine z_iconst C dX2_set_21 ?_
    refine z_callSi C (As := [vI kd, vI 0, vI 3]) (st := []) (y := yX2_isIn) (w := wsX2_isIn) (rm := rm_X2_isIn) (wr := (mx cI h σ LI BR γ φ 0)) (k' := 0) (n' := 0) [] [0, 1, 2, 3, 4, 5, 6, 7, 8] (c_X2_isIn l D cI cJ  kd 0 3 (by omega) (by omega) (by omega)) (va_cwS 3 C.1.2.2.2.2 gX2_set_X2_isIn rfl rfl rfl (by decide +kernel) ⟨Nat.le_of_ble_eq_true rfl, Nat.le_of_ble_eq_true rfl⟩) rfl rfl rfl rfl rfl (by decide) rfl rfl (Nat.le_of_ble_eq_true rfl) rfl rfl ⟨Nat.le_of_ble_eq_true rfl, Nat.le_of_ble_eq_true rfl⟩ dX2_set_22 ?_
    rintro z_22 _ ⟨rfl, hz_22⟩
    refine z_ws (ws' := (mx cI h σ LI BR γ φ 0)) rfl ?_
    have r_22 : z_22 = 0 ∨ z_22 = 1 := by rw [hz_22]; exact bI_01 _
    have hz_22 : z_22 = bI (decide (0 ≤ kd) && decide (kd ≤ 3)) := hz_22
    have i_22 := isIn_c hz_22
    refine z_if_ne C (tgt := 34) dX2_set_25 (by decide) (by omega) (fun c_25 => ?_) (fun c_25 => ?_)
    ·
      exfalso; omega
    ·
      refine z_aload_n C 0 dX2_set_28 rfl ?_
      refine z_iconst C dX2_set_29 ?_
      refine z_callVi C (As := [vI 2]) (st := []) (y := yX2_no) (w := wsX2_no) (rm := rm_X2_no) (wr := []) (k' := 0) (n' := 0) [0, 1, 2, 3, 4, 5, 6, 7, 8] [] 0 (c_X2_no l D cI cJ h σ LI BR γ φ 0 2 ) (cwV 1 C.1.2.2.2.2 gX2_set_X2_no rfl rfl rfl (by decide +kernel) ⟨Nat.le_of_ble_eq_true rfl, Nat.le_of_ble_eq_true rfl⟩) rfl rfl rfl rfl rfl (by decide) rfl rfl rfl rfl (Nat.le_of_ble_eq_true rfl) rfl rfl ⟨Nat.le_of_ble_eq_true rfl, Nat.le_of_ble_eq_true rfl⟩ dX2_set_30 ?_
      rintro z_30 _ ⟨rfl, rfl⟩
      refine z_ws (ws' := (mx cI h σ LI BR γ φ 2)) rfl ?_
      refine z_st (v' := 0) rfl ?_
      exact hret _ _ _ _ dX2_set_33 ⟨rfl, by rfl⟩
  ·
    exfalso; omega

set_option maxRecDepth 100000 in
theorem inU_X2_X2_lamp : ∀ w ∈ u_ws RX2 TX2 14, w ∈ wsX2_lamp := by decide +kernel
abbrev rm_X2_lamp : Room := { frames := 2, cells := 0, slots := 0, locals := 43 }
set_option maxHeartbeats 4000000 in
set_option maxRecDepth 100000 in
theorem c_X2_lamp (l : Launch) (D : va_G) (cI cJ : ClassId) (h : Nat → Nat) (σ : YS) (LI BR : Nat → Int) (γ : YS) (φ : Nat → Int) (θ : Int) (x y r : Int) (hx : 0 ≤ x ∧ x < 12) (hy : 0 ≤ y ∧ y < 12) (hr : 1 ≤ r ∧ r < 13) (h4 : σ 4 0 < 4) (hla : lampB σ (12 * y + x) = false) (hO : Ok σ) (hL : LI4 LI) : Ci l yX2_lamp wsX2_lamp rm_X2_lamp D [(cI, .int), (cJ, .long)] [.ref (h 0), vI x, vI y, vI r] (mx cI h σ LI BR γ φ θ) (fun z u => u = (mx cI h (sU (sU (sU σ 1 (σ 4 0).toNat (12 * y + x)) 2 (σ 4 0).toNat r) 4 0 (σ 4 0 + 1)) LI BR γ φ 0) ∧ z = σ 4 0) := by
  refine z_ofi (own := RX2) (cc := cX2_lamp) (maxL := 4) (lv := [(0, .ref (h 0)), (1, vI x), (2, vI y), (3, vI r)]) (by decide) rfl rfl (Nat.le_of_ble_eq_true rfl) rfl ?_
  intro p e s m args below meth cd Q A C hret
  have hn := hO.1
  have hm := hO.2.1
  have en := nLa_e hO
  have em := nWa_e hO
  have hcc : 0 ≤ 12 * y + x ∧ 12 * y + x < 144 := by omega
  have ecc : (((12 * y + x).toNat : Nat) : Int) = 12 * y + x := Int.toNat_of_nonneg hcc.1
  refine z_aload_n C 0 dX2_lamp_0 rfl ?_
  refine z_iconst C dX2_lamp_1 ?_
  refine z_put C (ref := "ShadowWallsModel") (T := TX2) (N := 14) (ci := 2) (ty := .int) (ws' := (mx cI h σ LI BR γ φ 0)) 0 0 inU_X2_X2_lamp tyX2 tyX2_ok nmX2 rfl rfl (by decide) (by decide +kernel) (fun _ h9 => h9) rfl (by decide +kernel) (rfl) (rfl) (Nat.le_of_ble_eq_true rfl) rfl dX2_lamp_2 ?_
  refine z_iload_n C 1 dX2_lamp_5 rfl ?_
  refine z_iload_n C 2 dX2_lamp_6 rfl ?_
  refine z_callSi C (As := [vI x, vI y]) (st := []) (y := yX2_isCell) (w := wsX2_isCell) (rm := rm_X2_isCell) (wr := (mx cI h σ LI BR γ φ 0)) (k' := 0) (n' := 0) [] [0, 1, 2, 3, 4, 5, 6, 7, 8] (c_X2_isCell l D cI cJ  x y (by omega) (by omega)) (va_cwS 2 C.1.2.2.2.2 gX2_lamp_X2_isCell rfl rfl rfl (by decide +kernel) ⟨Nat.le_of_ble_eq_true rfl, Nat.le_of_ble_eq_true rfl⟩) rfl rfl rfl rfl rfl (by decide) rfl rfl (Nat.le_of_ble_eq_true rfl) rfl rfl ⟨Nat.le_of_ble_eq_true rfl, Nat.le_of_ble_eq_true rfl⟩ dX2_lamp_7 ?_
  rintro z_7 _ ⟨rfl, hz_7⟩
  refine z_ws (ws' := (mx cI h σ LI BR γ φ 0)) rfl ?_
  have r_7 : z_7 = 0 ∨ z_7 = 1 := by rw [hz_7]; exact bI_01 _
  have hz_7 : z_7 = bI (decide (0 ≤ x) && decide (x ≤ 11) && (decide (0 ≤ y) && decide (y ≤ 11))) := hz_7
  have i_7 := isC_c hz_7
  refine z_if_ne C (tgt := 19) dX2_lamp_10 (by decide) (by omega) (fun c_10 => ?_) (fun c_10 => ?_)
  ·
    refine z_iload_n C 3 dX2_lamp_19 rfl ?_
    refine z_iconst C dX2_lamp_20 ?_
    refine z_bipush C dX2_lamp_21 (by decide) ?_
    refine z_callSi C (As := [vI r, vI 1, vI 12]) (st := []) (y := yX2_isIn) (w := wsX2_isIn) (rm := rm_X2_isIn) (wr := (mx cI h σ LI BR γ φ 0)) (k' := 0) (n' := 0) [] [0, 1, 2, 3, 4, 5, 6, 7, 8] (c_X2_isIn l D cI cJ  r 1 12 (by omega) (by omega) (by omega)) (va_cwS 3 C.1.2.2.2.2 gX2_lamp_X2_isIn rfl rfl rfl (by decide +kernel) ⟨Nat.le_of_ble_eq_true rfl, Nat.le_of_ble_eq_true rfl⟩) rfl rfl rfl rfl rfl (by decide) rfl rfl (Nat.le_of_ble_eq_true rfl) rfl rfl ⟨Nat.le_of_ble_eq_true rfl, Nat.le_of_ble_eq_true rfl⟩ dX2_lamp_23 ?_
    rintro z_23 _ ⟨rfl, hz_23⟩
    refine z_ws (ws' := (mx cI h σ LI BR γ φ 0)) rfl ?_
    have r_23 : z_23 = 0 ∨ z_23 = 1 := by rw [hz_23]; exact bI_01 _
    have hz_23 : z_23 = bI (decide (1 ≤ r) && decide (r ≤ 12)) := hz_23
    have i_23 := isIn_c hz_23
    refine z_if_ne C (tgt := 35) dX2_lamp_26 (by decide) (by omega) (fun c_26 => ?_) (fun c_26 => ?_)
    ·
      refine z_aload_n C 0 dX2_lamp_35 rfl ?_
      refine z_get C (v := vI (σ 4 0)) (ref := "ShadowWallsModel") (T := TX2) (N := 14) (ci := 2) 0 2 inU_X2_X2_lamp rfl rfl (by decide) (by decide +kernel) (fun _ h9 => h9) rfl dX2_lamp_36 ?_
      refine z_iconst C dX2_lamp_39 ?_
      refine z_icmp_eq C (tgt := 57) dX2_lamp_40 (by decide) (by omega) (by omega) (fun c_40 => ?_) (fun c_40 => ?_)
      ·
        exfalso; omega
      ·
        refine z_aload_n C 0 dX2_lamp_43 rfl ?_
        refine z_bipush C dX2_lamp_44 (by decide) ?_
        refine z_iload_n C 2 dX2_lamp_46 rfl ?_
        refine z_imul C dX2_lamp_47 ?_
        refine z_iload_n C 1 dX2_lamp_48 rfl ?_
        refine z_iadd C dX2_lamp_49 ?_
        refine z_callVi C (As := [vI ((12 * y) + x)]) (st := []) (y := yX2_lampOn) (w := wsX2_lampOn) (rm := rm_X2_lampOn) (wr := []) (k' := 0) (n' := 0) [0, 1, 2, 3, 4, 5, 6, 7, 8] [] 0 (c_X2_lampOn l D cI cJ h σ LI BR γ φ 0 ((12 * y) + x) (by omega) hO) (cwV 1 C.1.2.2.2.2 gX2_lamp_X2_lampOn rfl rfl rfl (by decide +kernel) ⟨Nat.le_of_ble_eq_true rfl, Nat.le_of_ble_eq_true rfl⟩) rfl rfl rfl rfl rfl (by decide) rfl rfl rfl rfl (Nat.le_of_ble_eq_true rfl) rfl rfl ⟨Nat.le_of_ble_eq_true rfl, Nat.le_of_ble_eq_true rfl⟩ dX2_lamp_50 ?_
        rintro z_50 _ ⟨rfl, f0_50⟩
        refine z_ws (ws' := (mx cI h σ LI BR γ φ 0)) rfl ?_
        have l_50 : z_50 = -1 := f0_50.elim (fun q => absurd (q.1.symm.trans hla) (by decide)) (fun q => q.2)
        refine z_iconst C dX2_lamp_53 ?_
        refine z_icmp_eq C (tgt := 63) dX2_lamp_54 (by decide) (by omega) (by omega) (fun c_54 => ?_) (fun c_54 => ?_)
        ·
          refine z_aload_n C 0 dX2_lamp_63 rfl ?_
          refine z_get C (v := .ref (h 2)) (ref := "ShadowWallsModel") (T := TX2) (N := 14) (ci := 2) 0 3 inU_X2_X2_lamp rfl rfl (by decide) (by decide +kernel) (fun _ h9 => h9) rfl dX2_lamp_64 ?_
          refine z_aload_n C 0 dX2_lamp_67 rfl ?_
          refine z_get C (v := vI (σ 4 0)) (ref := "ShadowWallsModel") (T := TX2) (N := 14) (ci := 2) 0 2 inU_X2_X2_lamp rfl rfl (by decide) (by decide +kernel) (fun _ h9 => h9) rfl dX2_lamp_68 ?_
          refine z_bipush C dX2_lamp_71 (by decide) ?_
          refine z_iload_n C 2 dX2_lamp_73 rfl ?_
          refine z_imul C dX2_lamp_74 ?_
          refine z_iload_n C 1 dX2_lamp_75 rfl ?_
          refine z_iadd C dX2_lamp_76 ?_
          refine z_iast C (cA := cI) (N := 4) (f := σ 1) (ws' := (mx cI h (sU σ 1 ((σ 4 0).toNat) ((12 * y) + x)) LI BR γ φ 0)) 2 0 rfl rfl (by decide) (by omega) rfl dX2_lamp_77 ?_
          refine z_aload_n C 0 dX2_lamp_78 rfl ?_
          refine z_get C (v := .ref (h 3)) (ref := "ShadowWallsModel") (T := TX2) (N := 14) (ci := 2) 0 4 inU_X2_X2_lamp rfl rfl (by decide) (by decide +kernel) (fun _ h9 => h9) rfl dX2_lamp_79 ?_
          refine z_aload_n C 0 dX2_lamp_82 rfl ?_
          refine z_get C (v := vI (σ 4 0)) (ref := "ShadowWallsModel") (T := TX2) (N := 14) (ci := 2) 0 2 inU_X2_X2_lamp rfl rfl (by decide) (by decide +kernel) (fun _ h9 => h9) rfl dX2_lamp_83 ?_
          refine z_iload_n C 3 dX2_lamp_86 rfl ?_
          refine z_iast C (cA := cI) (N := 4) (f := (sU σ 1 ((σ 4 0).toNat) ((12 * y) + x)) 2) (ws' := (mx cI h (sU (sU σ 1 ((σ 4 0).toNat) ((12 * y) + x)) 2 ((σ 4 0).toNat) r) LI BR γ φ 0)) 3 0 rfl rfl (by decide) (by omega) rfl dX2_lamp_87 ?_
          refine z_aload_n C 0 dX2_lamp_88 rfl ?_
          refine z_dup C dX2_lamp_89 rfl ?_
          refine z_get C (v := vI (σ 4 0)) (ref := "ShadowWallsModel") (T := TX2) (N := 14) (ci := 2) 0 2 inU_X2_X2_lamp rfl rfl (by decide) (by decide +kernel) (fun _ h9 => h9) rfl dX2_lamp_90 ?_
          refine z_iconst C dX2_lamp_93 ?_
          refine z_iadd C dX2_lamp_94 ?_
          refine z_put C (ref := "ShadowWallsModel") (T := TX2) (N := 14) (ci := 2) (ty := .int) (ws' := (mx cI h (sU (sU (sU σ 1 ((σ 4 0).toNat) ((12 * y) + x)) 2 ((σ 4 0).toNat) r) 4 0 ((σ 4 0) + 1)) LI BR γ φ 0)) 0 2 inU_X2_X2_lamp tyX2 tyX2_ok nmX2 rfl rfl (by decide) (by decide +kernel) (fun _ h9 => h9) rfl (by decide +kernel) (rfl) (rfl) (Nat.le_of_ble_eq_true rfl) rfl dX2_lamp_95 ?_
          refine z_aload_n C 0 dX2_lamp_98 rfl ?_
          refine z_get C (v := vI ((σ 4 0) + 1)) (ref := "ShadowWallsModel") (T := TX2) (N := 14) (ci := 2) 0 2 inU_X2_X2_lamp rfl rfl (by decide) (by decide +kernel) (fun _ h9 => h9) rfl dX2_lamp_99 ?_
          refine z_iconst C dX2_lamp_102 ?_
          refine z_isub C dX2_lamp_103 ?_
          exact hret _ _ _ _ dX2_lamp_104 ⟨rfl, by omega⟩
        ·
          exfalso; omega
    ·
      exfalso; omega
  ·
    exfalso; omega

set_option maxHeartbeats 4000000 in
set_option maxRecDepth 100000 in
theorem b1_X2_lamp (l : Launch) (D : va_G) (cI cJ : ClassId) (h : Nat → Nat) (σ : YS) (LI BR : Nat → Int) (γ : YS) (φ : Nat → Int) (θ : Int) (x y r : Int) (hr : rng x ∧ rng y ∧ rng r) (hO : Ok σ) (hb : ¬ ((0 ≤ x ∧ x < 12) ∧ 0 ≤ y ∧ y < 12)) : Ci l yX2_lamp wsX2_lamp rm_X2_lamp D [(cI, .int), (cJ, .long)] [.ref (h 0), vI x, vI y, vI r] (mx cI h σ LI BR γ φ θ) (fun z u => u = (mx cI h σ LI BR γ φ 1) ∧ z = 0) := by
  refine z_ofi (own := RX2) (cc := cX2_lamp) (maxL := 4) (lv := [(0, .ref (h 0)), (1, vI x), (2, vI y), (3, vI r)]) (by decide) rfl rfl (Nat.le_of_ble_eq_true rfl) rfl ?_
  intro p e s m args below meth cd Q A C hret
  have hn := hO.1
  have hm := hO.2.1
  have en := nLa_e hO
  have em := nWa_e hO
  refine z_aload_n C 0 dX2_lamp_0 rfl ?_
  refine z_iconst C dX2_lamp_1 ?_
  refine z_put C (ref := "ShadowWallsModel") (T := TX2) (N := 14) (ci := 2) (ty := .int) (ws' := (mx cI h σ LI BR γ φ 0)) 0 0 inU_X2_X2_lamp tyX2 tyX2_ok nmX2 rfl rfl (by decide) (by decide +kernel) (fun _ h9 => h9) rfl (by decide +kernel) (rfl) (rfl) (Nat.le_of_ble_eq_true rfl) rfl dX2_lamp_2 ?_
  refine z_iload_n C 1 dX2_lamp_5 rfl ?_
  refine z_iload_n C 2 dX2_lamp_6 rfl ?_
  refine z_callSi C (As := [vI x, vI y]) (st := []) (y := yX2_isCell) (w := wsX2_isCell) (rm := rm_X2_isCell) (wr := (mx cI h σ LI BR γ φ 0)) (k' := 0) (n' := 0) [] [0, 1, 2, 3, 4, 5, 6, 7, 8] (c_X2_isCell l D cI cJ  x y (by omega) (by omega)) (va_cwS 2 C.1.2.2.2.2 gX2_lamp_X2_isCell rfl rfl rfl (by decide +kernel) ⟨Nat.le_of_ble_eq_true rfl, Nat.le_of_ble_eq_true rfl⟩) rfl rfl rfl rfl rfl (by decide) rfl rfl (Nat.le_of_ble_eq_true rfl) rfl rfl ⟨Nat.le_of_ble_eq_true rfl, Nat.le_of_ble_eq_true rfl⟩ dX2_lamp_7 ?_
  rintro z_7 _ ⟨rfl, hz_7⟩
  refine z_ws (ws' := (mx cI h σ LI BR γ φ 0)) rfl ?_
  have r_7 : z_7 = 0 ∨ z_7 = 1 := by rw [hz_7]; exact bI_01 _
  have hz_7 : z_7 = bI (decide (0 ≤ x) && decide (x ≤ 11) && (decide (0 ≤ y) && decide (y ≤ 11))) := hz_7
  have i_7 := isC_c hz_7
  refine z_if_ne C (tgt := 19) dX2_lamp_10 (by decide) (by omega) (fun c_10 => ?_) (fun c_10 => ?_)
  ·
    exfalso; omega
  ·
    refine z_aload_n C 0 dX2_lamp_13 rfl ?_
    refine z_iconst C dX2_lamp_14 ?_
    refine z_callVi C (As := [vI 1]) (st := []) (y := yX2_no) (w := wsX2_no) (rm := rm_X2_no) (wr := []) (k' := 0) (n' := 0) [0, 1, 2, 3, 4, 5, 6, 7, 8] [] 0 (c_X2_no l D cI cJ h σ LI BR γ φ 0 1 ) (cwV 1 C.1.2.2.2.2 gX2_lamp_X2_no rfl rfl rfl (by decide +kernel) ⟨Nat.le_of_ble_eq_true rfl, Nat.le_of_ble_eq_true rfl⟩) rfl rfl rfl rfl rfl (by decide) rfl rfl rfl rfl (Nat.le_of_ble_eq_true rfl) rfl rfl ⟨Nat.le_of_ble_eq_true rfl, Nat.le_of_ble_eq_true rfl⟩ dX2_lamp_15 ?_
    rintro z_15 _ ⟨rfl, rfl⟩
    refine z_ws (ws' := (mx cI h σ LI BR γ φ 1)) rfl ?_
    refine z_st (v' := 0) rfl ?_
    exact hret _ _ _ _ dX2_lamp_18 ⟨rfl, by rfl⟩

set_option maxHeartbeats 4000000 in
set_option maxRecDepth 100000 in
theorem b2_X2_lamp (l : Launch) (D : va_G) (cI cJ : ClassId) (h : Nat → Nat) (σ : YS) (LI BR : Nat → Int) (γ : YS) (φ : Nat → Int) (θ : Int) (x y r : Int) (hr : rng x ∧ rng y ∧ rng r) (hO : Ok σ) (hb : ((0 ≤ x ∧ x < 12) ∧ 0 ≤ y ∧ y < 12) ∧ ¬ (1 ≤ r ∧ r < 13)) : Ci l yX2_lamp wsX2_lamp rm_X2_lamp D [(cI, .int), (cJ, .long)] [.ref (h 0), vI x, vI y, vI r] (mx cI h σ LI BR γ φ θ) (fun z u => u = (mx cI h σ LI BR γ φ 2) ∧ z = 0) := by
  refine z_ofi (own := RX2) (cc := cX2_lamp) (maxL := 4) (lv := [(0, .ref (h 0)), (1, vI x), (2, vI y), (3, vI r)]) (by decide) rfl rfl (Nat.le_of_ble_eq_true rfl) rfl ?_
  intro p e s m args below meth cd Q A C hret
  have hn := hO.1
  have hm := hO.2.1
  have en := nLa_e hO
  have em := nWa_e hO
  refine z_aload_n C 0 dX2_lamp_0 rfl ?_
  refine z_iconst C dX2_lamp_1 ?_
  refine z_put C (ref := "ShadowWallsModel") (T := TX2) (N := 14) (ci := 2) (ty := .int) (ws' := (mx cI h σ LI BR γ φ 0)) 0 0 inU_X2_X2_lamp tyX2 tyX2_ok nmX2 rfl rfl (by decide) (by decide +kernel) (fun _ h9 => h9) rfl (by decide +kernel) (rfl) (rfl) (Nat.le_of_ble_eq_true rfl) rfl dX2_lamp_2 ?_
  refine z_iload_n C 1 dX2_lamp_5 rfl ?_
  refine z_iload_n C 2 dX2_lamp_6 rfl ?_
  refine z_callSi C (As := [vI x, vI y]) (st := []) (y := yX2_isCell) (w := wsX2_isCell) (rm := rm_X2_isCell) (wr := (mx cI h σ LI BR γ φ 0)) (k' := 0) (n' := 0) [] [0, 1, 2, 3, 4, 5, 6, 7, 8] (c_X2_isCell l D cI cJ  x y (by omega) (by omega)) (va_cwS 2 C.1.2.2.2.2 gX2_lamp_X2_isCell rfl rfl rfl (by decide +kernel) ⟨Nat.le_of_ble_eq_true rfl, Nat.le_of_ble_eq_true rfl⟩) rfl rfl rfl rfl rfl (by decide) rfl rfl (Nat.le_of_ble_eq_true rfl) rfl rfl ⟨Nat.le_of_ble_eq_true rfl, Nat.le_of_ble_eq_true rfl⟩ dX2_lamp_7 ?_
  rintro z_7 _ ⟨rfl, hz_7⟩
  refine z_ws (ws' := (mx cI h σ LI BR γ φ 0)) rfl ?_
  have r_7 : z_7 = 0 ∨ z_7 = 1 := by rw [hz_7]; exact bI_01 _
  have hz_7 : z_7 = bI (decide (0 ≤ x) && decide (x ≤ 11) && (decide (0 ≤ y) && decide (y ≤ 11))) := hz_7
  have i_7 := isC_c hz_7
  refine z_if_ne C (tgt := 19) dX2_lamp_10 (by decide) (by omega) (fun c_10 => ?_) (fun c_10 => ?_)
  ·
    refine z_iload_n C 3 dX2_lamp_19 rfl ?_
    refine z_iconst C dX2_lamp_20 ?_
    refine z_bipush C dX2_lamp_21 (by decide) ?_
    refine z_callSi C (As := [vI r, vI 1, vI 12]) (st := []) (y := yX2_isIn) (w := wsX2_isIn) (rm := rm_X2_isIn) (wr := (mx cI h σ LI BR γ φ 0)) (k' := 0) (n' := 0) [] [0, 1, 2, 3, 4, 5, 6, 7, 8] (c_X2_isIn l D cI cJ  r 1 12 (by omega) (by omega) (by omega)) (va_cwS 3 C.1.2.2.2.2 gX2_lamp_X2_isIn rfl rfl rfl (by decide +kernel) ⟨Nat.le_of_ble_eq_true rfl, Nat.le_of_ble_eq_true rfl⟩) rfl rfl rfl rfl rfl (by decide) rfl rfl (Nat.le_of_ble_eq_true rfl) rfl rfl ⟨Nat.le_of_ble_eq_true rfl, Nat.le_of_ble_eq_true rfl⟩ dX2_lamp_23 ?_
    rintro z_23 _ ⟨rfl, hz_23⟩
    refine z_ws (ws' := (mx cI h σ LI BR γ φ 0)) rfl ?_
    have r_23 : z_23 = 0 ∨ z_23 = 1 := by rw [hz_23]; exact bI_01 _
    have hz_23 : z_23 = bI (decide (1 ≤ r) && decide (r ≤ 12)) := hz_23
    have i_23 := isIn_c hz_23
    refine z_if_ne C (tgt := 35) dX2_lamp_26 (by decide) (by omega) (fun c_26 => ?_) (fun c_26 => ?_)
    ·
      exfalso; omega
    ·
      refine z_aload_n C 0 dX2_lamp_29 rfl ?_
      refine z_iconst C dX2_lamp_30 ?_
      refine z_callVi C (As := [vI 2]) (st := []) (y := yX2_no) (w := wsX2_no) (rm := rm_X2_no) (wr := []) (k' := 0) (n' := 0) [0, 1, 2, 3, 4, 5, 6, 7, 8] [] 0 (c_X2_no l D cI cJ h σ LI BR γ φ 0 2 ) (cwV 1 C.1.2.2.2.2 gX2_lamp_X2_no rfl rfl rfl (by decide +kernel) ⟨Nat.le_of_ble_eq_true rfl, Nat.le_of_ble_eq_true rfl⟩) rfl rfl rfl rfl rfl (by decide) rfl rfl rfl rfl (Nat.le_of_ble_eq_true rfl) rfl rfl ⟨Nat.le_of_ble_eq_true rfl, Nat.le_of_ble_eq_true rfl⟩ dX2_lamp_31 ?_
      rintro z_31 _ ⟨rfl, rfl⟩
      refine z_ws (ws' := (mx cI h σ LI BR γ φ 2)) rfl ?_
      refine z_st (v' := 0) rfl ?_
      exact hret _ _ _ _ dX2_lamp_34 ⟨rfl, by rfl⟩
  ·
    exfalso; omega

set_option maxHeartbeats 4000000 in
set_option maxRecDepth 100000 in
theorem b3_X2_lamp (l : Launch) (D : va_G) (cI cJ : ClassId) (h : Nat → Nat) (σ : YS) (LI BR : Nat → Int) (γ : YS) (φ : Nat → Int) (θ : Int) (x y r : Int) (hr : rng x ∧ rng y ∧ rng r) (hO : Ok σ) (hb : ((0 ≤ x ∧ x < 12) ∧ 0 ≤ y ∧ y < 12) ∧ (1 ≤ r ∧ r < 13) ∧ σ 4 0 = 4) : Ci l yX2_lamp wsX2_lamp rm_X2_lamp D [(cI, .int), (cJ, .long)] [.ref (h 0), vI x, vI y, vI r] (mx cI h σ LI BR γ φ θ) (fun z u => u = (mx cI h σ LI BR γ φ 3) ∧ z = 0) := by
  refine z_ofi (own := RX2) (cc := cX2_lamp) (maxL := 4) (lv := [(0, .ref (h 0)), (1, vI x), (2, vI y), (3, vI r)]) (by decide) rfl rfl (Nat.le_of_ble_eq_true rfl) rfl ?_
  intro p e s m args below meth cd Q A C hret
  have hn := hO.1
  have hm := hO.2.1
  have en := nLa_e hO
  have em := nWa_e hO
  refine z_aload_n C 0 dX2_lamp_0 rfl ?_
  refine z_iconst C dX2_lamp_1 ?_
  refine z_put C (ref := "ShadowWallsModel") (T := TX2) (N := 14) (ci := 2) (ty := .int) (ws' := (mx cI h σ LI BR γ φ 0)) 0 0 inU_X2_X2_lamp tyX2 tyX2_ok nmX2 rfl rfl (by decide) (by decide +kernel) (fun _ h9 => h9) rfl (by decide +kernel) (rfl) (rfl) (Nat.le_of_ble_eq_true rfl) rfl dX2_lamp_2 ?_
  refine z_iload_n C 1 dX2_lamp_5 rfl ?_
  refine z_iload_n C 2 dX2_lamp_6 rfl ?_
  refine z_callSi C (As := [vI x, vI y]) (st := []) (y := yX2_isCell) (w := wsX2_isCell) (rm := rm_X2_isCell) (wr := (mx cI h σ LI BR γ φ 0)) (k' := 0) (n' := 0) [] [0, 1, 2, 3, 4, 5, 6, 7, 8] (c_X2_isCell l D cI cJ  x y (by omega) (by omega)) (va_cwS 2 C.1.2.2.2.2 gX2_lamp_X2_isCell rfl rfl rfl (by decide +kernel) ⟨Nat.le_of_ble_eq_true rfl, Nat.le_of_ble_eq_true rfl⟩) rfl rfl rfl rfl rfl (by decide) rfl rfl (Nat.le_of_ble_eq_true rfl) rfl rfl ⟨Nat.le_of_ble_eq_true rfl, Nat.le_of_ble_eq_true rfl⟩ dX2_lamp_7 ?_
  rintro z_7 _ ⟨rfl, hz_7⟩
  refine z_ws (ws' := (mx cI h σ LI BR γ φ 0)) rfl ?_
  have r_7 : z_7 = 0 ∨ z_7 = 1 := by rw [hz_7]; exact bI_01 _
  have hz_7 : z_7 = bI (decide (0 ≤ x) && decide (x ≤ 11) && (decide (0 ≤ y) && decide (y ≤ 11))) := hz_7
  have i_7 := isC_c hz_7
  refine z_if_ne C (tgt := 19) dX2_lamp_10 (by decide) (by omega) (fun c_10 => ?_) (fun c_10 => ?_)
  ·
    refine z_iload_n C 3 dX2_lamp_19 rfl ?_
    refine z_iconst C dX2_lamp_20 ?_
    refine z_bipush C dX2_lamp_21 (by decide) ?_
    refine z_callSi C (As := [vI r, vI 1, vI 12]) (st := []) (y := yX2_isIn) (w := wsX2_isIn) (rm := rm_X2_isIn) (wr := (mx cI h σ LI BR γ φ 0)) (k' := 0) (n' := 0) [] [0, 1, 2, 3, 4, 5, 6, 7, 8] (c_X2_isIn l D cI cJ  r 1 12 (by omega) (by omega) (by omega)) (va_cwS 3 C.1.2.2.2.2 gX2_lamp_X2_isIn rfl rfl rfl (by decide +kernel) ⟨Nat.le_of_ble_eq_true rfl, Nat.le_of_ble_eq_true rfl⟩) rfl rfl rfl rfl rfl (by decide) rfl rfl (Nat.le_of_ble_eq_true rfl) rfl rfl ⟨Nat.le_of_ble_eq_true rfl, Nat.le_of_ble_eq_true rfl⟩ dX2_lamp_23 ?_
    rintro z_23 _ ⟨rfl, hz_23⟩
    refine z_ws (ws' := (mx cI h σ LI BR γ φ 0)) rfl ?_
    have r_23 : z_23 = 0 ∨ z_23 = 1 := by rw [hz_23]; exact bI_01 _
    have hz_23 : z_23 = bI (decide (1 ≤ r) && decide (r ≤ 12)) := hz_23
    have i_23 := isIn_c hz_23
    refine z_if_ne C (tgt := 35) dX2_lamp_26 (by decide) (by omega) (fun c_26 => ?_) (fun c_26 => ?_)
    ·
      refine z_aload_n C 0 dX2_lamp_35 rfl ?_
      refine z_get C (v := vI (σ 4 0)) (ref := "ShadowWallsModel") (T := TX2) (N := 14) (ci := 2) 0 2 inU_X2_X2_lamp rfl rfl (by decide) (by decide +kernel) (fun _ h9 => h9) rfl dX2_lamp_36 ?_
      refine z_iconst C dX2_lamp_39 ?_
      refine z_icmp_eq C (tgt := 57) dX2_lamp_40 (by decide) (by omega) (by omega) (fun c_40 => ?_) (fun c_40 => ?_)
      ·
        refine z_aload_n C 0 dX2_lamp_57 rfl ?_
        refine z_iconst C dX2_lamp_58 ?_
        refine z_callVi C (As := [vI 3]) (st := []) (y := yX2_no) (w := wsX2_no) (rm := rm_X2_no) (wr := []) (k' := 0) (n' := 0) [0, 1, 2, 3, 4, 5, 6, 7, 8] [] 0 (c_X2_no l D cI cJ h σ LI BR γ φ 0 3 ) (cwV 1 C.1.2.2.2.2 gX2_lamp_X2_no rfl rfl rfl (by decide +kernel) ⟨Nat.le_of_ble_eq_true rfl, Nat.le_of_ble_eq_true rfl⟩) rfl rfl rfl rfl rfl (by decide) rfl rfl rfl rfl (Nat.le_of_ble_eq_true rfl) rfl rfl ⟨Nat.le_of_ble_eq_true rfl, Nat.le_of_ble_eq_true rfl⟩ dX2_lamp_59 ?_
        rintro z_59 _ ⟨rfl, rfl⟩
        refine z_ws (ws' := (mx cI h σ LI BR γ φ 3)) rfl ?_
        refine z_st (v' := 0) rfl ?_
        exact hret _ _ _ _ dX2_lamp_62 ⟨rfl, by rfl⟩
      ·
        exfalso; omega
    ·
      exfalso; omega
  ·
    exfalso; omega

set_option maxHeartbeats 4000000 in
set_option maxRecDepth 100000 in
theorem b4_X2_lamp (l : Launch) (D : va_G) (cI cJ : ClassId) (h : Nat → Nat) (σ : YS) (LI BR : Nat → Int) (γ : YS) (φ : Nat → Int) (θ : Int) (x y r : Int) (hr : rng x ∧ rng y ∧ rng r) (hO : Ok σ) (hb : (((0 ≤ x ∧ x < 12) ∧ 0 ≤ y ∧ y < 12) ∧ (1 ≤ r ∧ r < 13) ∧ σ 4 0 < 4) ∧ lampB σ (12 * y + x) = true) : Ci l yX2_lamp wsX2_lamp rm_X2_lamp D [(cI, .int), (cJ, .long)] [.ref (h 0), vI x, vI y, vI r] (mx cI h σ LI BR γ φ θ) (fun z u => u = (mx cI h σ LI BR γ φ 3) ∧ z = 0) := by
  refine z_ofi (own := RX2) (cc := cX2_lamp) (maxL := 4) (lv := [(0, .ref (h 0)), (1, vI x), (2, vI y), (3, vI r)]) (by decide) rfl rfl (Nat.le_of_ble_eq_true rfl) rfl ?_
  intro p e s m args below meth cd Q A C hret
  have hn := hO.1
  have hm := hO.2.1
  have en := nLa_e hO
  have em := nWa_e hO
  refine z_aload_n C 0 dX2_lamp_0 rfl ?_
  refine z_iconst C dX2_lamp_1 ?_
  refine z_put C (ref := "ShadowWallsModel") (T := TX2) (N := 14) (ci := 2) (ty := .int) (ws' := (mx cI h σ LI BR γ φ 0)) 0 0 inU_X2_X2_lamp tyX2 tyX2_ok nmX2 rfl rfl (by decide) (by decide +kernel) (fun _ h9 => h9) rfl (by decide +kernel) (rfl) (rfl) (Nat.le_of_ble_eq_true rfl) rfl dX2_lamp_2 ?_
  refine z_iload_n C 1 dX2_lamp_5 rfl ?_
  refine z_iload_n C 2 dX2_lamp_6 rfl ?_
  refine z_callSi C (As := [vI x, vI y]) (st := []) (y := yX2_isCell) (w := wsX2_isCell) (rm := rm_X2_isCell) (wr := (mx cI h σ LI BR γ φ 0)) (k' := 0) (n' := 0) [] [0, 1, 2, 3, 4, 5, 6, 7, 8] (c_X2_isCell l D cI cJ  x y (by omega) (by omega)) (va_cwS 2 C.1.2.2.2.2 gX2_lamp_X2_isCell rfl rfl rfl (by decide +kernel) ⟨Nat.le_of_ble_eq_true rfl, Nat.le_of_ble_eq_true rfl⟩) rfl rfl rfl rfl rfl (by decide) rfl rfl (Nat.le_of_ble_eq_true rfl) rfl rfl ⟨Nat.le_of_ble_eq_true rfl, Nat.le_of_ble_eq_true rfl⟩ dX2_lamp_7 ?_
  rintro z_7 _ ⟨rfl, hz_7⟩
  refine z_ws (ws' := (mx cI h σ LI BR γ φ 0)) rfl ?_
  have r_7 : z_7 = 0 ∨ z_7 = 1 := by rw [hz_7]; exact bI_01 _
  have hz_7 : z_7 = bI (decide (0 ≤ x) && decide (x ≤ 11) && (decide (0 ≤ y) && decide (y ≤ 11))) := hz_7
  have i_7 := isC_c hz_7
  refine z_if_ne C (tgt := 19) dX2_lamp_10 (by decide) (by omega) (fun c_10 => ?_) (fun c_10 => ?_)
  ·
    refine z_iload_n C 3 dX2_lamp_19 rfl ?_
    refine z_iconst C dX2_lamp_20 ?_
    refine z_bipush C dX2_lamp_21 (by decide) ?_
    refine z_callSi C (As := [vI r, vI 1, vI 12]) (st := []) (y := yX2_isIn) (w := wsX2_isIn) (rm := rm_X2_isIn) (wr := (mx cI h σ LI BR γ φ 0)) (k' := 0) (n' := 0) [] [0, 1, 2, 3, 4, 5, 6, 7, 8] (c_X2_isIn l D cI cJ  r 1 12 (by omega) (by omega) (by omega)) (va_cwS 3 C.1.2.2.2.2 gX2_lamp_X2_isIn rfl rfl rfl (by decide +kernel) ⟨Nat.le_of_ble_eq_true rfl, Nat.le_of_ble_eq_true rfl⟩) rfl rfl rfl rfl rfl (by decide) rfl rfl (Nat.le_of_ble_eq_true rfl) rfl rfl ⟨Nat.le_of_ble_eq_true rfl, Nat.le_of_ble_eq_true rfl⟩ dX2_lamp_23 ?_
    rintro z_23 _ ⟨rfl, hz_23⟩
    refine z_ws (ws' := (mx cI h σ LI BR γ φ 0)) rfl ?_
    have r_23 : z_23 = 0 ∨ z_23 = 1 := by rw [hz_23]; exact bI_01 _
    have hz_23 : z_23 = bI (decide (1 ≤ r) && decide (r ≤ 12)) := hz_23
    have i_23 := isIn_c hz_23
    refine z_if_ne C (tgt := 35) dX2_lamp_26 (by decide) (by omega) (fun c_26 => ?_) (fun c_26 => ?_)
    ·
      refine z_aload_n C 0 dX2_lamp_35 rfl ?_
      refine z_get C (v := vI (σ 4 0)) (ref := "ShadowWallsModel") (T := TX2) (N := 14) (ci := 2) 0 2 inU_X2_X2_lamp rfl rfl (by decide) (by decide +kernel) (fun _ h9 => h9) rfl dX2_lamp_36 ?_
      refine z_iconst C dX2_lamp_39 ?_
      refine z_icmp_eq C (tgt := 57) dX2_lamp_40 (by decide) (by omega) (by omega) (fun c_40 => ?_) (fun c_40 => ?_)
      ·
        refine z_aload_n C 0 dX2_lamp_57 rfl ?_
        refine z_iconst C dX2_lamp_58 ?_
        refine z_callVi C (As := [vI 3]) (st := []) (y := yX2_no) (w := wsX2_no) (rm := rm_X2_no) (wr := []) (k' := 0) (n' := 0) [0, 1, 2, 3, 4, 5, 6, 7, 8] [] 0 (c_X2_no l D cI cJ h σ LI BR γ φ 0 3 ) (cwV 1 C.1.2.2.2.2 gX2_lamp_X2_no rfl rfl rfl (by decide +kernel) ⟨Nat.le_of_ble_eq_true rfl, Nat.le_of_ble_eq_true rfl⟩) rfl rfl rfl rfl rfl (by decide) rfl rfl rfl rfl (Nat.le_of_ble_eq_true rfl) rfl rfl ⟨Nat.le_of_ble_eq_true rfl, Nat.le_of_ble_eq_true rfl⟩ dX2_lamp_59 ?_
        rintro z_59 _ ⟨rfl, rfl⟩
        refine z_ws (ws' := (mx cI h σ LI BR γ φ 3)) rfl ?_
        refine z_st (v' := 0) rfl ?_
        exact hret _ _ _ _ dX2_lamp_62 ⟨rfl, by rfl⟩
      ·
        refine z_aload_n C 0 dX2_lamp_43 rfl ?_
        refine z_bipush C dX2_lamp_44 (by decide) ?_
        refine z_iload_n C 2 dX2_lamp_46 rfl ?_
        refine z_imul C dX2_lamp_47 ?_
        refine z_iload_n C 1 dX2_lamp_48 rfl ?_
        refine z_iadd C dX2_lamp_49 ?_
        refine z_callVi C (As := [vI ((12 * y) + x)]) (st := []) (y := yX2_lampOn) (w := wsX2_lampOn) (rm := rm_X2_lampOn) (wr := []) (k' := 0) (n' := 0) [0, 1, 2, 3, 4, 5, 6, 7, 8] [] 0 (c_X2_lampOn l D cI cJ h σ LI BR γ φ 0 ((12 * y) + x) (by omega) hO) (cwV 1 C.1.2.2.2.2 gX2_lamp_X2_lampOn rfl rfl rfl (by decide +kernel) ⟨Nat.le_of_ble_eq_true rfl, Nat.le_of_ble_eq_true rfl⟩) rfl rfl rfl rfl rfl (by decide) rfl rfl rfl rfl (Nat.le_of_ble_eq_true rfl) rfl rfl ⟨Nat.le_of_ble_eq_true rfl, Nat.le_of_ble_eq_true rfl⟩ dX2_lamp_50 ?_
        rintro z_50 _ ⟨rfl, f0_50⟩
        refine z_ws (ws' := (mx cI h σ LI BR γ φ 0)) rfl ?_
        have l_50 : 0 ≤ z_50 := f0_50.elim (fun q => q.2.1.1) (fun q => absurd (hb.2.symm.trans q.1) (by decide))
        refine z_iconst C dX2_lamp_53 ?_
        refine z_icmp_eq C (tgt := 63) dX2_lamp_54 (by decide) (by omega) (by omega) (fun c_54 => ?_) (fun c_54 => ?_)
        ·
          exfalso; omega
        ·
          refine z_aload_n C 0 dX2_lamp_57 rfl ?_
          refine z_iconst C dX2_lamp_58 ?_
          refine z_callVi C (As := [vI 3]) (st := []) (y := yX2_no) (w := wsX2_no) (rm := rm_X2_no) (wr := []) (k' := 0) (n' := 0) [0, 1, 2, 3, 4, 5, 6, 7, 8] [] 0 (c_X2_no l D cI cJ h σ LI BR γ φ 0 3 ) (cwV 1 C.1.2.2.2.2 gX2_lamp_X2_no rfl rfl rfl (by decide +kernel) ⟨Nat.le_of_ble_eq_true rfl, Nat.le_of_ble_eq_true rfl⟩) rfl rfl rfl rfl rfl (by decide) rfl rfl rfl rfl (Nat.le_of_ble_eq_true rfl) rfl rfl ⟨Nat.le_of_ble_eq_true rfl, Nat.le_of_ble_eq_true rfl⟩ dX2_lamp_59 ?_
          rintro z_59 _ ⟨rfl, rfl⟩
          refine z_ws (ws' := (mx cI h σ LI BR γ φ 3)) rfl ?_
          refine z_st (v' := 0) rfl ?_
          exact hret _ _ _ _ dX2_lamp_62 ⟨rfl, by rfl⟩
    ·
      exfalso; omega
  ·
    exfalso; omega

set_option maxRecDepth 100000 in
theorem inU_X2_X2_carry : ∀ w ∈ u_ws RX2 TX2 14, w ∈ wsX2_carry := by decide +kernel
abbrev rm_X2_carry : Room := { frames := 5, cells := 0, slots := 0, locals := 124 }
set_option maxHeartbeats 4000000 in
set_option maxRecDepth 100000 in
theorem c_X2_carry (l : Launch) (D : va_G) (cI cJ : ClassId) (h : Nat → Nat) (σ : YS) (LI BR : Nat → Int) (γ : YS) (φ : Nat → Int) (θ : Int) (k x y : Int) (hk : 0 ≤ k ∧ k < σ 4 0) (hx : 0 ≤ x ∧ x < 12) (hy : 0 ≤ y ∧ y < 12) (hla : lampB σ (12 * y + x) = false) (hO : Ok σ) (hL : LI4 LI) : Ci l yX2_carry wsX2_carry rm_X2_carry D [(cI, .int), (cJ, .long)] [.ref (h 0), vI k, vI x, vI y] (mx cI h σ LI BR γ φ θ) (fun z u => ∃ φ' : Nat → Int, u = (mx cI h (sU σ 1 k.toNat (12 * y + x)) (lkF (lgV (sU σ 1 k.toNat (12 * y + x))) LI 144) (lkF (brV (sU σ 1 k.toNat (12 * y + x))) BR 144) γ φ' 0) ∧ z = litC (lgV (sU σ 1 k.toNat (12 * y + x)))) := by
  refine z_ofi (own := RX2) (cc := cX2_carry) (maxL := 4) (lv := [(0, .ref (h 0)), (1, vI k), (2, vI x), (3, vI y)]) (by decide) rfl rfl (Nat.le_of_ble_eq_true rfl) rfl ?_
  intro p e s m args below meth cd Q A C hret
  have hn := hO.1
  have hm := hO.2.1
  have en := nLa_e hO
  have em := nWa_e hO
  have hcc : 0 ≤ 12 * y + x ∧ 12 * y + x < 144 := by omega
  have ecc : (((12 * y + x).toNat : Nat) : Int) = 12 * y + x := Int.toNat_of_nonneg hcc.1
  refine z_aload_n C 0 dX2_carry_0 rfl ?_
  refine z_iconst C dX2_carry_1 ?_
  refine z_put C (ref := "ShadowWallsModel") (T := TX2) (N := 14) (ci := 2) (ty := .int) (ws' := (mx cI h σ LI BR γ φ 0)) 0 0 inU_X2_X2_carry tyX2 tyX2_ok nmX2 rfl rfl (by decide) (by decide +kernel) (fun _ h9 => h9) rfl (by decide +kernel) (rfl) (rfl) (Nat.le_of_ble_eq_true rfl) rfl dX2_carry_2 ?_
  refine z_aload_n C 0 dX2_carry_5 rfl ?_
  refine z_iload_n C 1 dX2_carry_6 rfl ?_
  refine z_callVi C (As := [vI k]) (st := []) (y := yX2_isLamp) (w := wsX2_isLamp) (rm := rm_X2_isLamp) (wr := []) (k' := 0) (n' := 0) [0, 1, 2, 3, 4, 5, 6, 7, 8] [] 0 (c_X2_isLamp l D cI cJ h σ LI BR γ φ 0 k (by omega) hO) (cwV 1 C.1.2.2.2.2 gX2_carry_X2_isLamp rfl rfl rfl (by decide +kernel) ⟨Nat.le_of_ble_eq_true rfl, Nat.le_of_ble_eq_true rfl⟩) rfl rfl rfl rfl rfl (by decide) rfl rfl rfl rfl (Nat.le_of_ble_eq_true rfl) rfl rfl ⟨Nat.le_of_ble_eq_true rfl, Nat.le_of_ble_eq_true rfl⟩ dX2_carry_7 ?_
  rintro z_7 _ ⟨rfl, hz_7⟩
  refine z_ws (ws' := (mx cI h σ LI BR γ φ 0)) rfl ?_
  have r_7 : z_7 = 0 ∨ z_7 = 1 := by rw [hz_7]; exact bI_01 _
  have hz_7 : z_7 = bI (decide (0 ≤ k) && decide (k ≤ σ 4 0 - 1)) := hz_7
  have i_7 := isIn_c hz_7
  refine z_if_eq C (tgt := 21) dX2_carry_10 (by decide) (by omega) (fun c_10 => ?_) (fun c_10 => ?_)
  ·
    exfalso; omega
  ·
    refine z_iload_n C 2 dX2_carry_13 rfl ?_
    refine z_iload_n C 3 dX2_carry_14 rfl ?_
    refine z_callSi C (As := [vI x, vI y]) (st := []) (y := yX2_isCell) (w := wsX2_isCell) (rm := rm_X2_isCell) (wr := (mx cI h σ LI BR γ φ 0)) (k' := 0) (n' := 0) [] [0, 1, 2, 3, 4, 5, 6, 7, 8] (c_X2_isCell l D cI cJ  x y (by omega) (by omega)) (va_cwS 2 C.1.2.2.2.2 gX2_carry_X2_isCell rfl rfl rfl (by decide +kernel) ⟨Nat.le_of_ble_eq_true rfl, Nat.le_of_ble_eq_true rfl⟩) rfl rfl rfl rfl rfl (by decide) rfl rfl (Nat.le_of_ble_eq_true rfl) rfl rfl ⟨Nat.le_of_ble_eq_true rfl, Nat.le_of_ble_eq_true rfl⟩ dX2_carry_15 ?_
    rintro z_15 _ ⟨rfl, hz_15⟩
    refine z_ws (ws' := (mx cI h σ LI BR γ φ 0)) rfl ?_
    have r_15 : z_15 = 0 ∨ z_15 = 1 := by rw [hz_15]; exact bI_01 _
    have hz_15 : z_15 = bI (decide (0 ≤ x) && decide (x ≤ 11) && (decide (0 ≤ y) && decide (y ≤ 11))) := hz_15
    have i_15 := isC_c hz_15
    refine z_if_ne C (tgt := 27) dX2_carry_18 (by decide) (by omega) (fun c_18 => ?_) (fun c_18 => ?_)
    ·
      refine z_aload_n C 0 dX2_carry_27 rfl ?_
      refine z_bipush C dX2_carry_28 (by decide) ?_
      refine z_iload_n C 3 dX2_carry_30 rfl ?_
      refine z_imul C dX2_carry_31 ?_
      refine z_iload_n C 2 dX2_carry_32 rfl ?_
      refine z_iadd C dX2_carry_33 ?_
      refine z_callVi C (As := [vI ((12 * y) + x)]) (st := []) (y := yX2_lampOn) (w := wsX2_lampOn) (rm := rm_X2_lampOn) (wr := []) (k' := 0) (n' := 0) [0, 1, 2, 3, 4, 5, 6, 7, 8] [] 0 (c_X2_lampOn l D cI cJ h σ LI BR γ φ 0 ((12 * y) + x) (by omega) hO) (cwV 1 C.1.2.2.2.2 gX2_carry_X2_lampOn rfl rfl rfl (by decide +kernel) ⟨Nat.le_of_ble_eq_true rfl, Nat.le_of_ble_eq_true rfl⟩) rfl rfl rfl rfl rfl (by decide) rfl rfl rfl rfl (Nat.le_of_ble_eq_true rfl) rfl rfl ⟨Nat.le_of_ble_eq_true rfl, Nat.le_of_ble_eq_true rfl⟩ dX2_carry_34 ?_
      rintro z_34 _ ⟨rfl, f0_34⟩
      refine z_ws (ws' := (mx cI h σ LI BR γ φ 0)) rfl ?_
      have l_34 : z_34 = -1 := f0_34.elim (fun q => absurd (q.1.symm.trans hla) (by decide)) (fun q => q.2)
      refine z_iconst C dX2_carry_37 ?_
      refine z_icmp_eq C (tgt := 47) dX2_carry_38 (by decide) (by omega) (by omega) (fun c_38 => ?_) (fun c_38 => ?_)
      ·
        refine z_aload_n C 0 dX2_carry_47 rfl ?_
        refine z_get C (v := .ref (h 2)) (ref := "ShadowWallsModel") (T := TX2) (N := 14) (ci := 2) 0 3 inU_X2_X2_carry rfl rfl (by decide) (by decide +kernel) (fun _ h9 => h9) rfl dX2_carry_48 ?_
        refine z_iload_n C 1 dX2_carry_51 rfl ?_
        refine z_bipush C dX2_carry_52 (by decide) ?_
        refine z_iload_n C 3 dX2_carry_54 rfl ?_
        refine z_imul C dX2_carry_55 ?_
        refine z_iload_n C 2 dX2_carry_56 rfl ?_
        refine z_iadd C dX2_carry_57 ?_
        refine z_iast C (cA := cI) (N := 4) (f := σ 1) (ws' := (mx cI h (sU σ 1 (k.toNat) ((12 * y) + x)) LI BR γ φ 0)) 2 0 rfl rfl (by decide) (by omega) rfl dX2_carry_58 ?_
        refine z_aload_n C 0 dX2_carry_59 rfl ?_
        refine z_callVi C (As := []) (st := []) (y := yX2_look) (w := wsX2_look) (rm := rm_X2_look) (wr := []) (k' := 0) (n' := 0) [0, 1, 2, 3, 4, 5, 6, 7, 8] [] 0 (c_X2_look l D cI cJ h (sU σ 1 (k.toNat) ((12 * y) + x)) LI BR γ φ 0  (Ok_carry hO (by omega) hcc) hL) (cwV 0 C.1.2.2.2.2 gX2_carry_X2_look rfl rfl rfl (by decide +kernel) ⟨Nat.le_of_ble_eq_true rfl, Nat.le_of_ble_eq_true rfl⟩) rfl rfl rfl rfl rfl (by decide) rfl rfl rfl rfl (Nat.le_of_ble_eq_true rfl) rfl rfl ⟨Nat.le_of_ble_eq_true rfl, Nat.le_of_ble_eq_true rfl⟩ dX2_carry_60 ?_
        rintro z_60 _ ⟨φ'_60, rfl, hz_60⟩
        refine z_ws (ws' := (mx cI h ((sU σ 1 (k.toNat) ((12 * y) + x))) (lkF (lgV (sU σ 1 (k.toNat) ((12 * y) + x))) LI 144) (lkF (brV (sU σ 1 (k.toNat) ((12 * y) + x))) BR 144) γ φ'_60 0)) rfl ?_
        have r_60 := smB_r (fun c => decide (lgV (sU σ 1 (k.toNat) ((12 * y) + x)) c ≠ 0)) 144
        rw [← hz_60] at r_60
        have hz_60 : z_60 = sm (fun c => bI (decide (lgV (sU σ 1 (k.toNat) ((12 * y) + x)) c ≠ 0))) 144 := hz_60
        exact hret _ _ _ _ dX2_carry_63 ⟨_, rfl, by exact hz_60⟩
      ·
        exfalso; omega
    ·
      exfalso; omega

set_option maxHeartbeats 4000000 in
set_option maxRecDepth 100000 in
theorem b1_X2_carry (l : Launch) (D : va_G) (cI cJ : ClassId) (h : Nat → Nat) (σ : YS) (LI BR : Nat → Int) (γ : YS) (φ : Nat → Int) (θ : Int) (k x y : Int) (hr : rng k ∧ rng x ∧ rng y) (hO : Ok σ) (hb : ¬ ((0 ≤ k ∧ k < σ 4 0) ∧ ((0 ≤ x ∧ x < 12) ∧ 0 ≤ y ∧ y < 12))) : Ci l yX2_carry wsX2_carry rm_X2_carry D [(cI, .int), (cJ, .long)] [.ref (h 0), vI k, vI x, vI y] (mx cI h σ LI BR γ φ θ) (fun z u => u = (mx cI h σ LI BR γ φ 1) ∧ z = 0) := by
  refine z_ofi (own := RX2) (cc := cX2_carry) (maxL := 4) (lv := [(0, .ref (h 0)), (1, vI k), (2, vI x), (3, vI y)]) (by decide) rfl rfl (Nat.le_of_ble_eq_true rfl) rfl ?_
  intro p e s m args below meth cd Q A C hret
  have hn := hO.1
  have hm := hO.2.1
  have en := nLa_e hO
  have em := nWa_e hO
  refine z_aload_n C 0 dX2_carry_0 rfl ?_
  refine z_iconst C dX2_carry_1 ?_
  refine z_put C (ref := "ShadowWallsModel") (T := TX2) (N := 14) (ci := 2) (ty := .int) (ws' := (mx cI h σ LI BR γ φ 0)) 0 0 inU_X2_X2_carry tyX2 tyX2_ok nmX2 rfl rfl (by decide) (by decide +kernel) (fun _ h9 => h9) rfl (by decide +kernel) (rfl) (rfl) (Nat.le_of_ble_eq_true rfl) rfl dX2_carry_2 ?_
  refine z_aload_n C 0 dX2_carry_5 rfl ?_
  refine z_iload_n C 1 dX2_carry_6 rfl ?_
  refine z_callVi C (As := [vI k]) (st := []) (y := yX2_isLamp) (w := wsX2_isLamp) (rm := rm_X2_isLamp) (wr := []) (k' := 0) (n' := 0) [0, 1, 2, 3, 4, 5, 6, 7, 8] [] 0 (c_X2_isLamp l D cI cJ h σ LI BR γ φ 0 k (by omega) hO) (cwV 1 C.1.2.2.2.2 gX2_carry_X2_isLamp rfl rfl rfl (by decide +kernel) ⟨Nat.le_of_ble_eq_true rfl, Nat.le_of_ble_eq_true rfl⟩) rfl rfl rfl rfl rfl (by decide) rfl rfl rfl rfl (Nat.le_of_ble_eq_true rfl) rfl rfl ⟨Nat.le_of_ble_eq_true rfl, Nat.le_of_ble_eq_true rfl⟩ dX2_carry_7 ?_
  rintro z_7 _ ⟨rfl, hz_7⟩
  refine z_ws (ws' := (mx cI h σ LI BR γ φ 0)) rfl ?_
  have r_7 : z_7 = 0 ∨ z_7 = 1 := by rw [hz_7]; exact bI_01 _
  have hz_7 : z_7 = bI (decide (0 ≤ k) && decide (k ≤ σ 4 0 - 1)) := hz_7
  have i_7 := isIn_c hz_7
  refine z_if_eq C (tgt := 21) dX2_carry_10 (by decide) (by omega) (fun c_10 => ?_) (fun c_10 => ?_)
  ·
    refine z_aload_n C 0 dX2_carry_21 rfl ?_
    refine z_iconst C dX2_carry_22 ?_
    refine z_callVi C (As := [vI 1]) (st := []) (y := yX2_no) (w := wsX2_no) (rm := rm_X2_no) (wr := []) (k' := 0) (n' := 0) [0, 1, 2, 3, 4, 5, 6, 7, 8] [] 0 (c_X2_no l D cI cJ h σ LI BR γ φ 0 1 ) (cwV 1 C.1.2.2.2.2 gX2_carry_X2_no rfl rfl rfl (by decide +kernel) ⟨Nat.le_of_ble_eq_true rfl, Nat.le_of_ble_eq_true rfl⟩) rfl rfl rfl rfl rfl (by decide) rfl rfl rfl rfl (Nat.le_of_ble_eq_true rfl) rfl rfl ⟨Nat.le_of_ble_eq_true rfl, Nat.le_of_ble_eq_true rfl⟩ dX2_carry_23 ?_
    rintro z_23 _ ⟨rfl, rfl⟩
    refine z_ws (ws' := (mx cI h σ LI BR γ φ 1)) rfl ?_
    refine z_st (v' := 0) rfl ?_
    exact hret _ _ _ _ dX2_carry_26 ⟨rfl, by rfl⟩
  ·
    refine z_iload_n C 2 dX2_carry_13 rfl ?_
    refine z_iload_n C 3 dX2_carry_14 rfl ?_
    refine z_callSi C (As := [vI x, vI y]) (st := []) (y := yX2_isCell) (w := wsX2_isCell) (rm := rm_X2_isCell) (wr := (mx cI h σ LI BR γ φ 0)) (k' := 0) (n' := 0) [] [0, 1, 2, 3, 4, 5, 6, 7, 8] (c_X2_isCell l D cI cJ  x y (by omega) (by omega)) (va_cwS 2 C.1.2.2.2.2 gX2_carry_X2_isCell rfl rfl rfl (by decide +kernel) ⟨Nat.le_of_ble_eq_true rfl, Nat.le_of_ble_eq_true rfl⟩) rfl rfl rfl rfl rfl (by decide) rfl rfl (Nat.le_of_ble_eq_true rfl) rfl rfl ⟨Nat.le_of_ble_eq_true rfl, Nat.le_of_ble_eq_true rfl⟩ dX2_carry_15 ?_
    rintro z_15 _ ⟨rfl, hz_15⟩
    refine z_ws (ws' := (mx cI h σ LI BR γ φ 0)) rfl ?_
    have r_15 : z_15 = 0 ∨ z_15 = 1 := by rw [hz_15]; exact bI_01 _
    have hz_15 : z_15 = bI (decide (0 ≤ x) && decide (x ≤ 11) && (decide (0 ≤ y) && decide (y ≤ 11))) := hz_15
    have i_15 := isC_c hz_15
    refine z_if_ne C (tgt := 27) dX2_carry_18 (by decide) (by omega) (fun c_18 => ?_) (fun c_18 => ?_)
    ·
      exfalso; omega
    ·
      refine z_aload_n C 0 dX2_carry_21 rfl ?_
      refine z_iconst C dX2_carry_22 ?_
      refine z_callVi C (As := [vI 1]) (st := []) (y := yX2_no) (w := wsX2_no) (rm := rm_X2_no) (wr := []) (k' := 0) (n' := 0) [0, 1, 2, 3, 4, 5, 6, 7, 8] [] 0 (c_X2_no l D cI cJ h σ LI BR γ φ 0 1 ) (cwV 1 C.1.2.2.2.2 gX2_carry_X2_no rfl rfl rfl (by decide +kernel) ⟨Nat.le_of_ble_eq_true rfl, Nat.le_of_ble_eq_true rfl⟩) rfl rfl rfl rfl rfl (by decide) rfl rfl rfl rfl (Nat.le_of_ble_eq_true rfl) rfl rfl ⟨Nat.le_of_ble_eq_true rfl, Nat.le_of_ble_eq_true rfl⟩ dX2_carry_23 ?_
      rintro z_23 _ ⟨rfl, rfl⟩
      refine z_ws (ws' := (mx cI h σ LI BR γ φ 1)) rfl ?_
      refine z_st (v' := 0) rfl ?_
      exact hret _ _ _ _ dX2_carry_26 ⟨rfl, by rfl⟩

set_option maxHeartbeats 4000000 in
set_option maxRecDepth 100000 in
theorem b2_X2_carry (l : Launch) (D : va_G) (cI cJ : ClassId) (h : Nat → Nat) (σ : YS) (LI BR : Nat → Int) (γ : YS) (φ : Nat → Int) (θ : Int) (k x y : Int) (hr : rng k ∧ rng x ∧ rng y) (hO : Ok σ) (hb : ((0 ≤ k ∧ k < σ 4 0) ∧ ((0 ≤ x ∧ x < 12) ∧ 0 ≤ y ∧ y < 12)) ∧ lampB σ (12 * y + x) = true) : Ci l yX2_carry wsX2_carry rm_X2_carry D [(cI, .int), (cJ, .long)] [.ref (h 0), vI k, vI x, vI y] (mx cI h σ LI BR γ φ θ) (fun z u => u = (mx cI h σ LI BR γ φ 2) ∧ z = 0) := by
  refine z_ofi (own := RX2) (cc := cX2_carry) (maxL := 4) (lv := [(0, .ref (h 0)), (1, vI k), (2, vI x), (3, vI y)]) (by decide) rfl rfl (Nat.le_of_ble_eq_true rfl) rfl ?_
  intro p e s m args below meth cd Q A C hret
  have hn := hO.1
  have hm := hO.2.1
  have en := nLa_e hO
  have em := nWa_e hO
  refine z_aload_n C 0 dX2_carry_0 rfl ?_
  refine z_iconst C dX2_carry_1 ?_
  refine z_put C (ref := "ShadowWallsModel") (T := TX2) (N := 14) (ci := 2) (ty := .int) (ws' := (mx cI h σ LI BR γ φ 0)) 0 0 inU_X2_X2_carry tyX2 tyX2_ok nmX2 rfl rfl (by decide) (by decide +kernel) (fun _ h9 => h9) rfl (by decide +kernel) (rfl) (rfl) (Nat.le_of_ble_eq_true rfl) rfl dX2_carry_2 ?_
  refine z_aload_n C 0 dX2_carry_5 rfl ?_
  refine z_iload_n C 1 dX2_carry_6 rfl ?_
  refine z_callVi C (As := [vI k]) (st := []) (y := yX2_isLamp) (w := wsX2_isLamp) (rm := rm_X2_isLamp) (wr := []) (k' := 0) (n' := 0) [0, 1, 2, 3, 4, 5, 6, 7, 8] [] 0 (c_X2_isLamp l D cI cJ h σ LI BR γ φ 0 k (by omega) hO) (cwV 1 C.1.2.2.2.2 gX2_carry_X2_isLamp rfl rfl rfl (by decide +kernel) ⟨Nat.le_of_ble_eq_true rfl, Nat.le_of_ble_eq_true rfl⟩) rfl rfl rfl rfl rfl (by decide) rfl rfl rfl rfl (Nat.le_of_ble_eq_true rfl) rfl rfl ⟨Nat.le_of_ble_eq_true rfl, Nat.le_of_ble_eq_true rfl⟩ dX2_carry_7 ?_
  rintro z_7 _ ⟨rfl, hz_7⟩
  refine z_ws (ws' := (mx cI h σ LI BR γ φ 0)) rfl ?_
  have r_7 : z_7 = 0 ∨ z_7 = 1 := by rw [hz_7]; exact bI_01 _
  have hz_7 : z_7 = bI (decide (0 ≤ k) && decide (k ≤ σ 4 0 - 1)) := hz_7
  have i_7 := isIn_c hz_7
  refine z_if_eq C (tgt := 21) dX2_carry_10 (by decide) (by omega) (fun c_10 => ?_) (fun c_10 => ?_)
  ·
    exfalso; omega
  ·
    refine z_iload_n C 2 dX2_carry_13 rfl ?_
    refine z_iload_n C 3 dX2_carry_14 rfl ?_
    refine z_callSi C (As := [vI x, vI y]) (st := []) (y := yX2_isCell) (w := wsX2_isCell) (rm := rm_X2_isCell) (wr := (mx cI h σ LI BR γ φ 0)) (k' := 0) (n' := 0) [] [0, 1, 2, 3, 4, 5, 6, 7, 8] (c_X2_isCell l D cI cJ  x y (by omega) (by omega)) (va_cwS 2 C.1.2.2.2.2 gX2_carry_X2_isCell rfl rfl rfl (by decide +kernel) ⟨Nat.le_of_ble_eq_true rfl, Nat.le_of_ble_eq_true rfl⟩) rfl rfl rfl rfl rfl (by decide) rfl rfl (Nat.le_of_ble_eq_true rfl) rfl rfl ⟨Nat.le_of_ble_eq_true rfl, Nat.le_of_ble_eq_true rfl⟩ dX2_carry_15 ?_
    rintro z_15 _ ⟨rfl, hz_15⟩
    refine z_ws (ws' := (mx cI h σ LI BR γ φ 0)) rfl ?_
    have r_15 : z_15 = 0 ∨ z_15 = 1 := by rw [hz_15]; exact bI_01 _
    have hz_15 : z_15 = bI (decide (0 ≤ x) && decide (x ≤ 11) && (decide (0 ≤ y) && decide (y ≤ 11))) := hz_15
    have i_15 := isC_c hz_15
    refine z_if_ne C (tgt := 27) dX2_carry_18 (by decide) (by omega) (fun c_18 => ?_) (fun c_18 => ?_)
    ·
      refine z_aload_n C 0 dX2_carry_27 rfl ?_
      refine z_bipush C dX2_carry_28 (by decide) ?_
      refine z_iload_n C 3 dX2_carry_30 rfl ?_
      refine z_imul C dX2_carry_31 ?_
      refine z_iload_n C 2 dX2_carry_32 rfl ?_
      refine z_iadd C dX2_carry_33 ?_
      refine z_callVi C (As := [vI ((12 * y) + x)]) (st := []) (y := yX2_lampOn) (w := wsX2_lampOn) (rm := rm_X2_lampOn) (wr := []) (k' := 0) (n' := 0) [0, 1, 2, 3, 4, 5, 6, 7, 8] [] 0 (c_X2_lampOn l D cI cJ h σ LI BR γ φ 0 ((12 * y) + x) (by omega) hO) (cwV 1 C.1.2.2.2.2 gX2_carry_X2_lampOn rfl rfl rfl (by decide +kernel) ⟨Nat.le_of_ble_eq_true rfl, Nat.le_of_ble_eq_true rfl⟩) rfl rfl rfl rfl rfl (by decide) rfl rfl rfl rfl (Nat.le_of_ble_eq_true rfl) rfl rfl ⟨Nat.le_of_ble_eq_true rfl, Nat.le_of_ble_eq_true rfl⟩ dX2_carry_34 ?_
      rintro z_34 _ ⟨rfl, f0_34⟩
      refine z_ws (ws' := (mx cI h σ LI BR γ φ 0)) rfl ?_
      have l_34 : 0 ≤ z_34 := f0_34.elim (fun q => q.2.1.1) (fun q => absurd (hb.2.symm.trans q.1) (by decide))
      refine z_iconst C dX2_carry_37 ?_
      refine z_icmp_eq C (tgt := 47) dX2_carry_38 (by decide) (by omega) (by omega) (fun c_38 => ?_) (fun c_38 => ?_)
      ·
        exfalso; omega
      ·
        refine z_aload_n C 0 dX2_carry_41 rfl ?_
        refine z_iconst C dX2_carry_42 ?_
        refine z_callVi C (As := [vI 2]) (st := []) (y := yX2_no) (w := wsX2_no) (rm := rm_X2_no) (wr := []) (k' := 0) (n' := 0) [0, 1, 2, 3, 4, 5, 6, 7, 8] [] 0 (c_X2_no l D cI cJ h σ LI BR γ φ 0 2 ) (cwV 1 C.1.2.2.2.2 gX2_carry_X2_no rfl rfl rfl (by decide +kernel) ⟨Nat.le_of_ble_eq_true rfl, Nat.le_of_ble_eq_true rfl⟩) rfl rfl rfl rfl rfl (by decide) rfl rfl rfl rfl (Nat.le_of_ble_eq_true rfl) rfl rfl ⟨Nat.le_of_ble_eq_true rfl, Nat.le_of_ble_eq_true rfl⟩ dX2_carry_43 ?_
        rintro z_43 _ ⟨rfl, rfl⟩
        refine z_ws (ws' := (mx cI h σ LI BR γ φ 2)) rfl ?_
        refine z_st (v' := 0) rfl ?_
        exact hret _ _ _ _ dX2_carry_46 ⟨rfl, by rfl⟩
    ·
      exfalso; omega

set_option maxRecDepth 100000 in
theorem inU_X2_X2_turn : ∀ w ∈ u_ws RX2 TX2 14, w ∈ wsX2_turn := by decide +kernel
abbrev rm_X2_turn : Room := { frames := 2, cells := 0, slots := 0, locals := 43 }
set_option maxHeartbeats 4000000 in
set_option maxRecDepth 100000 in
theorem c_X2_turn (l : Launch) (D : va_G) (cI cJ : ClassId) (h : Nat → Nat) (σ : YS) (LI BR : Nat → Int) (γ : YS) (φ : Nat → Int) (θ : Int) (k r : Int) (hk : 0 ≤ k ∧ k < σ 4 0) (hr : 1 ≤ r ∧ r < 13) (hO : Ok σ) (hL : LI4 LI) : Ci l yX2_turn wsX2_turn rm_X2_turn D [(cI, .int), (cJ, .long)] [.ref (h 0), vI k, vI r] (mx cI h σ LI BR γ φ θ) (fun z u => u = (mx cI h (sU σ 2 k.toNat r) LI BR γ φ 0) ∧ z = σ 2 k.toNat) := by
  refine z_ofi (own := RX2) (cc := cX2_turn) (maxL := 4) (lv := [(0, .ref (h 0)), (1, vI k), (2, vI r)]) (by decide) rfl rfl (Nat.le_of_ble_eq_true rfl) rfl ?_
  intro p e s m args below meth cd Q A C hret
  have hn := hO.1
  have hm := hO.2.1
  have en := nLa_e hO
  have em := nWa_e hO
  refine z_aload_n C 0 dX2_turn_0 rfl ?_
  refine z_iconst C dX2_turn_1 ?_
  refine z_put C (ref := "ShadowWallsModel") (T := TX2) (N := 14) (ci := 2) (ty := .int) (ws' := (mx cI h σ LI BR γ φ 0)) 0 0 inU_X2_X2_turn tyX2 tyX2_ok nmX2 rfl rfl (by decide) (by decide +kernel) (fun _ h9 => h9) rfl (by decide +kernel) (rfl) (rfl) (Nat.le_of_ble_eq_true rfl) rfl dX2_turn_2 ?_
  refine z_aload_n C 0 dX2_turn_5 rfl ?_
  refine z_iload_n C 1 dX2_turn_6 rfl ?_
  refine z_callVi C (As := [vI k]) (st := []) (y := yX2_isLamp) (w := wsX2_isLamp) (rm := rm_X2_isLamp) (wr := []) (k' := 0) (n' := 0) [0, 1, 2, 3, 4, 5, 6, 7, 8] [] 0 (c_X2_isLamp l D cI cJ h σ LI BR γ φ 0 k (by omega) hO) (cwV 1 C.1.2.2.2.2 gX2_turn_X2_isLamp rfl rfl rfl (by decide +kernel) ⟨Nat.le_of_ble_eq_true rfl, Nat.le_of_ble_eq_true rfl⟩) rfl rfl rfl rfl rfl (by decide) rfl rfl rfl rfl (Nat.le_of_ble_eq_true rfl) rfl rfl ⟨Nat.le_of_ble_eq_true rfl, Nat.le_of_ble_eq_true rfl⟩ dX2_turn_7 ?_
  rintro z_7 _ ⟨rfl, hz_7⟩
  refine z_ws (ws' := (mx cI h σ LI BR γ φ 0)) rfl ?_
  have r_7 : z_7 = 0 ∨ z_7 = 1 := by rw [hz_7]; exact bI_01 _
  have hz_7 : z_7 = bI (decide (0 ≤ k) && decide (k ≤ σ 4 0 - 1)) := hz_7
  have i_7 := isIn_c hz_7
  refine z_if_ne C (tgt := 19) dX2_turn_10 (by decide) (by omega) (fun c_10 => ?_) (fun c_10 => ?_)
  ·
    refine z_iload_n C 2 dX2_turn_19 rfl ?_
    refine z_iconst C dX2_turn_20 ?_
    refine z_bipush C dX2_turn_21 (by decide) ?_
    refine z_callSi C (As := [vI r, vI 1, vI 12]) (st := []) (y := yX2_isIn) (w := wsX2_isIn) (rm := rm_X2_isIn) (wr := (mx cI h σ LI BR γ φ 0)) (k' := 0) (n' := 0) [] [0, 1, 2, 3, 4, 5, 6, 7, 8] (c_X2_isIn l D cI cJ  r 1 12 (by omega) (by omega) (by omega)) (va_cwS 3 C.1.2.2.2.2 gX2_turn_X2_isIn rfl rfl rfl (by decide +kernel) ⟨Nat.le_of_ble_eq_true rfl, Nat.le_of_ble_eq_true rfl⟩) rfl rfl rfl rfl rfl (by decide) rfl rfl (Nat.le_of_ble_eq_true rfl) rfl rfl ⟨Nat.le_of_ble_eq_true rfl, Nat.le_of_ble_eq_true rfl⟩ dX2_turn_23 ?_
    rintro z_23 _ ⟨rfl, hz_23⟩
    refine z_ws (ws' := (mx cI h σ LI BR γ φ 0)) rfl ?_
    have r_23 : z_23 = 0 ∨ z_23 = 1 := by rw [hz_23]; exact bI_01 _
    have hz_23 : z_23 = bI (decide (1 ≤ r) && decide (r ≤ 12)) := hz_23
    have i_23 := isIn_c hz_23
    refine z_if_ne C (tgt := 35) dX2_turn_26 (by decide) (by omega) (fun c_26 => ?_) (fun c_26 => ?_)
    ·
      refine z_aload_n C 0 dX2_turn_35 rfl ?_
      refine z_get C (v := .ref (h 3)) (ref := "ShadowWallsModel") (T := TX2) (N := 14) (ci := 2) 0 4 inU_X2_X2_turn rfl rfl (by decide) (by decide +kernel) (fun _ h9 => h9) rfl dX2_turn_36 ?_
      refine z_iload_n C 1 dX2_turn_39 rfl ?_
      refine z_iald C (cA := cI) (N := 4) (f := σ 2) 3 0 rfl rfl (by decide) (by omega) dX2_turn_40 ?_
      refine z_istore_n C [(3, vI (σ 2 (k.toNat))), (0, .ref (h 0)), (1, vI k), (2, vI r)] dX2_turn_41 (by decide) rfl ?_
      refine z_aload_n C 1 dX2_turn_42 rfl ?_
      refine z_get C (v := .ref (h 3)) (ref := "ShadowWallsModel") (T := TX2) (N := 14) (ci := 2) 0 4 inU_X2_X2_turn rfl rfl (by decide) (by decide +kernel) (fun _ h9 => h9) rfl dX2_turn_43 ?_
      refine z_iload_n C 2 dX2_turn_46 rfl ?_
      refine z_iload_n C 3 dX2_turn_47 rfl ?_
      refine z_iast C (cA := cI) (N := 4) (f := σ 2) (ws' := (mx cI h (sU σ 2 (k.toNat) r) LI BR γ φ 0)) 3 0 rfl rfl (by decide) (by omega) rfl dX2_turn_48 ?_
      refine z_iload_n C 0 dX2_turn_49 rfl ?_
      exact hret _ _ _ _ dX2_turn_50 ⟨rfl, by rfl⟩
    ·
      exfalso; omega
  ·
    exfalso; omega

set_option maxHeartbeats 4000000 in
set_option maxRecDepth 100000 in
theorem b1_X2_turn (l : Launch) (D : va_G) (cI cJ : ClassId) (h : Nat → Nat) (σ : YS) (LI BR : Nat → Int) (γ : YS) (φ : Nat → Int) (θ : Int) (k r : Int) (hr : rng k ∧ rng r) (hO : Ok σ) (hb : ¬ (0 ≤ k ∧ k < σ 4 0)) : Ci l yX2_turn wsX2_turn rm_X2_turn D [(cI, .int), (cJ, .long)] [.ref (h 0), vI k, vI r] (mx cI h σ LI BR γ φ θ) (fun z u => u = (mx cI h σ LI BR γ φ 1) ∧ z = 0) := by
  refine z_ofi (own := RX2) (cc := cX2_turn) (maxL := 4) (lv := [(0, .ref (h 0)), (1, vI k), (2, vI r)]) (by decide) rfl rfl (Nat.le_of_ble_eq_true rfl) rfl ?_
  intro p e s m args below meth cd Q A C hret
  have hn := hO.1
  have hm := hO.2.1
  have en := nLa_e hO
  have em := nWa_e hO
  refine z_aload_n C 0 dX2_turn_0 rfl ?_
  refine z_iconst C dX2_turn_1 ?_
  refine z_put C (ref := "ShadowWallsModel") (T := TX2) (N := 14) (ci := 2) (ty := .int) (ws' := (mx cI h σ LI BR γ φ 0)) 0 0 inU_X2_X2_turn tyX2 tyX2_ok nmX2 rfl rfl (by decide) (by decide +kernel) (fun _ h9 => h9) rfl (by decide +kernel) (rfl) (rfl) (Nat.le_of_ble_eq_true rfl) rfl dX2_turn_2 ?_
  refine z_aload_n C 0 dX2_turn_5 rfl ?_
  refine z_iload_n C 1 dX2_turn_6 rfl ?_
  refine z_callVi C (As := [vI k]) (st := []) (y := yX2_isLamp) (w := wsX2_isLamp) (rm := rm_X2_isLamp) (wr := []) (k' := 0) (n' := 0) [0, 1, 2, 3, 4, 5, 6, 7, 8] [] 0 (c_X2_isLamp l D cI cJ h σ LI BR γ φ 0 k (by omega) hO) (cwV 1 C.1.2.2.2.2 gX2_turn_X2_isLamp rfl rfl rfl (by decide +kernel) ⟨Nat.le_of_ble_eq_true rfl, Nat.le_of_ble_eq_true rfl⟩) rfl rfl rfl rfl rfl (by decide) rfl rfl rfl rfl (Nat.le_of_ble_eq_true rfl) rfl rfl ⟨Nat.le_of_ble_eq_true rfl, Nat.le_of_ble_eq_true rfl⟩ dX2_turn_7 ?_
  rintro z_7 _ ⟨rfl, hz_7⟩
  refine z_ws (ws' := (mx cI h σ LI BR γ φ 0)) rfl ?_
  have r_7 : z_7 = 0 ∨ z_7 = 1 := by rw [hz_7]; exact bI_01 _
  have hz_7 : z_7 = bI (decide (0 ≤ k) && decide (k ≤ σ 4 0 - 1)) := hz_7
  have i_7 := isIn_c hz_7
  refine z_if_ne C (tgt := 19) dX2_turn_10 (by decide) (by omega) (fun c_10 => ?_) (fun c_10 => ?_)
  ·
    exfalso; omega
  ·
    refine z_aload_n C 0 dX2_turn_13 rfl ?_
    refine z_iconst C dX2_turn_14 ?_
    refine z_callVi C (As := [vI 1]) (st := []) (y := yX2_no) (w := wsX2_no) (rm := rm_X2_no) (wr := []) (k' := 0) (n' := 0) [0, 1, 2, 3, 4, 5, 6, 7, 8] [] 0 (c_X2_no l D cI cJ h σ LI BR γ φ 0 1 ) (cwV 1 C.1.2.2.2.2 gX2_turn_X2_no rfl rfl rfl (by decide +kernel) ⟨Nat.le_of_ble_eq_true rfl, Nat.le_of_ble_eq_true rfl⟩) rfl rfl rfl rfl rfl (by decide) rfl rfl rfl rfl (Nat.le_of_ble_eq_true rfl) rfl rfl ⟨Nat.le_of_ble_eq_true rfl, Nat.le_of_ble_eq_true rfl⟩ dX2_turn_15 ?_
    rintro z_15 _ ⟨rfl, rfl⟩
    refine z_ws (ws' := (mx cI h σ LI BR γ φ 1)) rfl ?_
    refine z_st (v' := 0) rfl ?_
    exact hret _ _ _ _ dX2_turn_18 ⟨rfl, by rfl⟩

set_option maxHeartbeats 4000000 in
set_option maxRecDepth 100000 in
theorem b2_X2_turn (l : Launch) (D : va_G) (cI cJ : ClassId) (h : Nat → Nat) (σ : YS) (LI BR : Nat → Int) (γ : YS) (φ : Nat → Int) (θ : Int) (k r : Int) (hr : rng k ∧ rng r) (hO : Ok σ) (hb : (0 ≤ k ∧ k < σ 4 0) ∧ ¬ (1 ≤ r ∧ r < 13)) : Ci l yX2_turn wsX2_turn rm_X2_turn D [(cI, .int), (cJ, .long)] [.ref (h 0), vI k, vI r] (mx cI h σ LI BR γ φ θ) (fun z u => u = (mx cI h σ LI BR γ φ 2) ∧ z = 0) := by
  refine z_ofi (own := RX2) (cc := cX2_turn) (maxL := 4) (lv := [(0, .ref (h 0)), (1, vI k), (2, vI r)]) (by decide) rfl rfl (Nat.le_of_ble_eq_true rfl) rfl ?_
  intro p e s m args below meth cd Q A C hret
  have hn := hO.1
  have hm := hO.2.1
  have en := nLa_e hO
  have em := nWa_e hO
  refine z_aload_n C 0 dX2_turn_0 rfl ?_
  refine z_iconst C dX2_turn_1 ?_
  refine z_put C (ref := "ShadowWallsModel") (T := TX2) (N := 14) (ci := 2) (ty := .int) (ws' := (mx cI h σ LI BR γ φ 0)) 0 0 inU_X2_X2_turn tyX2 tyX2_ok nmX2 rfl rfl (by decide) (by decide +kernel) (fun _ h9 => h9) rfl (by decide +kernel) (rfl) (rfl) (Nat.le_of_ble_eq_true rfl) rfl dX2_turn_2 ?_
  refine z_aload_n C 0 dX2_turn_5 rfl ?_
  refine z_iload_n C 1 dX2_turn_6 rfl ?_
  refine z_callVi C (As := [vI k]) (st := []) (y := yX2_isLamp) (w := wsX2_isLamp) (rm := rm_X2_isLamp) (wr := []) (k' := 0) (n' := 0) [0, 1, 2, 3, 4, 5, 6, 7, 8] [] 0 (c_X2_isLamp l D cI cJ h σ LI BR γ φ 0 k (by omega) hO) (cwV 1 C.1.2.2.2.2 gX2_turn_X2_isLamp rfl rfl rfl (by decide +kernel) ⟨Nat.le_of_ble_eq_true rfl, Nat.le_of_ble_eq_true rfl⟩) rfl rfl rfl rfl rfl (by decide) rfl rfl rfl rfl (Nat.le_of_ble_eq_true rfl) rfl rfl ⟨Nat.le_of_ble_eq_true rfl, Nat.le_of_ble_eq_true rfl⟩ dX2_turn_7 ?_
  rintro z_7 _ ⟨rfl, hz_7⟩
  refine z_ws (ws' := (mx cI h σ LI BR γ φ 0)) rfl ?_
  have r_7 : z_7 = 0 ∨ z_7 = 1 := by rw [hz_7]; exact bI_01 _
  have hz_7 : z_7 = bI (decide (0 ≤ k) && decide (k ≤ σ 4 0 - 1)) := hz_7
  have i_7 := isIn_c hz_7
  refine z_if_ne C (tgt := 19) dX2_turn_10 (by decide) (by omega) (fun c_10 => ?_) (fun c_10 => ?_)
  ·
    refine z_iload_n C 2 dX2_turn_19 rfl ?_
    refine z_iconst C dX2_turn_20 ?_
    refine z_bipush C dX2_turn_21 (by decide) ?_
    refine z_callSi C (As := [vI r, vI 1, vI 12]) (st := []) (y := yX2_isIn) (w := wsX2_isIn) (rm := rm_X2_isIn) (wr := (mx cI h σ LI BR γ φ 0)) (k' := 0) (n' := 0) [] [0, 1, 2, 3, 4, 5, 6, 7, 8] (c_X2_isIn l D cI cJ  r 1 12 (by omega) (by omega) (by omega)) (va_cwS 3 C.1.2.2.2.2 gX2_turn_X2_isIn rfl rfl rfl (by decide +kernel) ⟨Nat.le_of_ble_eq_true rfl, Nat.le_of_ble_eq_true rfl⟩) rfl rfl rfl rfl rfl (by decide) rfl rfl (Nat.le_of_ble_eq_true rfl) rfl rfl ⟨Nat.le_of_ble_eq_true rfl, Nat.le_of_ble_eq_true rfl⟩ dX2_turn_23 ?_
    rintro z_23 _ ⟨rfl, hz_23⟩
    refine z_ws (ws' := (mx cI h σ LI BR γ φ 0)) rfl ?_
    have r_23 : z_23 = 0 ∨ z_23 = 1 := by rw [hz_23]; exact bI_01 _
    have hz_23 : z_23 = bI (decide (1 ≤ r) && decide (r ≤ 12)) := hz_23
    have i_23 := isIn_c hz_23
    refine z_if_ne C (tgt := 35) dX2_turn_26 (by decide) (by omega) (fun c_26 => ?_) (fun c_26 => ?_)
    ·
      exfalso; omega
    ·
      refine z_aload_n C 0 dX2_turn_29 rfl ?_
      refine z_iconst C dX2_turn_30 ?_
      refine z_callVi C (As := [vI 2]) (st := []) (y := yX2_no) (w := wsX2_no) (rm := rm_X2_no) (wr := []) (k' := 0) (n' := 0) [0, 1, 2, 3, 4, 5, 6, 7, 8] [] 0 (c_X2_no l D cI cJ h σ LI BR γ φ 0 2 ) (cwV 1 C.1.2.2.2.2 gX2_turn_X2_no rfl rfl rfl (by decide +kernel) ⟨Nat.le_of_ble_eq_true rfl, Nat.le_of_ble_eq_true rfl⟩) rfl rfl rfl rfl rfl (by decide) rfl rfl rfl rfl (Nat.le_of_ble_eq_true rfl) rfl rfl ⟨Nat.le_of_ble_eq_true rfl, Nat.le_of_ble_eq_true rfl⟩ dX2_turn_31 ?_
      rintro z_31 _ ⟨rfl, rfl⟩
      refine z_ws (ws' := (mx cI h σ LI BR γ φ 2)) rfl ?_
      refine z_st (v' := 0) rfl ?_
      exact hret _ _ _ _ dX2_turn_34 ⟨rfl, by rfl⟩
  ·
    exfalso; omega

set_option maxRecDepth 100000 in
theorem inU_X2_X2_watcher : ∀ w ∈ u_ws RX2 TX2 14, w ∈ wsX2_watcher := by decide +kernel
abbrev rm_X2_watcher : Room := { frames := 2, cells := 0, slots := 0, locals := 43 }
set_option maxHeartbeats 4000000 in
set_option maxRecDepth 100000 in
theorem c_X2_watcher (l : Launch) (D : va_G) (cI cJ : ClassId) (h : Nat → Nat) (σ : YS) (LI BR : Nat → Int) (γ : YS) (φ : Nat → Int) (θ : Int) (x y : Int) (hx : 0 ≤ x ∧ x < 12) (hy : 0 ≤ y ∧ y < 12) (h6 : σ 4 1 < 6) (h0 : σ 0 (12 * y + x).toNat = 0) (hO : Ok σ) (hL : LI4 LI) : Ci l yX2_watcher wsX2_watcher rm_X2_watcher D [(cI, .int), (cJ, .long)] [.ref (h 0), vI x, vI y] (mx cI h σ LI BR γ φ θ) (fun z u => u = (mx cI h (sU (sU σ 3 (σ 4 1).toNat (12 * y + x)) 4 1 (σ 4 1 + 1)) LI BR γ φ 0) ∧ z = σ 4 1) := by
  refine z_ofi (own := RX2) (cc := cX2_watcher) (maxL := 3) (lv := [(0, .ref (h 0)), (1, vI x), (2, vI y)]) (by decide) rfl rfl (Nat.le_of_ble_eq_true rfl) rfl ?_
  intro p e s m args below meth cd Q A C hret
  have hn := hO.1
  have hm := hO.2.1
  have en := nLa_e hO
  have em := nWa_e hO
  have hcc : 0 ≤ 12 * y + x ∧ 12 * y + x < 144 := by omega
  have ecc : (((12 * y + x).toNat : Nat) : Int) = 12 * y + x := Int.toNat_of_nonneg hcc.1
  refine z_aload_n C 0 dX2_watcher_0 rfl ?_
  refine z_iconst C dX2_watcher_1 ?_
  refine z_put C (ref := "ShadowWallsModel") (T := TX2) (N := 14) (ci := 2) (ty := .int) (ws' := (mx cI h σ LI BR γ φ 0)) 0 0 inU_X2_X2_watcher tyX2 tyX2_ok nmX2 rfl rfl (by decide) (by decide +kernel) (fun _ h9 => h9) rfl (by decide +kernel) (rfl) (rfl) (Nat.le_of_ble_eq_true rfl) rfl dX2_watcher_2 ?_
  refine z_iload_n C 1 dX2_watcher_5 rfl ?_
  refine z_iload_n C 2 dX2_watcher_6 rfl ?_
  refine z_callSi C (As := [vI x, vI y]) (st := []) (y := yX2_isCell) (w := wsX2_isCell) (rm := rm_X2_isCell) (wr := (mx cI h σ LI BR γ φ 0)) (k' := 0) (n' := 0) [] [0, 1, 2, 3, 4, 5, 6, 7, 8] (c_X2_isCell l D cI cJ  x y (by omega) (by omega)) (va_cwS 2 C.1.2.2.2.2 gX2_watcher_X2_isCell rfl rfl rfl (by decide +kernel) ⟨Nat.le_of_ble_eq_true rfl, Nat.le_of_ble_eq_true rfl⟩) rfl rfl rfl rfl rfl (by decide) rfl rfl (Nat.le_of_ble_eq_true rfl) rfl rfl ⟨Nat.le_of_ble_eq_true rfl, Nat.le_of_ble_eq_true rfl⟩ dX2_watcher_7 ?_
  rintro z_7 _ ⟨rfl, hz_7⟩
  refine z_ws (ws' := (mx cI h σ LI BR γ φ 0)) rfl ?_
  have r_7 : z_7 = 0 ∨ z_7 = 1 := by rw [hz_7]; exact bI_01 _
  have hz_7 : z_7 = bI (decide (0 ≤ x) && decide (x ≤ 11) && (decide (0 ≤ y) && decide (y ≤ 11))) := hz_7
  have i_7 := isC_c hz_7
  refine z_if_ne C (tgt := 19) dX2_watcher_10 (by decide) (by omega) (fun c_10 => ?_) (fun c_10 => ?_)
  ·
    refine z_aload_n C 0 dX2_watcher_19 rfl ?_
    refine z_get C (v := vI (σ 4 1)) (ref := "ShadowWallsModel") (T := TX2) (N := 14) (ci := 2) 0 5 inU_X2_X2_watcher rfl rfl (by decide) (by decide +kernel) (fun _ h9 => h9) rfl dX2_watcher_20 ?_
    refine z_bipush C dX2_watcher_23 (by decide) ?_
    refine z_icmp_eq C (tgt := 42) dX2_watcher_25 (by decide) (by omega) (by omega) (fun c_25 => ?_) (fun c_25 => ?_)
    ·
      exfalso; omega
    ·
      refine z_aload_n C 0 dX2_watcher_28 rfl ?_
      refine z_get C (v := .ref (h 1)) (ref := "ShadowWallsModel") (T := TX2) (N := 14) (ci := 2) 0 1 inU_X2_X2_watcher rfl rfl (by decide) (by decide +kernel) (fun _ h9 => h9) rfl dX2_watcher_29 ?_
      refine z_bipush C dX2_watcher_32 (by decide) ?_
      refine z_iload_n C 2 dX2_watcher_34 rfl ?_
      refine z_imul C dX2_watcher_35 ?_
      refine z_iload_n C 1 dX2_watcher_36 rfl ?_
      refine z_iadd C dX2_watcher_37 ?_
      refine z_iald C (cA := cI) (N := 144) (f := σ 0) 1 0 rfl rfl (by decide) (by omega) dX2_watcher_38 ?_
      refine z_if_eq C (tgt := 48) dX2_watcher_39 (by decide) (by omega) (fun c_39 => ?_) (fun c_39 => ?_)
      ·
        refine z_aload_n C 0 dX2_watcher_48 rfl ?_
        refine z_get C (v := .ref (h 4)) (ref := "ShadowWallsModel") (T := TX2) (N := 14) (ci := 2) 0 6 inU_X2_X2_watcher rfl rfl (by decide) (by decide +kernel) (fun _ h9 => h9) rfl dX2_watcher_49 ?_
        refine z_aload_n C 0 dX2_watcher_52 rfl ?_
        refine z_get C (v := vI (σ 4 1)) (ref := "ShadowWallsModel") (T := TX2) (N := 14) (ci := 2) 0 5 inU_X2_X2_watcher rfl rfl (by decide) (by decide +kernel) (fun _ h9 => h9) rfl dX2_watcher_53 ?_
        refine z_bipush C dX2_watcher_56 (by decide) ?_
        refine z_iload_n C 2 dX2_watcher_58 rfl ?_
        refine z_imul C dX2_watcher_59 ?_
        refine z_iload_n C 1 dX2_watcher_60 rfl ?_
        refine z_iadd C dX2_watcher_61 ?_
        refine z_iast C (cA := cI) (N := 6) (f := σ 3) (ws' := (mx cI h (sU σ 3 ((σ 4 1).toNat) ((12 * y) + x)) LI BR γ φ 0)) 4 0 rfl rfl (by decide) (by omega) rfl dX2_watcher_62 ?_
        refine z_aload_n C 0 dX2_watcher_63 rfl ?_
        refine z_dup C dX2_watcher_64 rfl ?_
        refine z_get C (v := vI (σ 4 1)) (ref := "ShadowWallsModel") (T := TX2) (N := 14) (ci := 2) 0 5 inU_X2_X2_watcher rfl rfl (by decide) (by decide +kernel) (fun _ h9 => h9) rfl dX2_watcher_65 ?_
        refine z_iconst C dX2_watcher_68 ?_
        refine z_iadd C dX2_watcher_69 ?_
        refine z_put C (ref := "ShadowWallsModel") (T := TX2) (N := 14) (ci := 2) (ty := .int) (ws' := (mx cI h (sU (sU σ 3 ((σ 4 1).toNat) ((12 * y) + x)) 4 1 ((σ 4 1) + 1)) LI BR γ φ 0)) 0 5 inU_X2_X2_watcher tyX2 tyX2_ok nmX2 rfl rfl (by decide) (by decide +kernel) (fun _ h9 => h9) rfl (by decide +kernel) (rfl) (rfl) (Nat.le_of_ble_eq_true rfl) rfl dX2_watcher_70 ?_
        refine z_aload_n C 0 dX2_watcher_73 rfl ?_
        refine z_get C (v := vI ((σ 4 1) + 1)) (ref := "ShadowWallsModel") (T := TX2) (N := 14) (ci := 2) 0 5 inU_X2_X2_watcher rfl rfl (by decide) (by decide +kernel) (fun _ h9 => h9) rfl dX2_watcher_74 ?_
        refine z_iconst C dX2_watcher_77 ?_
        refine z_isub C dX2_watcher_78 ?_
        exact hret _ _ _ _ dX2_watcher_79 ⟨rfl, by omega⟩
      ·
        exfalso; omega
  ·
    exfalso; omega

set_option maxHeartbeats 4000000 in
set_option maxRecDepth 100000 in
theorem b1_X2_watcher (l : Launch) (D : va_G) (cI cJ : ClassId) (h : Nat → Nat) (σ : YS) (LI BR : Nat → Int) (γ : YS) (φ : Nat → Int) (θ : Int) (x y : Int) (hr : rng x ∧ rng y) (hO : Ok σ) (hb : ¬ ((0 ≤ x ∧ x < 12) ∧ 0 ≤ y ∧ y < 12)) : Ci l yX2_watcher wsX2_watcher rm_X2_watcher D [(cI, .int), (cJ, .long)] [.ref (h 0), vI x, vI y] (mx cI h σ LI BR γ φ θ) (fun z u => u = (mx cI h σ LI BR γ φ 1) ∧ z = 0) := by
  refine z_ofi (own := RX2) (cc := cX2_watcher) (maxL := 3) (lv := [(0, .ref (h 0)), (1, vI x), (2, vI y)]) (by decide) rfl rfl (Nat.le_of_ble_eq_true rfl) rfl ?_
  intro p e s m args below meth cd Q A C hret
  have hn := hO.1
  have hm := hO.2.1
  have en := nLa_e hO
  have em := nWa_e hO
  refine z_aload_n C 0 dX2_watcher_0 rfl ?_
  refine z_iconst C dX2_watcher_1 ?_
  refine z_put C (ref := "ShadowWallsModel") (T := TX2) (N := 14) (ci := 2) (ty := .int) (ws' := (mx cI h σ LI BR γ φ 0)) 0 0 inU_X2_X2_watcher tyX2 tyX2_ok nmX2 rfl rfl (by decide) (by decide +kernel) (fun _ h9 => h9) rfl (by decide +kernel) (rfl) (rfl) (Nat.le_of_ble_eq_true rfl) rfl dX2_watcher_2 ?_
  refine z_iload_n C 1 dX2_watcher_5 rfl ?_
  refine z_iload_n C 2 dX2_watcher_6 rfl ?_
  refine z_callSi C (As := [vI x, vI y]) (st := []) (y := yX2_isCell) (w := wsX2_isCell) (rm := rm_X2_isCell) (wr := (mx cI h σ LI BR γ φ 0)) (k' := 0) (n' := 0) [] [0, 1, 2, 3, 4, 5, 6, 7, 8] (c_X2_isCell l D cI cJ  x y (by omega) (by omega)) (va_cwS 2 C.1.2.2.2.2 gX2_watcher_X2_isCell rfl rfl rfl (by decide +kernel) ⟨Nat.le_of_ble_eq_true rfl, Nat.le_of_ble_eq_true rfl⟩) rfl rfl rfl rfl rfl (by decide) rfl rfl (Nat.le_of_ble_eq_true rfl) rfl rfl ⟨Nat.le_of_ble_eq_true rfl, Nat.le_of_ble_eq_true rfl⟩ dX2_watcher_7 ?_
  rintro z_7 _ ⟨rfl, hz_7⟩
  refine z_ws (ws' := (mx cI h σ LI BR γ φ 0)) rfl ?_
  have r_7 : z_7 = 0 ∨ z_7 = 1 := by rw [hz_7]; exact bI_01 _
  have hz_7 : z_7 = bI (decide (0 ≤ x) && decide (x ≤ 11) && (decide (0 ≤ y) && decide (y ≤ 11))) := hz_7
  have i_7 := isC_c hz_7
  refine z_if_ne C (tgt := 19) dX2_watcher_10 (by decide) (by omega) (fun c_10 => ?_) (fun c_10 => ?_)
  ·
    exfalso; omega
  ·
    refine z_aload_n C 0 dX2_watcher_13 rfl ?_
    refine z_iconst C dX2_watcher_14 ?_
    refine z_callVi C (As := [vI 1]) (st := []) (y := yX2_no) (w := wsX2_no) (rm := rm_X2_no) (wr := []) (k' := 0) (n' := 0) [0, 1, 2, 3, 4, 5, 6, 7, 8] [] 0 (c_X2_no l D cI cJ h σ LI BR γ φ 0 1 ) (cwV 1 C.1.2.2.2.2 gX2_watcher_X2_no rfl rfl rfl (by decide +kernel) ⟨Nat.le_of_ble_eq_true rfl, Nat.le_of_ble_eq_true rfl⟩) rfl rfl rfl rfl rfl (by decide) rfl rfl rfl rfl (Nat.le_of_ble_eq_true rfl) rfl rfl ⟨Nat.le_of_ble_eq_true rfl, Nat.le_of_ble_eq_true rfl⟩ dX2_watcher_15 ?_
    rintro z_15 _ ⟨rfl, rfl⟩
    refine z_ws (ws' := (mx cI h σ LI BR γ φ 1)) rfl ?_
    refine z_st (v' := 0) rfl ?_
    exact hret _ _ _ _ dX2_watcher_18 ⟨rfl, by rfl⟩

set_option maxHeartbeats 4000000 in
set_option maxRecDepth 100000 in
theorem b2_X2_watcher (l : Launch) (D : va_G) (cI cJ : ClassId) (h : Nat → Nat) (σ : YS) (LI BR : Nat → Int) (γ : YS) (φ : Nat → Int) (θ : Int) (x y : Int) (hr : rng x ∧ rng y) (hO : Ok σ) (hb : ((0 ≤ x ∧ x < 12) ∧ 0 ≤ y ∧ y < 12) ∧ σ 4 1 = 6) : Ci l yX2_watcher wsX2_watcher rm_X2_watcher D [(cI, .int), (cJ, .long)] [.ref (h 0), vI x, vI y] (mx cI h σ LI BR γ φ θ) (fun z u => u = (mx cI h σ LI BR γ φ 2) ∧ z = 0) := by
  refine z_ofi (own := RX2) (cc := cX2_watcher) (maxL := 3) (lv := [(0, .ref (h 0)), (1, vI x), (2, vI y)]) (by decide) rfl rfl (Nat.le_of_ble_eq_true rfl) rfl ?_
  intro p e s m args below meth cd Q A C hret
  have hn := hO.1
  have hm := hO.2.1
  have en := nLa_e hO
  have em := nWa_e hO
  refine z_aload_n C 0 dX2_watcher_0 rfl ?_
  refine z_iconst C dX2_watcher_1 ?_
  refine z_put C (ref := "ShadowWallsModel") (T := TX2) (N := 14) (ci := 2) (ty := .int) (ws' := (mx cI h σ LI BR γ φ 0)) 0 0 inU_X2_X2_watcher tyX2 tyX2_ok nmX2 rfl rfl (by decide) (by decide +kernel) (fun _ h9 => h9) rfl (by decide +kernel) (rfl) (rfl) (Nat.le_of_ble_eq_true rfl) rfl dX2_watcher_2 ?_
  refine z_iload_n C 1 dX2_watcher_5 rfl ?_
  refine z_iload_n C 2 dX2_watcher_6 rfl ?_
  refine z_callSi C (As := [vI x, vI y]) (st := []) (y := yX2_isCell) (w := wsX2_isCell) (rm := rm_X2_isCell) (wr := (mx cI h σ LI BR γ φ 0)) (k' := 0) (n' := 0) [] [0, 1, 2, 3, 4, 5, 6, 7, 8] (c_X2_isCell l D cI cJ  x y (by omega) (by omega)) (va_cwS 2 C.1.2.2.2.2 gX2_watcher_X2_isCell rfl rfl rfl (by decide +kernel) ⟨Nat.le_of_ble_eq_true rfl, Nat.le_of_ble_eq_true rfl⟩) rfl rfl rfl rfl rfl (by decide) rfl rfl (Nat.le_of_ble_eq_true rfl) rfl rfl ⟨Nat.le_of_ble_eq_true rfl, Nat.le_of_ble_eq_true rfl⟩ dX2_watcher_7 ?_
  rintro z_7 _ ⟨rfl, hz_7⟩
  refine z_ws (ws' := (mx cI h σ LI BR γ φ 0)) rfl ?_
  have r_7 : z_7 = 0 ∨ z_7 = 1 := by rw [hz_7]; exact bI_01 _
  have hz_7 : z_7 = bI (decide (0 ≤ x) && decide (x ≤ 11) && (decide (0 ≤ y) && decide (y ≤ 11))) := hz_7
  have i_7 := isC_c hz_7
  refine z_if_ne C (tgt := 19) dX2_watcher_10 (by decide) (by omega) (fun c_10 => ?_) (fun c_10 => ?_)
  ·
    refine z_aload_n C 0 dX2_watcher_19 rfl ?_
    refine z_get C (v := vI (σ 4 1)) (ref := "ShadowWallsModel") (T := TX2) (N := 14) (ci := 2) 0 5 inU_X2_X2_watcher rfl rfl (by decide) (by decide +kernel) (fun _ h9 => h9) rfl dX2_watcher_20 ?_
    refine z_bipush C dX2_watcher_23 (by decide) ?_
    refine z_icmp_eq C (tgt := 42) dX2_watcher_25 (by decide) (by omega) (by omega) (fun c_25 => ?_) (fun c_25 => ?_)
    ·
      refine z_aload_n C 0 dX2_watcher_42 rfl ?_
      refine z_iconst C dX2_watcher_43 ?_
      refine z_callVi C (As := [vI 2]) (st := []) (y := yX2_no) (w := wsX2_no) (rm := rm_X2_no) (wr := []) (k' := 0) (n' := 0) [0, 1, 2, 3, 4, 5, 6, 7, 8] [] 0 (c_X2_no l D cI cJ h σ LI BR γ φ 0 2 ) (cwV 1 C.1.2.2.2.2 gX2_watcher_X2_no rfl rfl rfl (by decide +kernel) ⟨Nat.le_of_ble_eq_true rfl, Nat.le_of_ble_eq_true rfl⟩) rfl rfl rfl rfl rfl (by decide) rfl rfl rfl rfl (Nat.le_of_ble_eq_true rfl) rfl rfl ⟨Nat.le_of_ble_eq_true rfl, Nat.le_of_ble_eq_true rfl⟩ dX2_watcher_44 ?_
      rintro z_44 _ ⟨rfl, rfl⟩
      refine z_ws (ws' := (mx cI h σ LI BR γ φ 2)) rfl ?_
      refine z_st (v' := 0) rfl ?_
      exact hret _ _ _ _ dX2_watcher_47 ⟨rfl, by rfl⟩
    ·
      exfalso; omega
  ·
    exfalso; omega

set_option maxHeartbeats 4000000 in
set_option maxRecDepth 100000 in
theorem b3_X2_watcher (l : Launch) (D : va_G) (cI cJ : ClassId) (h : Nat → Nat) (σ : YS) (LI BR : Nat → Int) (γ : YS) (φ : Nat → Int) (θ : Int) (x y : Int) (hr : rng x ∧ rng y) (hO : Ok σ) (hb : ((0 ≤ x ∧ x < 12) ∧ 0 ≤ y ∧ y < 12) ∧ σ 4 1 < 6 ∧ σ 0 (12 * y + x).toNat ≠ 0) : Ci l yX2_watcher wsX2_watcher rm_X2_watcher D [(cI, .int), (cJ, .long)] [.ref (h 0), vI x, vI y] (mx cI h σ LI BR γ φ θ) (fun z u => u = (mx cI h σ LI BR γ φ 2) ∧ z = 0) := by
  refine z_ofi (own := RX2) (cc := cX2_watcher) (maxL := 3) (lv := [(0, .ref (h 0)), (1, vI x), (2, vI y)]) (by decide) rfl rfl (Nat.le_of_ble_eq_true rfl) rfl ?_
  intro p e s m args below meth cd Q A C hret
  have hn := hO.1
  have hm := hO.2.1
  have en := nLa_e hO
  have em := nWa_e hO
  have rk := hO.2.2.2.2 (12 * y + x).toNat
  refine z_aload_n C 0 dX2_watcher_0 rfl ?_
  refine z_iconst C dX2_watcher_1 ?_
  refine z_put C (ref := "ShadowWallsModel") (T := TX2) (N := 14) (ci := 2) (ty := .int) (ws' := (mx cI h σ LI BR γ φ 0)) 0 0 inU_X2_X2_watcher tyX2 tyX2_ok nmX2 rfl rfl (by decide) (by decide +kernel) (fun _ h9 => h9) rfl (by decide +kernel) (rfl) (rfl) (Nat.le_of_ble_eq_true rfl) rfl dX2_watcher_2 ?_
  refine z_iload_n C 1 dX2_watcher_5 rfl ?_
  refine z_iload_n C 2 dX2_watcher_6 rfl ?_
  refine z_callSi C (As := [vI x, vI y]) (st := []) (y := yX2_isCell) (w := wsX2_isCell) (rm := rm_X2_isCell) (wr := (mx cI h σ LI BR γ φ 0)) (k' := 0) (n' := 0) [] [0, 1, 2, 3, 4, 5, 6, 7, 8] (c_X2_isCell l D cI cJ  x y (by omega) (by omega)) (va_cwS 2 C.1.2.2.2.2 gX2_watcher_X2_isCell rfl rfl rfl (by decide +kernel) ⟨Nat.le_of_ble_eq_true rfl, Nat.le_of_ble_eq_true rfl⟩) rfl rfl rfl rfl rfl (by decide) rfl rfl (Nat.le_of_ble_eq_true rfl) rfl rfl ⟨Nat.le_of_ble_eq_true rfl, Nat.le_of_ble_eq_true rfl⟩ dX2_watcher_7 ?_
  rintro z_7 _ ⟨rfl, hz_7⟩
  refine z_ws (ws' := (mx cI h σ LI BR γ φ 0)) rfl ?_
  have r_7 : z_7 = 0 ∨ z_7 = 1 := by rw [hz_7]; exact bI_01 _
  have hz_7 : z_7 = bI (decide (0 ≤ x) && decide (x ≤ 11) && (decide (0 ≤ y) && decide (y ≤ 11))) := hz_7
  have i_7 := isC_c hz_7
  refine z_if_ne C (tgt := 19) dX2_watcher_10 (by decide) (by omega) (fun c_10 => ?_) (fun c_10 => ?_)
  ·
    refine z_aload_n C 0 dX2_watcher_19 rfl ?_
    refine z_get C (v := vI (σ 4 1)) (ref := "ShadowWallsModel") (T := TX2) (N := 14) (ci := 2) 0 5 inU_X2_X2_watcher rfl rfl (by decide) (by decide +kernel) (fun _ h9 => h9) rfl dX2_watcher_20 ?_
    refine z_bipush C dX2_watcher_23 (by decide) ?_
    refine z_icmp_eq C (tgt := 42) dX2_watcher_25 (by decide) (by omega) (by omega) (fun c_25 => ?_) (fun c_25 => ?_)
    ·
      refine z_aload_n C 0 dX2_watcher_42 rfl ?_
      refine z_iconst C dX2_watcher_43 ?_
      refine z_callVi C (As := [vI 2]) (st := []) (y := yX2_no) (w := wsX2_no) (rm := rm_X2_no) (wr := []) (k' := 0) (n' := 0) [0, 1, 2, 3, 4, 5, 6, 7, 8] [] 0 (c_X2_no l D cI cJ h σ LI BR γ φ 0 2 ) (cwV 1 C.1.2.2.2.2 gX2_watcher_X2_no rfl rfl rfl (by decide +kernel) ⟨Nat.le_of_ble_eq_true rfl, Nat.le_of_ble_eq_true rfl⟩) rfl rfl rfl rfl rfl (by decide) rfl rfl rfl rfl (Nat.le_of_ble_eq_true rfl) rfl rfl ⟨Nat.le_of_ble_eq_true rfl, Nat.le_of_ble_eq_true rfl⟩ dX2_watcher_44 ?_
      rintro z_44 _ ⟨rfl, rfl⟩
      refine z_ws (ws' := (mx cI h σ LI BR γ φ 2)) rfl ?_
      refine z_st (v' := 0) rfl ?_
      exact hret _ _ _ _ dX2_watcher_47 ⟨rfl, by rfl⟩
    ·
      refine z_aload_n C 0 dX2_watcher_28 rfl ?_
      refine z_get C (v := .ref (h 1)) (ref := "ShadowWallsModel") (T := TX2) (N := 14) (ci := 2) 0 1 inU_X2_X2_watcher rfl rfl (by decide) (by decide +kernel) (fun _ h9 => h9) rfl dX2_watcher_29 ?_
      refine z_bipush C dX2_watcher_32 (by decide) ?_
      refine z_iload_n C 2 dX2_watcher_34 rfl ?_
      refine z_imul C dX2_watcher_35 ?_
      refine z_iload_n C 1 dX2_watcher_36 rfl ?_
      refine z_iadd C dX2_watcher_37 ?_
      refine z_iald C (cA := cI) (N := 144) (f := σ 0) 1 0 rfl rfl (by decide) (by omega) dX2_watcher_38 ?_
      refine z_if_eq C (tgt := 48) dX2_watcher_39 (by decide) (by omega) (fun c_39 => ?_) (fun c_39 => ?_)
      ·
        exfalso; omega
      ·
        refine z_aload_n C 0 dX2_watcher_42 rfl ?_
        refine z_iconst C dX2_watcher_43 ?_
        refine z_callVi C (As := [vI 2]) (st := []) (y := yX2_no) (w := wsX2_no) (rm := rm_X2_no) (wr := []) (k' := 0) (n' := 0) [0, 1, 2, 3, 4, 5, 6, 7, 8] [] 0 (c_X2_no l D cI cJ h σ LI BR γ φ 0 2 ) (cwV 1 C.1.2.2.2.2 gX2_watcher_X2_no rfl rfl rfl (by decide +kernel) ⟨Nat.le_of_ble_eq_true rfl, Nat.le_of_ble_eq_true rfl⟩) rfl rfl rfl rfl rfl (by decide) rfl rfl rfl rfl (Nat.le_of_ble_eq_true rfl) rfl rfl ⟨Nat.le_of_ble_eq_true rfl, Nat.le_of_ble_eq_true rfl⟩ dX2_watcher_44 ?_
        rintro z_44 _ ⟨rfl, rfl⟩
        refine z_ws (ws' := (mx cI h σ LI BR γ φ 2)) rfl ?_
        refine z_st (v' := 0) rfl ?_
        exact hret _ _ _ _ dX2_watcher_47 ⟨rfl, by rfl⟩
  ·
    exfalso; omega

set_option maxRecDepth 100000 in
theorem inU_X2_X2_creep : ∀ w ∈ u_ws RX2 TX2 14, w ∈ wsX2_creep := by decide +kernel
abbrev rm_X2_creep : Room := { frames := 5, cells := 0, slots := 0, locals := 124 }
set_option maxHeartbeats 4000000 in
set_option maxRecDepth 100000 in
theorem c_X2_creep (l : Launch) (D : va_G) (cI cJ : ClassId) (h : Nat → Nat) (σ : YS) (LI BR : Nat → Int) (γ : YS) (φ : Nat → Int) (θ : Int) (w x y : Int) (hw : 0 ≤ w ∧ w < σ 4 1) (hx : 0 ≤ x ∧ x < 12) (hy : 0 ≤ y ∧ y < 12) (hv : dS besN (frB σ (lkF (lgV σ) LI 144)) (σ 3 w.toNat).toNat (12 * y + x).toNat ≠ -1) (hO : Ok σ) (hL : LI4 LI) : Ci l yX2_creep wsX2_creep rm_X2_creep D [(cI, .int), (cJ, .long)] [.ref (h 0), vI w, vI x, vI y] (mx cI h σ LI BR γ φ θ) (fun z u => ∃ φ' : Nat → Int, ∃ γ' : YS, u = (mx cI h (sU (sU σ 3 w.toNat (12 * y + x)) 4 2 (σ 4 2 + dS besN (frB σ (lkF (lgV σ) LI 144)) (σ 3 w.toNat).toNat (12 * y + x).toNat)) (lkF (lgV σ) LI 144) (lkF (brV σ) BR 144) γ' φ' 0) ∧ z = dS besN (frB σ (lkF (lgV σ) LI 144)) (σ 3 w.toNat).toNat (12 * y + x).toNat) := by
  refine z_ofi (own := RX2) (cc := cX2_creep) (maxL := 5) (lv := [(0, .ref (h 0)), (1, vI w), (2, vI x), (3, vI y)]) (by decide) rfl rfl (Nat.le_of_ble_eq_true rfl) rfl ?_
  intro p e s m args below meth cd Q A C hret
  have hn := hO.1
  have hm := hO.2.1
  have en := nLa_e hO
  have em := nWa_e hO
  have hcc : 0 ≤ 12 * y + x ∧ 12 * y + x < 144 := by omega
  have ecc : (((12 * y + x).toNat : Nat) : Int) = 12 * y + x := Int.toNat_of_nonneg hcc.1
  have h1 := hO.2.2.2.1 w.toNat (by omega)
  have hp := dS_p besN (frB σ (lkF (lgV σ) LI 144)) (st := (σ 3 w.toNat).toNat) (by omega)
  refine z_aload_n C 0 dX2_creep_0 rfl ?_
  refine z_iconst C dX2_creep_1 ?_
  refine z_put C (ref := "ShadowWallsModel") (T := TX2) (N := 14) (ci := 2) (ty := .int) (ws' := (mx cI h σ LI BR γ φ 0)) 0 0 inU_X2_X2_creep tyX2 tyX2_ok nmX2 rfl rfl (by decide) (by decide +kernel) (fun _ h9 => h9) rfl (by decide +kernel) (rfl) (rfl) (Nat.le_of_ble_eq_true rfl) rfl dX2_creep_2 ?_
  refine z_aload_n C 0 dX2_creep_5 rfl ?_
  refine z_iload_n C 1 dX2_creep_6 rfl ?_
  refine z_callVi C (As := [vI w]) (st := []) (y := yX2_isWatcher) (w := wsX2_isWatcher) (rm := rm_X2_isWatcher) (wr := []) (k' := 0) (n' := 0) [0, 1, 2, 3, 4, 5, 6, 7, 8] [] 0 (c_X2_isWatcher l D cI cJ h σ LI BR γ φ 0 w (by omega) hO) (cwV 1 C.1.2.2.2.2 gX2_creep_X2_isWatcher rfl rfl rfl (by decide +kernel) ⟨Nat.le_of_ble_eq_true rfl, Nat.le_of_ble_eq_true rfl⟩) rfl rfl rfl rfl rfl (by decide) rfl rfl rfl rfl (Nat.le_of_ble_eq_true rfl) rfl rfl ⟨Nat.le_of_ble_eq_true rfl, Nat.le_of_ble_eq_true rfl⟩ dX2_creep_7 ?_
  rintro z_7 _ ⟨rfl, hz_7⟩
  refine z_ws (ws' := (mx cI h σ LI BR γ φ 0)) rfl ?_
  have r_7 : z_7 = 0 ∨ z_7 = 1 := by rw [hz_7]; exact bI_01 _
  have hz_7 : z_7 = bI (decide (0 ≤ w) && decide (w ≤ σ 4 1 - 1)) := hz_7
  have i_7 := isIn_c hz_7
  refine z_if_eq C (tgt := 21) dX2_creep_10 (by decide) (by omega) (fun c_10 => ?_) (fun c_10 => ?_)
  ·
    exfalso; omega
  ·
    refine z_iload_n C 2 dX2_creep_13 rfl ?_
    refine z_iload_n C 3 dX2_creep_14 rfl ?_
    refine z_callSi C (As := [vI x, vI y]) (st := []) (y := yX2_isCell) (w := wsX2_isCell) (rm := rm_X2_isCell) (wr := (mx cI h σ LI BR γ φ 0)) (k' := 0) (n' := 0) [] [0, 1, 2, 3, 4, 5, 6, 7, 8] (c_X2_isCell l D cI cJ  x y (by omega) (by omega)) (va_cwS 2 C.1.2.2.2.2 gX2_creep_X2_isCell rfl rfl rfl (by decide +kernel) ⟨Nat.le_of_ble_eq_true rfl, Nat.le_of_ble_eq_true rfl⟩) rfl rfl rfl rfl rfl (by decide) rfl rfl (Nat.le_of_ble_eq_true rfl) rfl rfl ⟨Nat.le_of_ble_eq_true rfl, Nat.le_of_ble_eq_true rfl⟩ dX2_creep_15 ?_
    rintro z_15 _ ⟨rfl, hz_15⟩
    refine z_ws (ws' := (mx cI h σ LI BR γ φ 0)) rfl ?_
    have r_15 : z_15 = 0 ∨ z_15 = 1 := by rw [hz_15]; exact bI_01 _
    have hz_15 : z_15 = bI (decide (0 ≤ x) && decide (x ≤ 11) && (decide (0 ≤ y) && decide (y ≤ 11))) := hz_15
    have i_15 := isC_c hz_15
    refine z_if_ne C (tgt := 27) dX2_creep_18 (by decide) (by omega) (fun c_18 => ?_) (fun c_18 => ?_)
    ·
      refine z_aload_n C 0 dX2_creep_27 rfl ?_
      refine z_callVi C (As := []) (st := []) (y := yX2_look) (w := wsX2_look) (rm := rm_X2_look) (wr := []) (k' := 0) (n' := 0) [0, 1, 2, 3, 4, 5, 6, 7, 8] [] 0 (c_X2_look l D cI cJ h σ LI BR γ φ 0  hO hL) (cwV 0 C.1.2.2.2.2 gX2_creep_X2_look rfl rfl rfl (by decide +kernel) ⟨Nat.le_of_ble_eq_true rfl, Nat.le_of_ble_eq_true rfl⟩) rfl rfl rfl rfl rfl (by decide) rfl rfl rfl rfl (Nat.le_of_ble_eq_true rfl) rfl rfl ⟨Nat.le_of_ble_eq_true rfl, Nat.le_of_ble_eq_true rfl⟩ dX2_creep_28 ?_
      rintro z_28 _ ⟨φ'_28, rfl, hz_28⟩
      refine z_ws (ws' := (mx cI h σ (lkF (lgV σ) LI 144) (lkF (brV σ) BR 144) γ φ'_28 0)) rfl ?_
      have r_28 := smB_r (fun c => decide (lgV σ c ≠ 0)) 144
      rw [← hz_28] at r_28
      have hz_28 : z_28 = sm (fun c => bI (decide (lgV σ c ≠ 0))) 144 := hz_28
      refine z_pop C dX2_creep_31 rfl ?_
      refine z_aload_n C 0 dX2_creep_32 rfl ?_
      refine z_aload_n C 0 dX2_creep_33 rfl ?_
      refine z_get C (v := .ref (h 4)) (ref := "ShadowWallsModel") (T := TX2) (N := 14) (ci := 2) 0 6 inU_X2_X2_creep rfl rfl (by decide) (by decide +kernel) (fun _ h9 => h9) rfl dX2_creep_34 ?_
      refine z_iload_n C 1 dX2_creep_37 rfl ?_
      refine z_iald C (cA := cI) (N := 6) (f := σ 3) 4 0 rfl rfl (by decide) (by omega) dX2_creep_38 ?_
      refine z_bipush C dX2_creep_39 (by decide) ?_
      refine z_iload_n C 3 dX2_creep_41 rfl ?_
      refine z_imul C dX2_creep_42 ?_
      refine z_iload_n C 2 dX2_creep_43 rfl ?_
      refine z_iadd C dX2_creep_44 ?_
      refine z_callVi C (As := [vI (σ 3 (w.toNat)), vI ((12 * y) + x)]) (st := []) (y := yX2_stepsTo) (w := wsX2_stepsTo) (rm := rm_X2_stepsTo) (wr := []) (k' := 0) (n' := 0) [0, 1, 2, 3, 4, 5, 6, 7, 8] [] 0 (c_X2_stepsTo l D cI cJ h σ (lkF (lgV σ) LI 144) (lkF (brV σ) BR 144) γ φ'_28 0 (σ 3 (w.toNat)) ((12 * y) + x) (by omega) (by omega) hO (lkL_r hO hL 144)) (cwV 2 C.1.2.2.2.2 gX2_creep_X2_stepsTo rfl rfl rfl (by decide +kernel) ⟨Nat.le_of_ble_eq_true rfl, Nat.le_of_ble_eq_true rfl⟩) rfl rfl rfl rfl rfl (by decide) rfl rfl rfl rfl (Nat.le_of_ble_eq_true rfl) rfl rfl ⟨Nat.le_of_ble_eq_true rfl, Nat.le_of_ble_eq_true rfl⟩ dX2_creep_45 ?_
      rintro z_45 _ ⟨γ'_45, rfl, f0_45, f1_45⟩
      refine z_ws (ws' := (mx cI h σ ((lkF (lgV σ) LI 144)) ((lkF (brV σ) BR 144)) γ'_45 φ'_28 0)) rfl ?_
      have hz_45 := f0_45 _ hp
      refine z_istore C [(4, vI z_45), (0, .ref (h 0)), (1, vI w), (2, vI x), (3, vI y)] dX2_creep_48 (by decide) rfl ?_
      refine z_iload C 0 dX2_creep_50 rfl ?_
      refine z_iconst C dX2_creep_52 ?_
      refine z_icmp_ne C (tgt := 62) dX2_creep_53 (by decide) (by omega) (by omega) (fun c_53 => ?_) (fun c_53 => ?_)
      ·
        refine z_aload_n C 1 dX2_creep_62 rfl ?_
        refine z_get C (v := .ref (h 4)) (ref := "ShadowWallsModel") (T := TX2) (N := 14) (ci := 2) 0 6 inU_X2_X2_creep rfl rfl (by decide) (by decide +kernel) (fun _ h9 => h9) rfl dX2_creep_63 ?_
        refine z_iload_n C 2 dX2_creep_66 rfl ?_
        refine z_bipush C dX2_creep_67 (by decide) ?_
        refine z_iload_n C 4 dX2_creep_69 rfl ?_
        refine z_imul C dX2_creep_70 ?_
        refine z_iload_n C 3 dX2_creep_71 rfl ?_
        refine z_iadd C dX2_creep_72 ?_
        refine z_iast C (cA := cI) (N := 6) (f := σ 3) (ws' := (mx cI h (sU σ 3 (w.toNat) ((12 * y) + x)) ((lkF (lgV σ) LI 144)) ((lkF (brV σ) BR 144)) γ'_45 φ'_28 0)) 4 0 rfl rfl (by decide) (by omega) rfl dX2_creep_73 ?_
        refine z_aload_n C 1 dX2_creep_74 rfl ?_
        refine z_dup C dX2_creep_75 rfl ?_
        refine z_get C (v := vI (σ 4 2)) (ref := "ShadowWallsModel") (T := TX2) (N := 14) (ci := 2) 0 7 inU_X2_X2_creep rfl rfl (by decide) (by decide +kernel) (fun _ h9 => h9) rfl dX2_creep_76 ?_
        refine z_iload C 0 dX2_creep_79 rfl ?_
        refine z_iadd C dX2_creep_81 ?_
        refine z_put C (ref := "ShadowWallsModel") (T := TX2) (N := 14) (ci := 2) (ty := .int) (ws' := (mx cI h (sU (sU σ 3 (w.toNat) ((12 * y) + x)) 4 2 ((σ 4 2) + z_45)) ((lkF (lgV σ) LI 144)) ((lkF (brV σ) BR 144)) γ'_45 φ'_28 0)) 0 7 inU_X2_X2_creep tyX2 tyX2_ok nmX2 rfl rfl (by decide) (by decide +kernel) (fun _ h9 => h9) rfl (by decide +kernel) (rfl) (rfl) (Nat.le_of_ble_eq_true rfl) rfl dX2_creep_82 ?_
        refine z_iload C 0 dX2_creep_85 rfl ?_
        exact hret _ _ _ _ dX2_creep_87 ⟨φ'_28, γ'_45, by rw [hz_45], hz_45⟩
      ·
        exfalso; omega
    ·
      exfalso; omega

set_option maxHeartbeats 4000000 in
set_option maxRecDepth 100000 in
theorem b1_X2_creep (l : Launch) (D : va_G) (cI cJ : ClassId) (h : Nat → Nat) (σ : YS) (LI BR : Nat → Int) (γ : YS) (φ : Nat → Int) (θ : Int) (w x y : Int) (hr : rng w ∧ rng x ∧ rng y) (hO : Ok σ) (hb : ¬ ((0 ≤ w ∧ w < σ 4 1) ∧ ((0 ≤ x ∧ x < 12) ∧ 0 ≤ y ∧ y < 12))) : Ci l yX2_creep wsX2_creep rm_X2_creep D [(cI, .int), (cJ, .long)] [.ref (h 0), vI w, vI x, vI y] (mx cI h σ LI BR γ φ θ) (fun z u => u = (mx cI h σ LI BR γ φ 1) ∧ z = 0) := by
  refine z_ofi (own := RX2) (cc := cX2_creep) (maxL := 5) (lv := [(0, .ref (h 0)), (1, vI w), (2, vI x), (3, vI y)]) (by decide) rfl rfl (Nat.le_of_ble_eq_true rfl) rfl ?_
  intro p e s m args below meth cd Q A C hret
  have hn := hO.1
  have hm := hO.2.1
  have en := nLa_e hO
  have em := nWa_e hO
  refine z_aload_n C 0 dX2_creep_0 rfl ?_
  refine z_iconst C dX2_creep_1 ?_
  refine z_put C (ref := "ShadowWallsModel") (T := TX2) (N := 14) (ci := 2) (ty := .int) (ws' := (mx cI h σ LI BR γ φ 0)) 0 0 inU_X2_X2_creep tyX2 tyX2_ok nmX2 rfl rfl (by decide) (by decide +kernel) (fun _ h9 => h9) rfl (by decide +kernel) (rfl) (rfl) (Nat.le_of_ble_eq_true rfl) rfl dX2_creep_2 ?_
  refine z_aload_n C 0 dX2_creep_5 rfl ?_
  refine z_iload_n C 1 dX2_creep_6 rfl ?_
  refine z_callVi C (As := [vI w]) (st := []) (y := yX2_isWatcher) (w := wsX2_isWatcher) (rm := rm_X2_isWatcher) (wr := []) (k' := 0) (n' := 0) [0, 1, 2, 3, 4, 5, 6, 7, 8] [] 0 (c_X2_isWatcher l D cI cJ h σ LI BR γ φ 0 w (by omega) hO) (cwV 1 C.1.2.2.2.2 gX2_creep_X2_isWatcher rfl rfl rfl (by decide +kernel) ⟨Nat.le_of_ble_eq_true rfl, Nat.le_of_ble_eq_true rfl⟩) rfl rfl rfl rfl rfl (by decide) rfl rfl rfl rfl (Nat.le_of_ble_eq_true rfl) rfl rfl ⟨Nat.le_of_ble_eq_true rfl, Nat.le_of_ble_eq_true rfl⟩ dX2_creep_7 ?_
  rintro z_7 _ ⟨rfl, hz_7⟩
  refine z_ws (ws' := (mx cI h σ LI BR γ φ 0)) rfl ?_
  have r_7 : z_7 = 0 ∨ z_7 = 1 := by rw [hz_7]; exact bI_01 _
  have hz_7 : z_7 = bI (decide (0 ≤ w) && decide (w ≤ σ 4 1 - 1)) := hz_7
  have i_7 := isIn_c hz_7
  refine z_if_eq C (tgt := 21) dX2_creep_10 (by decide) (by omega) (fun c_10 => ?_) (fun c_10 => ?_)
  ·
    refine z_aload_n C 0 dX2_creep_21 rfl ?_
    refine z_iconst C dX2_creep_22 ?_
    refine z_callVi C (As := [vI 1]) (st := []) (y := yX2_no) (w := wsX2_no) (rm := rm_X2_no) (wr := []) (k' := 0) (n' := 0) [0, 1, 2, 3, 4, 5, 6, 7, 8] [] 0 (c_X2_no l D cI cJ h σ LI BR γ φ 0 1 ) (cwV 1 C.1.2.2.2.2 gX2_creep_X2_no rfl rfl rfl (by decide +kernel) ⟨Nat.le_of_ble_eq_true rfl, Nat.le_of_ble_eq_true rfl⟩) rfl rfl rfl rfl rfl (by decide) rfl rfl rfl rfl (Nat.le_of_ble_eq_true rfl) rfl rfl ⟨Nat.le_of_ble_eq_true rfl, Nat.le_of_ble_eq_true rfl⟩ dX2_creep_23 ?_
    rintro z_23 _ ⟨rfl, rfl⟩
    refine z_ws (ws' := (mx cI h σ LI BR γ φ 1)) rfl ?_
    refine z_st (v' := 0) rfl ?_
    exact hret _ _ _ _ dX2_creep_26 ⟨rfl, by rfl⟩
  ·
    refine z_iload_n C 2 dX2_creep_13 rfl ?_
    refine z_iload_n C 3 dX2_creep_14 rfl ?_
    refine z_callSi C (As := [vI x, vI y]) (st := []) (y := yX2_isCell) (w := wsX2_isCell) (rm := rm_X2_isCell) (wr := (mx cI h σ LI BR γ φ 0)) (k' := 0) (n' := 0) [] [0, 1, 2, 3, 4, 5, 6, 7, 8] (c_X2_isCell l D cI cJ  x y (by omega) (by omega)) (va_cwS 2 C.1.2.2.2.2 gX2_creep_X2_isCell rfl rfl rfl (by decide +kernel) ⟨Nat.le_of_ble_eq_true rfl, Nat.le_of_ble_eq_true rfl⟩) rfl rfl rfl rfl rfl (by decide) rfl rfl (Nat.le_of_ble_eq_true rfl) rfl rfl ⟨Nat.le_of_ble_eq_true rfl, Nat.le_of_ble_eq_true rfl⟩ dX2_creep_15 ?_
    rintro z_15 _ ⟨rfl, hz_15⟩
    refine z_ws (ws' := (mx cI h σ LI BR γ φ 0)) rfl ?_
    have r_15 : z_15 = 0 ∨ z_15 = 1 := by rw [hz_15]; exact bI_01 _
    have hz_15 : z_15 = bI (decide (0 ≤ x) && decide (x ≤ 11) && (decide (0 ≤ y) && decide (y ≤ 11))) := hz_15
    have i_15 := isC_c hz_15
    refine z_if_ne C (tgt := 27) dX2_creep_18 (by decide) (by omega) (fun c_18 => ?_) (fun c_18 => ?_)
    ·
      exfalso; omega
    ·
      refine z_aload_n C 0 dX2_creep_21 rfl ?_
      refine z_iconst C dX2_creep_22 ?_
      refine z_callVi C (As := [vI 1]) (st := []) (y := yX2_no) (w := wsX2_no) (rm := rm_X2_no) (wr := []) (k' := 0) (n' := 0) [0, 1, 2, 3, 4, 5, 6, 7, 8] [] 0 (c_X2_no l D cI cJ h σ LI BR γ φ 0 1 ) (cwV 1 C.1.2.2.2.2 gX2_creep_X2_no rfl rfl rfl (by decide +kernel) ⟨Nat.le_of_ble_eq_true rfl, Nat.le_of_ble_eq_true rfl⟩) rfl rfl rfl rfl rfl (by decide) rfl rfl rfl rfl (Nat.le_of_ble_eq_true rfl) rfl rfl ⟨Nat.le_of_ble_eq_true rfl, Nat.le_of_ble_eq_true rfl⟩ dX2_creep_23 ?_
      rintro z_23 _ ⟨rfl, rfl⟩
      refine z_ws (ws' := (mx cI h σ LI BR γ φ 1)) rfl ?_
      refine z_st (v' := 0) rfl ?_
      exact hret _ _ _ _ dX2_creep_26 ⟨rfl, by rfl⟩

set_option maxHeartbeats 4000000 in
set_option maxRecDepth 100000 in
theorem b2_X2_creep (l : Launch) (D : va_G) (cI cJ : ClassId) (h : Nat → Nat) (σ : YS) (LI BR : Nat → Int) (γ : YS) (φ : Nat → Int) (θ : Int) (w x y : Int) (hw : 0 ≤ w ∧ w < σ 4 1) (hx : 0 ≤ x ∧ x < 12) (hy : 0 ≤ y ∧ y < 12) (hv : dS besN (frB σ (lkF (lgV σ) LI 144)) (σ 3 w.toNat).toNat (12 * y + x).toNat = -1) (hO : Ok σ) (hL : LI4 LI) : Ci l yX2_creep wsX2_creep rm_X2_creep D [(cI, .int), (cJ, .long)] [.ref (h 0), vI w, vI x, vI y] (mx cI h σ LI BR γ φ θ) (fun z u => ∃ φ' : Nat → Int, ∃ γ' : YS, u = (mx cI h σ (lkF (lgV σ) LI 144) (lkF (brV σ) BR 144) γ' φ' 2) ∧ z = 0) := by
  refine z_ofi (own := RX2) (cc := cX2_creep) (maxL := 5) (lv := [(0, .ref (h 0)), (1, vI w), (2, vI x), (3, vI y)]) (by decide) rfl rfl (Nat.le_of_ble_eq_true rfl) rfl ?_
  intro p e s m args below meth cd Q A C hret
  have hn := hO.1
  have hm := hO.2.1
  have en := nLa_e hO
  have em := nWa_e hO
  have hcc : 0 ≤ 12 * y + x ∧ 12 * y + x < 144 := by omega
  have ecc : (((12 * y + x).toNat : Nat) : Int) = 12 * y + x := Int.toNat_of_nonneg hcc.1
  have h1 := hO.2.2.2.1 w.toNat (by omega)
  have hp := dS_p besN (frB σ (lkF (lgV σ) LI 144)) (st := (σ 3 w.toNat).toNat) (by omega)
  refine z_aload_n C 0 dX2_creep_0 rfl ?_
  refine z_iconst C dX2_creep_1 ?_
  refine z_put C (ref := "ShadowWallsModel") (T := TX2) (N := 14) (ci := 2) (ty := .int) (ws' := (mx cI h σ LI BR γ φ 0)) 0 0 inU_X2_X2_creep tyX2 tyX2_ok nmX2 rfl rfl (by decide) (by decide +kernel) (fun _ h9 => h9) rfl (by decide +kernel) (rfl) (rfl) (Nat.le_of_ble_eq_true rfl) rfl dX2_creep_2 ?_
  refine z_aload_n C 0 dX2_creep_5 rfl ?_
  refine z_iload_n C 1 dX2_creep_6 rfl ?_
  refine z_callVi C (As := [vI w]) (st := []) (y := yX2_isWatcher) (w := wsX2_isWatcher) (rm := rm_X2_isWatcher) (wr := []) (k' := 0) (n' := 0) [0, 1, 2, 3, 4, 5, 6, 7, 8] [] 0 (c_X2_isWatcher l D cI cJ h σ LI BR γ φ 0 w (by omega) hO) (cwV 1 C.1.2.2.2.2 gX2_creep_X2_isWatcher rfl rfl rfl (by decide +kernel) ⟨Nat.le_of_ble_eq_true rfl, Nat.le_of_ble_eq_true rfl⟩) rfl rfl rfl rfl rfl (by decide) rfl rfl rfl rfl (Nat.le_of_ble_eq_true rfl) rfl rfl ⟨Nat.le_of_ble_eq_true rfl, Nat.le_of_ble_eq_true rfl⟩ dX2_creep_7 ?_
  rintro z_7 _ ⟨rfl, hz_7⟩
  refine z_ws (ws' := (mx cI h σ LI BR γ φ 0)) rfl ?_
  have r_7 : z_7 = 0 ∨ z_7 = 1 := by rw [hz_7]; exact bI_01 _
  have hz_7 : z_7 = bI (decide (0 ≤ w) && decide (w ≤ σ 4 1 - 1)) := hz_7
  have i_7 := isIn_c hz_7
  refine z_if_eq C (tgt := 21) dX2_creep_10 (by decide) (by omega) (fun c_10 => ?_) (fun c_10 => ?_)
  ·
    exfalso; omega
  ·
    refine z_iload_n C 2 dX2_creep_13 rfl ?_
    refine z_iload_n C 3 dX2_creep_14 rfl ?_
    refine z_callSi C (As := [vI x, vI y]) (st := []) (y := yX2_isCell) (w := wsX2_isCell) (rm := rm_X2_isCell) (wr := (mx cI h σ LI BR γ φ 0)) (k' := 0) (n' := 0) [] [0, 1, 2, 3, 4, 5, 6, 7, 8] (c_X2_isCell l D cI cJ  x y (by omega) (by omega)) (va_cwS 2 C.1.2.2.2.2 gX2_creep_X2_isCell rfl rfl rfl (by decide +kernel) ⟨Nat.le_of_ble_eq_true rfl, Nat.le_of_ble_eq_true rfl⟩) rfl rfl rfl rfl rfl (by decide) rfl rfl (Nat.le_of_ble_eq_true rfl) rfl rfl ⟨Nat.le_of_ble_eq_true rfl, Nat.le_of_ble_eq_true rfl⟩ dX2_creep_15 ?_
    rintro z_15 _ ⟨rfl, hz_15⟩
    refine z_ws (ws' := (mx cI h σ LI BR γ φ 0)) rfl ?_
    have r_15 : z_15 = 0 ∨ z_15 = 1 := by rw [hz_15]; exact bI_01 _
    have hz_15 : z_15 = bI (decide (0 ≤ x) && decide (x ≤ 11) && (decide (0 ≤ y) && decide (y ≤ 11))) := hz_15
    have i_15 := isC_c hz_15
    refine z_if_ne C (tgt := 27) dX2_creep_18 (by decide) (by omega) (fun c_18 => ?_) (fun c_18 => ?_)
    ·
      refine z_aload_n C 0 dX2_creep_27 rfl ?_
      refine z_callVi C (As := []) (st := []) (y := yX2_look) (w := wsX2_look) (rm := rm_X2_look) (wr := []) (k' := 0) (n' := 0) [0, 1, 2, 3, 4, 5, 6, 7, 8] [] 0 (c_X2_look l D cI cJ h σ LI BR γ φ 0  hO hL) (cwV 0 C.1.2.2.2.2 gX2_creep_X2_look rfl rfl rfl (by decide +kernel) ⟨Nat.le_of_ble_eq_true rfl, Nat.le_of_ble_eq_true rfl⟩) rfl rfl rfl rfl rfl (by decide) rfl rfl rfl rfl (Nat.le_of_ble_eq_true rfl) rfl rfl ⟨Nat.le_of_ble_eq_true rfl, Nat.le_of_ble_eq_true rfl⟩ dX2_creep_28 ?_
      rintro z_28 _ ⟨φ'_28, rfl, hz_28⟩
      refine z_ws (ws' := (mx cI h σ (lkF (lgV σ) LI 144) (lkF (brV σ) BR 144) γ φ'_28 0)) rfl ?_
      have r_28 := smB_r (fun c => decide (lgV σ c ≠ 0)) 144
      rw [← hz_28] at r_28
      have hz_28 : z_28 = sm (fun c => bI (decide (lgV σ c ≠ 0))) 144 := hz_28
      refine z_pop C dX2_creep_31 rfl ?_
      refine z_aload_n C 0 dX2_creep_32 rfl ?_
      refine z_aload_n C 0 dX2_creep_33 rfl ?_
      refine z_get C (v := .ref (h 4)) (ref := "ShadowWallsModel") (T := TX2) (N := 14) (ci := 2) 0 6 inU_X2_X2_creep rfl rfl (by decide) (by decide +kernel) (fun _ h9 => h9) rfl dX2_creep_34 ?_
      refine z_iload_n C 1 dX2_creep_37 rfl ?_
      refine z_iald C (cA := cI) (N := 6) (f := σ 3) 4 0 rfl rfl (by decide) (by omega) dX2_creep_38 ?_
      refine z_bipush C dX2_creep_39 (by decide) ?_
      refine z_iload_n C 3 dX2_creep_41 rfl ?_
      refine z_imul C dX2_creep_42 ?_
      refine z_iload_n C 2 dX2_creep_43 rfl ?_
      refine z_iadd C dX2_creep_44 ?_
      refine z_callVi C (As := [vI (σ 3 (w.toNat)), vI ((12 * y) + x)]) (st := []) (y := yX2_stepsTo) (w := wsX2_stepsTo) (rm := rm_X2_stepsTo) (wr := []) (k' := 0) (n' := 0) [0, 1, 2, 3, 4, 5, 6, 7, 8] [] 0 (c_X2_stepsTo l D cI cJ h σ (lkF (lgV σ) LI 144) (lkF (brV σ) BR 144) γ φ'_28 0 (σ 3 (w.toNat)) ((12 * y) + x) (by omega) (by omega) hO (lkL_r hO hL 144)) (cwV 2 C.1.2.2.2.2 gX2_creep_X2_stepsTo rfl rfl rfl (by decide +kernel) ⟨Nat.le_of_ble_eq_true rfl, Nat.le_of_ble_eq_true rfl⟩) rfl rfl rfl rfl rfl (by decide) rfl rfl rfl rfl (Nat.le_of_ble_eq_true rfl) rfl rfl ⟨Nat.le_of_ble_eq_true rfl, Nat.le_of_ble_eq_true rfl⟩ dX2_creep_45 ?_
      rintro z_45 _ ⟨γ'_45, rfl, f0_45, f1_45⟩
      refine z_ws (ws' := (mx cI h σ ((lkF (lgV σ) LI 144)) ((lkF (brV σ) BR 144)) γ'_45 φ'_28 0)) rfl ?_
      have hz_45 := f0_45 _ hp
      refine z_istore C [(4, vI z_45), (0, .ref (h 0)), (1, vI w), (2, vI x), (3, vI y)] dX2_creep_48 (by decide) rfl ?_
      refine z_iload C 0 dX2_creep_50 rfl ?_
      refine z_iconst C dX2_creep_52 ?_
      refine z_icmp_ne C (tgt := 62) dX2_creep_53 (by decide) (by omega) (by omega) (fun c_53 => ?_) (fun c_53 => ?_)
      ·
        exfalso; omega
      ·
        refine z_aload_n C 1 dX2_creep_56 rfl ?_
        refine z_iconst C dX2_creep_57 ?_
        refine z_callVi C (As := [vI 2]) (st := []) (y := yX2_no) (w := wsX2_no) (rm := rm_X2_no) (wr := []) (k' := 0) (n' := 0) [0, 1, 2, 3, 4, 5, 6, 7, 8] [] 0 (c_X2_no l D cI cJ h σ (lkF (lgV σ) LI 144) (lkF (brV σ) BR 144) γ'_45 φ'_28 0 2 ) (cwV 1 C.1.2.2.2.2 gX2_creep_X2_no rfl rfl rfl (by decide +kernel) ⟨Nat.le_of_ble_eq_true rfl, Nat.le_of_ble_eq_true rfl⟩) rfl rfl rfl rfl rfl (by decide) rfl rfl rfl rfl (Nat.le_of_ble_eq_true rfl) rfl rfl ⟨Nat.le_of_ble_eq_true rfl, Nat.le_of_ble_eq_true rfl⟩ dX2_creep_58 ?_
        rintro z_58 _ ⟨rfl, rfl⟩
        refine z_ws (ws' := (mx cI h σ ((lkF (lgV σ) LI 144)) ((lkF (brV σ) BR 144)) γ'_45 φ'_28 2)) rfl ?_
        refine z_st (v' := 0) rfl ?_
        exact hret _ _ _ _ dX2_creep_61 ⟨_, _, rfl, by rfl⟩
    ·
      exfalso; omega

set_option maxRecDepth 100000 in
theorem inU_X2_X2_creeps : ∀ w ∈ u_ws RX2 TX2 14, w ∈ wsX2_creeps := by decide +kernel
abbrev rm_X2_creeps : Room := { frames := 5, cells := 0, slots := 0, locals := 124 }
set_option maxHeartbeats 4000000 in
set_option maxRecDepth 100000 in
theorem c_X2_creeps (l : Launch) (D : va_G) (cI cJ : ClassId) (h : Nat → Nat) (σ : YS) (LI BR : Nat → Int) (γ : YS) (φ : Nat → Int) (θ : Int) (w x y : Int) (hw : 0 ≤ w ∧ w < σ 4 1) (hx : 0 ≤ x ∧ x < 12) (hy : 0 ≤ y ∧ y < 12) (hO : Ok σ) (hL : LI4 LI) : Ci l yX2_creeps wsX2_creeps rm_X2_creeps D [(cI, .int), (cJ, .long)] [.ref (h 0), vI w, vI x, vI y] (mx cI h σ LI BR γ φ θ) (fun z u => ∃ φ' : Nat → Int, ∃ γ' : YS, u = (mx cI h σ (lkF (lgV σ) LI 144) (lkF (brV σ) BR 144) γ' φ' 0) ∧ z = dS besN (frB σ (lkF (lgV σ) LI 144)) (σ 3 w.toNat).toNat (12 * y + x).toNat) := by
  refine z_ofi (own := RX2) (cc := cX2_creeps) (maxL := 4) (lv := [(0, .ref (h 0)), (1, vI w), (2, vI x), (3, vI y)]) (by decide) rfl rfl (Nat.le_of_ble_eq_true rfl) rfl ?_
  intro p e s m args below meth cd Q A C hret
  have hn := hO.1
  have hm := hO.2.1
  have en := nLa_e hO
  have em := nWa_e hO
  have hcc : 0 ≤ 12 * y + x ∧ 12 * y + x < 144 := by omega
  have ecc : (((12 * y + x).toNat : Nat) : Int) = 12 * y + x := Int.toNat_of_nonneg hcc.1
  have h1 := hO.2.2.2.1 w.toNat (by omega)
  have hp := dS_p besN (frB σ (lkF (lgV σ) LI 144)) (st := (σ 3 w.toNat).toNat) (by omega)
  refine z_aload_n C 0 dX2_creeps_0 rfl ?_
  refine z_iconst C dX2_creeps_1 ?_
  refine z_put C (ref := "ShadowWallsModel") (T := TX2) (N := 14) (ci := 2) (ty := .int) (ws' := (mx cI h σ LI BR γ φ 0)) 0 0 inU_X2_X2_creeps tyX2 tyX2_ok nmX2 rfl rfl (by decide) (by decide +kernel) (fun _ h9 => h9) rfl (by decide +kernel) (rfl) (rfl) (Nat.le_of_ble_eq_true rfl) rfl dX2_creeps_2 ?_
  refine z_aload_n C 0 dX2_creeps_5 rfl ?_
  refine z_iload_n C 1 dX2_creeps_6 rfl ?_
  refine z_callVi C (As := [vI w]) (st := []) (y := yX2_isWatcher) (w := wsX2_isWatcher) (rm := rm_X2_isWatcher) (wr := []) (k' := 0) (n' := 0) [0, 1, 2, 3, 4, 5, 6, 7, 8] [] 0 (c_X2_isWatcher l D cI cJ h σ LI BR γ φ 0 w (by omega) hO) (cwV 1 C.1.2.2.2.2 gX2_creeps_X2_isWatcher rfl rfl rfl (by decide +kernel) ⟨Nat.le_of_ble_eq_true rfl, Nat.le_of_ble_eq_true rfl⟩) rfl rfl rfl rfl rfl (by decide) rfl rfl rfl rfl (Nat.le_of_ble_eq_true rfl) rfl rfl ⟨Nat.le_of_ble_eq_true rfl, Nat.le_of_ble_eq_true rfl⟩ dX2_creeps_7 ?_
  rintro z_7 _ ⟨rfl, hz_7⟩
  refine z_ws (ws' := (mx cI h σ LI BR γ φ 0)) rfl ?_
  have r_7 : z_7 = 0 ∨ z_7 = 1 := by rw [hz_7]; exact bI_01 _
  have hz_7 : z_7 = bI (decide (0 ≤ w) && decide (w ≤ σ 4 1 - 1)) := hz_7
  have i_7 := isIn_c hz_7
  refine z_if_eq C (tgt := 21) dX2_creeps_10 (by decide) (by omega) (fun c_10 => ?_) (fun c_10 => ?_)
  ·
    exfalso; omega
  ·
    refine z_iload_n C 2 dX2_creeps_13 rfl ?_
    refine z_iload_n C 3 dX2_creeps_14 rfl ?_
    refine z_callSi C (As := [vI x, vI y]) (st := []) (y := yX2_isCell) (w := wsX2_isCell) (rm := rm_X2_isCell) (wr := (mx cI h σ LI BR γ φ 0)) (k' := 0) (n' := 0) [] [0, 1, 2, 3, 4, 5, 6, 7, 8] (c_X2_isCell l D cI cJ  x y (by omega) (by omega)) (va_cwS 2 C.1.2.2.2.2 gX2_creeps_X2_isCell rfl rfl rfl (by decide +kernel) ⟨Nat.le_of_ble_eq_true rfl, Nat.le_of_ble_eq_true rfl⟩) rfl rfl rfl rfl rfl (by decide) rfl rfl (Nat.le_of_ble_eq_true rfl) rfl rfl ⟨Nat.le_of_ble_eq_true rfl, Nat.le_of_ble_eq_true rfl⟩ dX2_creeps_15 ?_
    rintro z_15 _ ⟨rfl, hz_15⟩
    refine z_ws (ws' := (mx cI h σ LI BR γ φ 0)) rfl ?_
    have r_15 : z_15 = 0 ∨ z_15 = 1 := by rw [hz_15]; exact bI_01 _
    have hz_15 : z_15 = bI (decide (0 ≤ x) && decide (x ≤ 11) && (decide (0 ≤ y) && decide (y ≤ 11))) := hz_15
    have i_15 := isC_c hz_15
    refine z_if_ne C (tgt := 27) dX2_creeps_18 (by decide) (by omega) (fun c_18 => ?_) (fun c_18 => ?_)
    ·
      refine z_aload_n C 0 dX2_creeps_27 rfl ?_
      refine z_callVi C (As := []) (st := []) (y := yX2_look) (w := wsX2_look) (rm := rm_X2_look) (wr := []) (k' := 0) (n' := 0) [0, 1, 2, 3, 4, 5, 6, 7, 8] [] 0 (c_X2_look l D cI cJ h σ LI BR γ φ 0  hO hL) (cwV 0 C.1.2.2.2.2 gX2_creeps_X2_look rfl rfl rfl (by decide +kernel) ⟨Nat.le_of_ble_eq_true rfl, Nat.le_of_ble_eq_true rfl⟩) rfl rfl rfl rfl rfl (by decide) rfl rfl rfl rfl (Nat.le_of_ble_eq_true rfl) rfl rfl ⟨Nat.le_of_ble_eq_true rfl, Nat.le_of_ble_eq_true rfl⟩ dX2_creeps_28 ?_
      rintro z_28 _ ⟨φ'_28, rfl, hz_28⟩
      refine z_ws (ws' := (mx cI h σ (lkF (lgV σ) LI 144) (lkF (brV σ) BR 144) γ φ'_28 0)) rfl ?_
      have r_28 := smB_r (fun c => decide (lgV σ c ≠ 0)) 144
      rw [← hz_28] at r_28
      have hz_28 : z_28 = sm (fun c => bI (decide (lgV σ c ≠ 0))) 144 := hz_28
      refine z_pop C dX2_creeps_31 rfl ?_
      refine z_aload_n C 0 dX2_creeps_32 rfl ?_
      refine z_aload_n C 0 dX2_creeps_33 rfl ?_
      refine z_get C (v := .ref (h 4)) (ref := "ShadowWallsModel") (T := TX2) (N := 14) (ci := 2) 0 6 inU_X2_X2_creeps rfl rfl (by decide) (by decide +kernel) (fun _ h9 => h9) rfl dX2_creeps_34 ?_
      refine z_iload_n C 1 dX2_creeps_37 rfl ?_
      refine z_iald C (cA := cI) (N := 6) (f := σ 3) 4 0 rfl rfl (by decide) (by omega) dX2_creeps_38 ?_
      refine z_bipush C dX2_creeps_39 (by decide) ?_
      refine z_iload_n C 3 dX2_creeps_41 rfl ?_
      refine z_imul C dX2_creeps_42 ?_
      refine z_iload_n C 2 dX2_creeps_43 rfl ?_
      refine z_iadd C dX2_creeps_44 ?_
      refine z_callVi C (As := [vI (σ 3 (w.toNat)), vI ((12 * y) + x)]) (st := []) (y := yX2_stepsTo) (w := wsX2_stepsTo) (rm := rm_X2_stepsTo) (wr := []) (k' := 0) (n' := 0) [0, 1, 2, 3, 4, 5, 6, 7, 8] [] 0 (c_X2_stepsTo l D cI cJ h σ (lkF (lgV σ) LI 144) (lkF (brV σ) BR 144) γ φ'_28 0 (σ 3 (w.toNat)) ((12 * y) + x) (by omega) (by omega) hO (lkL_r hO hL 144)) (cwV 2 C.1.2.2.2.2 gX2_creeps_X2_stepsTo rfl rfl rfl (by decide +kernel) ⟨Nat.le_of_ble_eq_true rfl, Nat.le_of_ble_eq_true rfl⟩) rfl rfl rfl rfl rfl (by decide) rfl rfl rfl rfl (Nat.le_of_ble_eq_true rfl) rfl rfl ⟨Nat.le_of_ble_eq_true rfl, Nat.le_of_ble_eq_true rfl⟩ dX2_creeps_45 ?_
      rintro z_45 _ ⟨γ'_45, rfl, f0_45, f1_45⟩
      refine z_ws (ws' := (mx cI h σ ((lkF (lgV σ) LI 144)) ((lkF (brV σ) BR 144)) γ'_45 φ'_28 0)) rfl ?_
      have hz_45 := f0_45 _ hp
      exact hret _ _ _ _ dX2_creeps_48 ⟨_, _, rfl, by exact hz_45⟩
    ·
      exfalso; omega

set_option maxHeartbeats 4000000 in
set_option maxRecDepth 100000 in
theorem b1_X2_creeps (l : Launch) (D : va_G) (cI cJ : ClassId) (h : Nat → Nat) (σ : YS) (LI BR : Nat → Int) (γ : YS) (φ : Nat → Int) (θ : Int) (w x y : Int) (hr : rng w ∧ rng x ∧ rng y) (hO : Ok σ) (hb : ¬ ((0 ≤ w ∧ w < σ 4 1) ∧ ((0 ≤ x ∧ x < 12) ∧ 0 ≤ y ∧ y < 12))) : Ci l yX2_creeps wsX2_creeps rm_X2_creeps D [(cI, .int), (cJ, .long)] [.ref (h 0), vI w, vI x, vI y] (mx cI h σ LI BR γ φ θ) (fun z u => u = (mx cI h σ LI BR γ φ 1) ∧ z = 0) := by
  refine z_ofi (own := RX2) (cc := cX2_creeps) (maxL := 4) (lv := [(0, .ref (h 0)), (1, vI w), (2, vI x), (3, vI y)]) (by decide) rfl rfl (Nat.le_of_ble_eq_true rfl) rfl ?_
  intro p e s m args below meth cd Q A C hret
  have hn := hO.1
  have hm := hO.2.1
  have en := nLa_e hO
  have em := nWa_e hO
  refine z_aload_n C 0 dX2_creeps_0 rfl ?_
  refine z_iconst C dX2_creeps_1 ?_
  refine z_put C (ref := "ShadowWallsModel") (T := TX2) (N := 14) (ci := 2) (ty := .int) (ws' := (mx cI h σ LI BR γ φ 0)) 0 0 inU_X2_X2_creeps tyX2 tyX2_ok nmX2 rfl rfl (by decide) (by decide +kernel) (fun _ h9 => h9) rfl (by decide +kernel) (rfl) (rfl) (Nat.le_of_ble_eq_true rfl) rfl dX2_creeps_2 ?_
  refine z_aload_n C 0 dX2_creeps_5 rfl ?_
  refine z_iload_n C 1 dX2_creeps_6 rfl ?_
  refine z_callVi C (As := [vI w]) (st := []) (y := yX2_isWatcher) (w := wsX2_isWatcher) (rm := rm_X2_isWatcher) (wr := []) (k' := 0) (n' := 0) [0, 1, 2, 3, 4, 5, 6, 7, 8] [] 0 (c_X2_isWatcher l D cI cJ h σ LI BR γ φ 0 w (by omega) hO) (cwV 1 C.1.2.2.2.2 gX2_creeps_X2_isWatcher rfl rfl rfl (by decide +kernel) ⟨Nat.le_of_ble_eq_true rfl, Nat.le_of_ble_eq_true rfl⟩) rfl rfl rfl rfl rfl (by decide) rfl rfl rfl rfl (Nat.le_of_ble_eq_true rfl) rfl rfl ⟨Nat.le_of_ble_eq_true rfl, Nat.le_of_ble_eq_true rfl⟩ dX2_creeps_7 ?_
  rintro z_7 _ ⟨rfl, hz_7⟩
  refine z_ws (ws' := (mx cI h σ LI BR γ φ 0)) rfl ?_
  have r_7 : z_7 = 0 ∨ z_7 = 1 := by rw [hz_7]; exact bI_01 _
  have hz_7 : z_7 = bI (decide (0 ≤ w) && decide (w ≤ σ 4 1 - 1)) := hz_7
  have i_7 := isIn_c hz_7
  refine z_if_eq C (tgt := 21) dX2_creeps_10 (by decide) (by omega) (fun c_10 => ?_) (fun c_10 => ?_)
  ·
    refine z_aload_n C 0 dX2_creeps_21 rfl ?_
    refine z_iconst C dX2_creeps_22 ?_
    refine z_callVi C (As := [vI 1]) (st := []) (y := yX2_no) (w := wsX2_no) (rm := rm_X2_no) (wr := []) (k' := 0) (n' := 0) [0, 1, 2, 3, 4, 5, 6, 7, 8] [] 0 (c_X2_no l D cI cJ h σ LI BR γ φ 0 1 ) (cwV 1 C.1.2.2.2.2 gX2_creeps_X2_no rfl rfl rfl (by decide +kernel) ⟨Nat.le_of_ble_eq_true rfl, Nat.le_of_ble_eq_true rfl⟩) rfl rfl rfl rfl rfl (by decide) rfl rfl rfl rfl (Nat.le_of_ble_eq_true rfl) rfl rfl ⟨Nat.le_of_ble_eq_true rfl, Nat.le_of_ble_eq_true rfl⟩ dX2_creeps_23 ?_
    rintro z_23 _ ⟨rfl, rfl⟩
    refine z_ws (ws' := (mx cI h σ LI BR γ φ 1)) rfl ?_
    refine z_st (v' := 0) rfl ?_
    exact hret _ _ _ _ dX2_creeps_26 ⟨rfl, by rfl⟩
  ·
    refine z_iload_n C 2 dX2_creeps_13 rfl ?_
    refine z_iload_n C 3 dX2_creeps_14 rfl ?_
    refine z_callSi C (As := [vI x, vI y]) (st := []) (y := yX2_isCell) (w := wsX2_isCell) (rm := rm_X2_isCell) (wr := (mx cI h σ LI BR γ φ 0)) (k' := 0) (n' := 0) [] [0, 1, 2, 3, 4, 5, 6, 7, 8] (c_X2_isCell l D cI cJ  x y (by omega) (by omega)) (va_cwS 2 C.1.2.2.2.2 gX2_creeps_X2_isCell rfl rfl rfl (by decide +kernel) ⟨Nat.le_of_ble_eq_true rfl, Nat.le_of_ble_eq_true rfl⟩) rfl rfl rfl rfl rfl (by decide) rfl rfl (Nat.le_of_ble_eq_true rfl) rfl rfl ⟨Nat.le_of_ble_eq_true rfl, Nat.le_of_ble_eq_true rfl⟩ dX2_creeps_15 ?_
    rintro z_15 _ ⟨rfl, hz_15⟩
    refine z_ws (ws' := (mx cI h σ LI BR γ φ 0)) rfl ?_
    have r_15 : z_15 = 0 ∨ z_15 = 1 := by rw [hz_15]; exact bI_01 _
    have hz_15 : z_15 = bI (decide (0 ≤ x) && decide (x ≤ 11) && (decide (0 ≤ y) && decide (y ≤ 11))) := hz_15
    have i_15 := isC_c hz_15
    refine z_if_ne C (tgt := 27) dX2_creeps_18 (by decide) (by omega) (fun c_18 => ?_) (fun c_18 => ?_)
    ·
      exfalso; omega
    ·
      refine z_aload_n C 0 dX2_creeps_21 rfl ?_
      refine z_iconst C dX2_creeps_22 ?_
      refine z_callVi C (As := [vI 1]) (st := []) (y := yX2_no) (w := wsX2_no) (rm := rm_X2_no) (wr := []) (k' := 0) (n' := 0) [0, 1, 2, 3, 4, 5, 6, 7, 8] [] 0 (c_X2_no l D cI cJ h σ LI BR γ φ 0 1 ) (cwV 1 C.1.2.2.2.2 gX2_creeps_X2_no rfl rfl rfl (by decide +kernel) ⟨Nat.le_of_ble_eq_true rfl, Nat.le_of_ble_eq_true rfl⟩) rfl rfl rfl rfl rfl (by decide) rfl rfl rfl rfl (Nat.le_of_ble_eq_true rfl) rfl rfl ⟨Nat.le_of_ble_eq_true rfl, Nat.le_of_ble_eq_true rfl⟩ dX2_creeps_23 ?_
      rintro z_23 _ ⟨rfl, rfl⟩
      refine z_ws (ws' := (mx cI h σ LI BR γ φ 1)) rfl ?_
      refine z_st (v' := 0) rfl ?_
      exact hret _ _ _ _ dX2_creeps_26 ⟨rfl, by rfl⟩

set_option maxRecDepth 100000 in
theorem inU_X2_X2_told : ∀ w ∈ u_ws RX2 TX2 14, w ∈ wsX2_told := by decide +kernel
abbrev rm_X2_told : Room := { frames := 6, cells := 0, slots := 0, locals := 144 }
set_option maxHeartbeats 4000000 in
set_option maxRecDepth 100000 in
theorem c_X2_told (l : Launch) (D : va_G) (cI cJ : ClassId) (h : Nat → Nat) (σ : YS) (LI BR : Nat → Int) (γ : YS) (φ : Nat → Int) (θ : Int) (x y wh : Int) (hx : 0 ≤ x ∧ x < 12) (hy : 0 ≤ y ∧ y < 12) (hwh : 0 ≤ wh ∧ wh < 5) (hO : Ok σ) (hL : LI4 LI) : Ci l yX2_told wsX2_told rm_X2_told D [(cI, .int), (cJ, .long)] [.ref (h 0), vI x, vI y, vI wh] (mx cI h σ LI BR γ φ θ) (fun z u => ∃ φ' : Nat → Int, u = (mx cI h σ (lkF (lgV σ) LI 144) (lkF (brV σ) BR 144) γ φ' 0) ∧ z = tolM σ (lkF (lgV σ) LI 144) (lkF (brV σ) BR 144) (12 * y + x).toNat wh) := by
  refine z_ofi (own := RX2) (cc := cX2_told) (maxL := 4) (lv := [(0, .ref (h 0)), (1, vI x), (2, vI y), (3, vI wh)]) (by decide) rfl rfl (Nat.le_of_ble_eq_true rfl) rfl ?_
  intro p e s m args below meth cd Q A C hret
  have hn := hO.1
  have hm := hO.2.1
  have en := nLa_e hO
  have em := nWa_e hO
  have hcc : 0 ≤ 12 * y + x ∧ 12 * y + x < 144 := by omega
  have ecc : (((12 * y + x).toNat : Nat) : Int) = 12 * y + x := Int.toNat_of_nonneg hcc.1
  refine z_aload_n C 0 dX2_told_0 rfl ?_
  refine z_iconst C dX2_told_1 ?_
  refine z_put C (ref := "ShadowWallsModel") (T := TX2) (N := 14) (ci := 2) (ty := .int) (ws' := (mx cI h σ LI BR γ φ 0)) 0 0 inU_X2_X2_told tyX2 tyX2_ok nmX2 rfl rfl (by decide) (by decide +kernel) (fun _ h9 => h9) rfl (by decide +kernel) (rfl) (rfl) (Nat.le_of_ble_eq_true rfl) rfl dX2_told_2 ?_
  refine z_iload_n C 1 dX2_told_5 rfl ?_
  refine z_iload_n C 2 dX2_told_6 rfl ?_
  refine z_callSi C (As := [vI x, vI y]) (st := []) (y := yX2_isCell) (w := wsX2_isCell) (rm := rm_X2_isCell) (wr := (mx cI h σ LI BR γ φ 0)) (k' := 0) (n' := 0) [] [0, 1, 2, 3, 4, 5, 6, 7, 8] (c_X2_isCell l D cI cJ  x y (by omega) (by omega)) (va_cwS 2 C.1.2.2.2.2 gX2_told_X2_isCell rfl rfl rfl (by decide +kernel) ⟨Nat.le_of_ble_eq_true rfl, Nat.le_of_ble_eq_true rfl⟩) rfl rfl rfl rfl rfl (by decide) rfl rfl (Nat.le_of_ble_eq_true rfl) rfl rfl ⟨Nat.le_of_ble_eq_true rfl, Nat.le_of_ble_eq_true rfl⟩ dX2_told_7 ?_
  rintro z_7 _ ⟨rfl, hz_7⟩
  refine z_ws (ws' := (mx cI h σ LI BR γ φ 0)) rfl ?_
  have r_7 : z_7 = 0 ∨ z_7 = 1 := by rw [hz_7]; exact bI_01 _
  have hz_7 : z_7 = bI (decide (0 ≤ x) && decide (x ≤ 11) && (decide (0 ≤ y) && decide (y ≤ 11))) := hz_7
  have i_7 := isC_c hz_7
  refine z_if_eq C (tgt := 22) dX2_told_10 (by decide) (by omega) (fun c_10 => ?_) (fun c_10 => ?_)
  ·
    exfalso; omega
  ·
    refine z_iload_n C 3 dX2_told_13 rfl ?_
    refine z_iconst C dX2_told_14 ?_
    refine z_iconst C dX2_told_15 ?_
    refine z_callSi C (As := [vI wh, vI 0, vI 4]) (st := []) (y := yX2_isIn) (w := wsX2_isIn) (rm := rm_X2_isIn) (wr := (mx cI h σ LI BR γ φ 0)) (k' := 0) (n' := 0) [] [0, 1, 2, 3, 4, 5, 6, 7, 8] (c_X2_isIn l D cI cJ  wh 0 4 (by omega) (by omega) (by omega)) (va_cwS 3 C.1.2.2.2.2 gX2_told_X2_isIn rfl rfl rfl (by decide +kernel) ⟨Nat.le_of_ble_eq_true rfl, Nat.le_of_ble_eq_true rfl⟩) rfl rfl rfl rfl rfl (by decide) rfl rfl (Nat.le_of_ble_eq_true rfl) rfl rfl ⟨Nat.le_of_ble_eq_true rfl, Nat.le_of_ble_eq_true rfl⟩ dX2_told_16 ?_
    rintro z_16 _ ⟨rfl, hz_16⟩
    refine z_ws (ws' := (mx cI h σ LI BR γ φ 0)) rfl ?_
    have r_16 : z_16 = 0 ∨ z_16 = 1 := by rw [hz_16]; exact bI_01 _
    have hz_16 : z_16 = bI (decide (0 ≤ wh) && decide (wh ≤ 4)) := hz_16
    have i_16 := isIn_c hz_16
    refine z_if_ne C (tgt := 28) dX2_told_19 (by decide) (by omega) (fun c_19 => ?_) (fun c_19 => ?_)
    ·
      refine z_aload_n C 0 dX2_told_28 rfl ?_
      refine z_callVi C (As := []) (st := []) (y := yX2_look) (w := wsX2_look) (rm := rm_X2_look) (wr := []) (k' := 0) (n' := 0) [0, 1, 2, 3, 4, 5, 6, 7, 8] [] 0 (c_X2_look l D cI cJ h σ LI BR γ φ 0  hO hL) (cwV 0 C.1.2.2.2.2 gX2_told_X2_look rfl rfl rfl (by decide +kernel) ⟨Nat.le_of_ble_eq_true rfl, Nat.le_of_ble_eq_true rfl⟩) rfl rfl rfl rfl rfl (by decide) rfl rfl rfl rfl (Nat.le_of_ble_eq_true rfl) rfl rfl ⟨Nat.le_of_ble_eq_true rfl, Nat.le_of_ble_eq_true rfl⟩ dX2_told_29 ?_
      rintro z_29 _ ⟨φ'_29, rfl, hz_29⟩
      refine z_ws (ws' := (mx cI h σ (lkF (lgV σ) LI 144) (lkF (brV σ) BR 144) γ φ'_29 0)) rfl ?_
      have r_29 := smB_r (fun c => decide (lgV σ c ≠ 0)) 144
      rw [← hz_29] at r_29
      have hz_29 : z_29 = sm (fun c => bI (decide (lgV σ c ≠ 0))) 144 := hz_29
      refine z_pop C dX2_told_32 rfl ?_
      refine z_aload_n C 0 dX2_told_33 rfl ?_
      refine z_bipush C dX2_told_34 (by decide) ?_
      refine z_iload_n C 2 dX2_told_36 rfl ?_
      refine z_imul C dX2_told_37 ?_
      refine z_iload_n C 1 dX2_told_38 rfl ?_
      refine z_iadd C dX2_told_39 ?_
      refine z_iload_n C 3 dX2_told_40 rfl ?_
      refine z_callVi C (As := [vI ((12 * y) + x), vI wh]) (st := []) (y := yX2_cellTold) (w := wsX2_cellTold) (rm := rm_X2_cellTold) (wr := []) (k' := 0) (n' := 0) [0, 1, 2, 3, 4, 5, 6, 7, 8] [] 0 (c_X2_cellTold l D cI cJ h σ (lkF (lgV σ) LI 144) (lkF (brV σ) BR 144) γ φ'_29 0 ((12 * y) + x) wh (by omega) (by omega) hO (lkL_r hO hL 144)) (cwV 2 C.1.2.2.2.2 gX2_told_X2_cellTold rfl rfl rfl (by decide +kernel) ⟨Nat.le_of_ble_eq_true rfl, Nat.le_of_ble_eq_true rfl⟩) rfl rfl rfl rfl rfl (by decide) rfl rfl rfl rfl (Nat.le_of_ble_eq_true rfl) rfl rfl ⟨Nat.le_of_ble_eq_true rfl, Nat.le_of_ble_eq_true rfl⟩ dX2_told_41 ?_
      rintro z_41 _ ⟨φ'_41, rfl, hz_41⟩
      refine z_ws (ws' := (mx cI h σ ((lkF (lgV σ) LI 144)) ((lkF (brV σ) BR 144)) γ φ'_41 0)) rfl ?_
      have hz_41 : z_41 = tolM σ (lkF (lgV σ) LI 144) (lkF (brV σ) BR 144) ((12 * y) + x).toNat wh := hz_41
      exact hret _ _ _ _ dX2_told_44 ⟨_, rfl, by exact hz_41⟩
    ·
      exfalso; omega

set_option maxHeartbeats 4000000 in
set_option maxRecDepth 100000 in
theorem b1_X2_told (l : Launch) (D : va_G) (cI cJ : ClassId) (h : Nat → Nat) (σ : YS) (LI BR : Nat → Int) (γ : YS) (φ : Nat → Int) (θ : Int) (x y wh : Int) (hr : rng x ∧ rng y ∧ rng wh) (hO : Ok σ) (hb : ¬ (((0 ≤ x ∧ x < 12) ∧ 0 ≤ y ∧ y < 12) ∧ (0 ≤ wh ∧ wh < 5))) : Ci l yX2_told wsX2_told rm_X2_told D [(cI, .int), (cJ, .long)] [.ref (h 0), vI x, vI y, vI wh] (mx cI h σ LI BR γ φ θ) (fun z u => u = (mx cI h σ LI BR γ φ 1) ∧ z = 0) := by
  refine z_ofi (own := RX2) (cc := cX2_told) (maxL := 4) (lv := [(0, .ref (h 0)), (1, vI x), (2, vI y), (3, vI wh)]) (by decide) rfl rfl (Nat.le_of_ble_eq_true rfl) rfl ?_
  intro p e s m args below meth cd Q A C hret
  have hn := hO.1
  have hm := hO.2.1
  have en := nLa_e hO
  have em := nWa_e hO
  refine z_aload_n C 0 dX2_told_0 rfl ?_
  refine z_iconst C dX2_told_1 ?_
  refine z_put C (ref := "ShadowWallsModel") (T := TX2) (N := 14) (ci := 2) (ty := .int) (ws' := (mx cI h σ LI BR γ φ 0)) 0 0 inU_X2_X2_told tyX2 tyX2_ok nmX2 rfl rfl (by decide) (by decide +kernel) (fun _ h9 => h9) rfl (by decide +kernel) (rfl) (rfl) (Nat.le_of_ble_eq_true rfl) rfl dX2_told_2 ?_
  refine z_iload_n C 1 dX2_told_5 rfl ?_
  refine z_iload_n C 2 dX2_told_6 rfl ?_
  refine z_callSi C (As := [vI x, vI y]) (st := []) (y := yX2_isCell) (w := wsX2_isCell) (rm := rm_X2_isCell) (wr := (mx cI h σ LI BR γ φ 0)) (k' := 0) (n' := 0) [] [0, 1, 2, 3, 4, 5, 6, 7, 8] (c_X2_isCell l D cI cJ  x y (by omega) (by omega)) (va_cwS 2 C.1.2.2.2.2 gX2_told_X2_isCell rfl rfl rfl (by decide +kernel) ⟨Nat.le_of_ble_eq_true rfl, Nat.le_of_ble_eq_true rfl⟩) rfl rfl rfl rfl rfl (by decide) rfl rfl (Nat.le_of_ble_eq_true rfl) rfl rfl ⟨Nat.le_of_ble_eq_true rfl, Nat.le_of_ble_eq_true rfl⟩ dX2_told_7 ?_
  rintro z_7 _ ⟨rfl, hz_7⟩
  refine z_ws (ws' := (mx cI h σ LI BR γ φ 0)) rfl ?_
  have r_7 : z_7 = 0 ∨ z_7 = 1 := by rw [hz_7]; exact bI_01 _
  have hz_7 : z_7 = bI (decide (0 ≤ x) && decide (x ≤ 11) && (decide (0 ≤ y) && decide (y ≤ 11))) := hz_7
  have i_7 := isC_c hz_7
  refine z_if_eq C (tgt := 22) dX2_told_10 (by decide) (by omega) (fun c_10 => ?_) (fun c_10 => ?_)
  ·
    refine z_aload_n C 0 dX2_told_22 rfl ?_
    refine z_iconst C dX2_told_23 ?_
    refine z_callVi C (As := [vI 1]) (st := []) (y := yX2_no) (w := wsX2_no) (rm := rm_X2_no) (wr := []) (k' := 0) (n' := 0) [0, 1, 2, 3, 4, 5, 6, 7, 8] [] 0 (c_X2_no l D cI cJ h σ LI BR γ φ 0 1 ) (cwV 1 C.1.2.2.2.2 gX2_told_X2_no rfl rfl rfl (by decide +kernel) ⟨Nat.le_of_ble_eq_true rfl, Nat.le_of_ble_eq_true rfl⟩) rfl rfl rfl rfl rfl (by decide) rfl rfl rfl rfl (Nat.le_of_ble_eq_true rfl) rfl rfl ⟨Nat.le_of_ble_eq_true rfl, Nat.le_of_ble_eq_true rfl⟩ dX2_told_24 ?_
    rintro z_24 _ ⟨rfl, rfl⟩
    refine z_ws (ws' := (mx cI h σ LI BR γ φ 1)) rfl ?_
    refine z_st (v' := 0) rfl ?_
    exact hret _ _ _ _ dX2_told_27 ⟨rfl, by rfl⟩
  ·
    refine z_iload_n C 3 dX2_told_13 rfl ?_
    refine z_iconst C dX2_told_14 ?_
    refine z_iconst C dX2_told_15 ?_
    refine z_callSi C (As := [vI wh, vI 0, vI 4]) (st := []) (y := yX2_isIn) (w := wsX2_isIn) (rm := rm_X2_isIn) (wr := (mx cI h σ LI BR γ φ 0)) (k' := 0) (n' := 0) [] [0, 1, 2, 3, 4, 5, 6, 7, 8] (c_X2_isIn l D cI cJ  wh 0 4 (by omega) (by omega) (by omega)) (va_cwS 3 C.1.2.2.2.2 gX2_told_X2_isIn rfl rfl rfl (by decide +kernel) ⟨Nat.le_of_ble_eq_true rfl, Nat.le_of_ble_eq_true rfl⟩) rfl rfl rfl rfl rfl (by decide) rfl rfl (Nat.le_of_ble_eq_true rfl) rfl rfl ⟨Nat.le_of_ble_eq_true rfl, Nat.le_of_ble_eq_true rfl⟩ dX2_told_16 ?_
    rintro z_16 _ ⟨rfl, hz_16⟩
    refine z_ws (ws' := (mx cI h σ LI BR γ φ 0)) rfl ?_
    have r_16 : z_16 = 0 ∨ z_16 = 1 := by rw [hz_16]; exact bI_01 _
    have hz_16 : z_16 = bI (decide (0 ≤ wh) && decide (wh ≤ 4)) := hz_16
    have i_16 := isIn_c hz_16
    refine z_if_ne C (tgt := 28) dX2_told_19 (by decide) (by omega) (fun c_19 => ?_) (fun c_19 => ?_)
    ·
      exfalso; omega
    ·
      refine z_aload_n C 0 dX2_told_22 rfl ?_
      refine z_iconst C dX2_told_23 ?_
      refine z_callVi C (As := [vI 1]) (st := []) (y := yX2_no) (w := wsX2_no) (rm := rm_X2_no) (wr := []) (k' := 0) (n' := 0) [0, 1, 2, 3, 4, 5, 6, 7, 8] [] 0 (c_X2_no l D cI cJ h σ LI BR γ φ 0 1 ) (cwV 1 C.1.2.2.2.2 gX2_told_X2_no rfl rfl rfl (by decide +kernel) ⟨Nat.le_of_ble_eq_true rfl, Nat.le_of_ble_eq_true rfl⟩) rfl rfl rfl rfl rfl (by decide) rfl rfl rfl rfl (Nat.le_of_ble_eq_true rfl) rfl rfl ⟨Nat.le_of_ble_eq_true rfl, Nat.le_of_ble_eq_true rfl⟩ dX2_told_24 ?_
      rintro z_24 _ ⟨rfl, rfl⟩
      refine z_ws (ws' := (mx cI h σ LI BR γ φ 1)) rfl ?_
      refine z_st (v' := 0) rfl ?_
      exact hret _ _ _ _ dX2_told_27 ⟨rfl, by rfl⟩

set_option maxRecDepth 100000 in
theorem inU_X2_X2_about : ∀ w ∈ u_ws RX2 TX2 14, w ∈ wsX2_about := by decide +kernel
abbrev rm_X2_about : Room := { frames := 6, cells := 0, slots := 0, locals := 147 }
set_option maxHeartbeats 4000000 in
set_option maxRecDepth 100000 in
theorem c_X2_about (l : Launch) (D : va_G) (cI cJ : ClassId) (h : Nat → Nat) (σ : YS) (LI BR : Nat → Int) (γ : YS) (φ : Nat → Int) (θ : Int) (k wh : Int) (hk : 0 ≤ k ∧ k < σ 4 0) (hwh : 0 ≤ wh ∧ wh < 4) (hO : Ok σ) (hL : LI4 LI) : Ci l yX2_about wsX2_about rm_X2_about D [(cI, .int), (cJ, .long)] [.ref (h 0), vI k, vI wh] (mx cI h σ LI BR γ φ θ) (fun z u => ∃ φ' : Nat → Int, u = (mx cI h σ (lkF (lgV σ) LI 144) (lkF (brV σ) BR 144) γ φ' 0) ∧ z = aboM σ (lkF (lgV σ) LI 144) k.toNat wh) := by
  refine z_ofi (own := RX2) (cc := cX2_about) (maxL := 3) (lv := [(0, .ref (h 0)), (1, vI k), (2, vI wh)]) (by decide) rfl rfl (Nat.le_of_ble_eq_true rfl) rfl ?_
  intro p e s m args below meth cd Q A C hret
  have hn := hO.1
  have hm := hO.2.1
  have en := nLa_e hO
  have em := nWa_e hO
  refine z_aload_n C 0 dX2_about_0 rfl ?_
  refine z_iconst C dX2_about_1 ?_
  refine z_put C (ref := "ShadowWallsModel") (T := TX2) (N := 14) (ci := 2) (ty := .int) (ws' := (mx cI h σ LI BR γ φ 0)) 0 0 inU_X2_X2_about tyX2 tyX2_ok nmX2 rfl rfl (by decide) (by decide +kernel) (fun _ h9 => h9) rfl (by decide +kernel) (rfl) (rfl) (Nat.le_of_ble_eq_true rfl) rfl dX2_about_2 ?_
  refine z_aload_n C 0 dX2_about_5 rfl ?_
  refine z_iload_n C 1 dX2_about_6 rfl ?_
  refine z_callVi C (As := [vI k]) (st := []) (y := yX2_isLamp) (w := wsX2_isLamp) (rm := rm_X2_isLamp) (wr := []) (k' := 0) (n' := 0) [0, 1, 2, 3, 4, 5, 6, 7, 8] [] 0 (c_X2_isLamp l D cI cJ h σ LI BR γ φ 0 k (by omega) hO) (cwV 1 C.1.2.2.2.2 gX2_about_X2_isLamp rfl rfl rfl (by decide +kernel) ⟨Nat.le_of_ble_eq_true rfl, Nat.le_of_ble_eq_true rfl⟩) rfl rfl rfl rfl rfl (by decide) rfl rfl rfl rfl (Nat.le_of_ble_eq_true rfl) rfl rfl ⟨Nat.le_of_ble_eq_true rfl, Nat.le_of_ble_eq_true rfl⟩ dX2_about_7 ?_
  rintro z_7 _ ⟨rfl, hz_7⟩
  refine z_ws (ws' := (mx cI h σ LI BR γ φ 0)) rfl ?_
  have r_7 : z_7 = 0 ∨ z_7 = 1 := by rw [hz_7]; exact bI_01 _
  have hz_7 : z_7 = bI (decide (0 ≤ k) && decide (k ≤ σ 4 0 - 1)) := hz_7
  have i_7 := isIn_c hz_7
  refine z_if_eq C (tgt := 22) dX2_about_10 (by decide) (by omega) (fun c_10 => ?_) (fun c_10 => ?_)
  ·
    exfalso; omega
  ·
    refine z_iload_n C 2 dX2_about_13 rfl ?_
    refine z_iconst C dX2_about_14 ?_
    refine z_iconst C dX2_about_15 ?_
    refine z_callSi C (As := [vI wh, vI 0, vI 3]) (st := []) (y := yX2_isIn) (w := wsX2_isIn) (rm := rm_X2_isIn) (wr := (mx cI h σ LI BR γ φ 0)) (k' := 0) (n' := 0) [] [0, 1, 2, 3, 4, 5, 6, 7, 8] (c_X2_isIn l D cI cJ  wh 0 3 (by omega) (by omega) (by omega)) (va_cwS 3 C.1.2.2.2.2 gX2_about_X2_isIn rfl rfl rfl (by decide +kernel) ⟨Nat.le_of_ble_eq_true rfl, Nat.le_of_ble_eq_true rfl⟩) rfl rfl rfl rfl rfl (by decide) rfl rfl (Nat.le_of_ble_eq_true rfl) rfl rfl ⟨Nat.le_of_ble_eq_true rfl, Nat.le_of_ble_eq_true rfl⟩ dX2_about_16 ?_
    rintro z_16 _ ⟨rfl, hz_16⟩
    refine z_ws (ws' := (mx cI h σ LI BR γ φ 0)) rfl ?_
    have r_16 : z_16 = 0 ∨ z_16 = 1 := by rw [hz_16]; exact bI_01 _
    have hz_16 : z_16 = bI (decide (0 ≤ wh) && decide (wh ≤ 3)) := hz_16
    have i_16 := isIn_c hz_16
    refine z_if_ne C (tgt := 28) dX2_about_19 (by decide) (by omega) (fun c_19 => ?_) (fun c_19 => ?_)
    ·
      refine z_aload_n C 0 dX2_about_28 rfl ?_
      refine z_callVi C (As := []) (st := []) (y := yX2_look) (w := wsX2_look) (rm := rm_X2_look) (wr := []) (k' := 0) (n' := 0) [0, 1, 2, 3, 4, 5, 6, 7, 8] [] 0 (c_X2_look l D cI cJ h σ LI BR γ φ 0  hO hL) (cwV 0 C.1.2.2.2.2 gX2_about_X2_look rfl rfl rfl (by decide +kernel) ⟨Nat.le_of_ble_eq_true rfl, Nat.le_of_ble_eq_true rfl⟩) rfl rfl rfl rfl rfl (by decide) rfl rfl rfl rfl (Nat.le_of_ble_eq_true rfl) rfl rfl ⟨Nat.le_of_ble_eq_true rfl, Nat.le_of_ble_eq_true rfl⟩ dX2_about_29 ?_
      rintro z_29 _ ⟨φ'_29, rfl, hz_29⟩
      refine z_ws (ws' := (mx cI h σ (lkF (lgV σ) LI 144) (lkF (brV σ) BR 144) γ φ'_29 0)) rfl ?_
      have r_29 := smB_r (fun c => decide (lgV σ c ≠ 0)) 144
      rw [← hz_29] at r_29
      have hz_29 : z_29 = sm (fun c => bI (decide (lgV σ c ≠ 0))) 144 := hz_29
      refine z_pop C dX2_about_32 rfl ?_
      refine z_aload_n C 0 dX2_about_33 rfl ?_
      refine z_iload_n C 1 dX2_about_34 rfl ?_
      refine z_iload_n C 2 dX2_about_35 rfl ?_
      refine z_callVi C (As := [vI k, vI wh]) (st := []) (y := yX2_lampTold) (w := wsX2_lampTold) (rm := rm_X2_lampTold) (wr := []) (k' := 0) (n' := 0) [0, 1, 2, 3, 4, 5, 6, 7, 8] [] 0 (c_X2_lampTold l D cI cJ h σ (lkF (lgV σ) LI 144) (lkF (brV σ) BR 144) γ φ'_29 0 k wh (by omega) (by omega) hO (lkL_r hO hL 144)) (cwV 2 C.1.2.2.2.2 gX2_about_X2_lampTold rfl rfl rfl (by decide +kernel) ⟨Nat.le_of_ble_eq_true rfl, Nat.le_of_ble_eq_true rfl⟩) rfl rfl rfl rfl rfl (by decide) rfl rfl rfl rfl (Nat.le_of_ble_eq_true rfl) rfl rfl ⟨Nat.le_of_ble_eq_true rfl, Nat.le_of_ble_eq_true rfl⟩ dX2_about_36 ?_
      rintro z_36 _ ⟨φ'_36, rfl, hz_36⟩
      refine z_ws (ws' := (mx cI h σ ((lkF (lgV σ) LI 144)) ((lkF (brV σ) BR 144)) γ φ'_36 0)) rfl ?_
      have hz_36 : z_36 = aboM σ (lkF (lgV σ) LI 144) k.toNat wh := hz_36
      exact hret _ _ _ _ dX2_about_39 ⟨_, rfl, by exact hz_36⟩
    ·
      exfalso; omega

set_option maxHeartbeats 4000000 in
set_option maxRecDepth 100000 in
theorem b1_X2_about (l : Launch) (D : va_G) (cI cJ : ClassId) (h : Nat → Nat) (σ : YS) (LI BR : Nat → Int) (γ : YS) (φ : Nat → Int) (θ : Int) (k wh : Int) (hr : rng k ∧ rng wh) (hO : Ok σ) (hb : ¬ ((0 ≤ k ∧ k < σ 4 0) ∧ (0 ≤ wh ∧ wh < 4))) : Ci l yX2_about wsX2_about rm_X2_about D [(cI, .int), (cJ, .long)] [.ref (h 0), vI k, vI wh] (mx cI h σ LI BR γ φ θ) (fun z u => u = (mx cI h σ LI BR γ φ 1) ∧ z = 0) := by
  refine z_ofi (own := RX2) (cc := cX2_about) (maxL := 3) (lv := [(0, .ref (h 0)), (1, vI k), (2, vI wh)]) (by decide) rfl rfl (Nat.le_of_ble_eq_true rfl) rfl ?_
  intro p e s m args below meth cd Q A C hret
  have hn := hO.1
  have hm := hO.2.1
  have en := nLa_e hO
  have em := nWa_e hO
  refine z_aload_n C 0 dX2_about_0 rfl ?_
  refine z_iconst C dX2_about_1 ?_
  refine z_put C (ref := "ShadowWallsModel") (T := TX2) (N := 14) (ci := 2) (ty := .int) (ws' := (mx cI h σ LI BR γ φ 0)) 0 0 inU_X2_X2_about tyX2 tyX2_ok nmX2 rfl rfl (by decide) (by decide +kernel) (fun _ h9 => h9) rfl (by decide +kernel) (rfl) (rfl) (Nat.le_of_ble_eq_true rfl) rfl dX2_about_2 ?_
  refine z_aload_n C 0 dX2_about_5 rfl ?_
  refine z_iload_n C 1 dX2_about_6 rfl ?_
  refine z_callVi C (As := [vI k]) (st := []) (y := yX2_isLamp) (w := wsX2_isLamp) (rm := rm_X2_isLamp) (wr := []) (k' := 0) (n' := 0) [0, 1, 2, 3, 4, 5, 6, 7, 8] [] 0 (c_X2_isLamp l D cI cJ h σ LI BR γ φ 0 k (by omega) hO) (cwV 1 C.1.2.2.2.2 gX2_about_X2_isLamp rfl rfl rfl (by decide +kernel) ⟨Nat.le_of_ble_eq_true rfl, Nat.le_of_ble_eq_true rfl⟩) rfl rfl rfl rfl rfl (by decide) rfl rfl rfl rfl (Nat.le_of_ble_eq_true rfl) rfl rfl ⟨Nat.le_of_ble_eq_true rfl, Nat.le_of_ble_eq_true rfl⟩ dX2_about_7 ?_
  rintro z_7 _ ⟨rfl, hz_7⟩
  refine z_ws (ws' := (mx cI h σ LI BR γ φ 0)) rfl ?_
  have r_7 : z_7 = 0 ∨ z_7 = 1 := by rw [hz_7]; exact bI_01 _
  have hz_7 : z_7 = bI (decide (0 ≤ k) && decide (k ≤ σ 4 0 - 1)) := hz_7
  have i_7 := isIn_c hz_7
  refine z_if_eq C (tgt := 22) dX2_about_10 (by decide) (by omega) (fun c_10 => ?_) (fun c_10 => ?_)
  ·
    refine z_aload_n C 0 dX2_about_22 rfl ?_
    refine z_iconst C dX2_about_23 ?_
    refine z_callVi C (As := [vI 1]) (st := []) (y := yX2_no) (w := wsX2_no) (rm := rm_X2_no) (wr := []) (k' := 0) (n' := 0) [0, 1, 2, 3, 4, 5, 6, 7, 8] [] 0 (c_X2_no l D cI cJ h σ LI BR γ φ 0 1 ) (cwV 1 C.1.2.2.2.2 gX2_about_X2_no rfl rfl rfl (by decide +kernel) ⟨Nat.le_of_ble_eq_true rfl, Nat.le_of_ble_eq_true rfl⟩) rfl rfl rfl rfl rfl (by decide) rfl rfl rfl rfl (Nat.le_of_ble_eq_true rfl) rfl rfl ⟨Nat.le_of_ble_eq_true rfl, Nat.le_of_ble_eq_true rfl⟩ dX2_about_24 ?_
    rintro z_24 _ ⟨rfl, rfl⟩
    refine z_ws (ws' := (mx cI h σ LI BR γ φ 1)) rfl ?_
    refine z_st (v' := 0) rfl ?_
    exact hret _ _ _ _ dX2_about_27 ⟨rfl, by rfl⟩
  ·
    refine z_iload_n C 2 dX2_about_13 rfl ?_
    refine z_iconst C dX2_about_14 ?_
    refine z_iconst C dX2_about_15 ?_
    refine z_callSi C (As := [vI wh, vI 0, vI 3]) (st := []) (y := yX2_isIn) (w := wsX2_isIn) (rm := rm_X2_isIn) (wr := (mx cI h σ LI BR γ φ 0)) (k' := 0) (n' := 0) [] [0, 1, 2, 3, 4, 5, 6, 7, 8] (c_X2_isIn l D cI cJ  wh 0 3 (by omega) (by omega) (by omega)) (va_cwS 3 C.1.2.2.2.2 gX2_about_X2_isIn rfl rfl rfl (by decide +kernel) ⟨Nat.le_of_ble_eq_true rfl, Nat.le_of_ble_eq_true rfl⟩) rfl rfl rfl rfl rfl (by decide) rfl rfl (Nat.le_of_ble_eq_true rfl) rfl rfl ⟨Nat.le_of_ble_eq_true rfl, Nat.le_of_ble_eq_true rfl⟩ dX2_about_16 ?_
    rintro z_16 _ ⟨rfl, hz_16⟩
    refine z_ws (ws' := (mx cI h σ LI BR γ φ 0)) rfl ?_
    have r_16 : z_16 = 0 ∨ z_16 = 1 := by rw [hz_16]; exact bI_01 _
    have hz_16 : z_16 = bI (decide (0 ≤ wh) && decide (wh ≤ 3)) := hz_16
    have i_16 := isIn_c hz_16
    refine z_if_ne C (tgt := 28) dX2_about_19 (by decide) (by omega) (fun c_19 => ?_) (fun c_19 => ?_)
    ·
      exfalso; omega
    ·
      refine z_aload_n C 0 dX2_about_22 rfl ?_
      refine z_iconst C dX2_about_23 ?_
      refine z_callVi C (As := [vI 1]) (st := []) (y := yX2_no) (w := wsX2_no) (rm := rm_X2_no) (wr := []) (k' := 0) (n' := 0) [0, 1, 2, 3, 4, 5, 6, 7, 8] [] 0 (c_X2_no l D cI cJ h σ LI BR γ φ 0 1 ) (cwV 1 C.1.2.2.2.2 gX2_about_X2_no rfl rfl rfl (by decide +kernel) ⟨Nat.le_of_ble_eq_true rfl, Nat.le_of_ble_eq_true rfl⟩) rfl rfl rfl rfl rfl (by decide) rfl rfl rfl rfl (Nat.le_of_ble_eq_true rfl) rfl rfl ⟨Nat.le_of_ble_eq_true rfl, Nat.le_of_ble_eq_true rfl⟩ dX2_about_24 ?_
      rintro z_24 _ ⟨rfl, rfl⟩
      refine z_ws (ws' := (mx cI h σ LI BR γ φ 1)) rfl ?_
      refine z_st (v' := 0) rfl ?_
      exact hret _ _ _ _ dX2_about_27 ⟨rfl, by rfl⟩

set_option maxRecDepth 100000 in
theorem inU_X2_X2_seat : ∀ w ∈ u_ws RX2 TX2 14, w ∈ wsX2_seat := by decide +kernel
abbrev rm_X2_seat : Room := { frames := 6, cells := 0, slots := 0, locals := 145 }
set_option maxHeartbeats 4000000 in
set_option maxRecDepth 100000 in
theorem c_X2_seat (l : Launch) (D : va_G) (cI cJ : ClassId) (h : Nat → Nat) (σ : YS) (LI BR : Nat → Int) (γ : YS) (φ : Nat → Int) (θ : Int) (w wh : Int) (hw : 0 ≤ w ∧ w < σ 4 1) (hwh : 0 ≤ wh ∧ wh < 5) (hO : Ok σ) (hL : LI4 LI) : Ci l yX2_seat wsX2_seat rm_X2_seat D [(cI, .int), (cJ, .long)] [.ref (h 0), vI w, vI wh] (mx cI h σ LI BR γ φ θ) (fun z u => ∃ φ' : Nat → Int, u = (mx cI h σ (lkF (lgV σ) LI 144) (lkF (brV σ) BR 144) γ φ' 0) ∧ z = seaV σ (lkF (lgV σ) LI 144) w.toNat wh) := by
  refine z_ofi (own := RX2) (cc := cX2_seat) (maxL := 3) (lv := [(0, .ref (h 0)), (1, vI w), (2, vI wh)]) (by decide) rfl rfl (Nat.le_of_ble_eq_true rfl) rfl ?_
  intro p e s m args below meth cd Q A C hret
  have hn := hO.1
  have hm := hO.2.1
  have en := nLa_e hO
  have em := nWa_e hO
  refine z_aload_n C 0 dX2_seat_0 rfl ?_
  refine z_iconst C dX2_seat_1 ?_
  refine z_put C (ref := "ShadowWallsModel") (T := TX2) (N := 14) (ci := 2) (ty := .int) (ws' := (mx cI h σ LI BR γ φ 0)) 0 0 inU_X2_X2_seat tyX2 tyX2_ok nmX2 rfl rfl (by decide) (by decide +kernel) (fun _ h9 => h9) rfl (by decide +kernel) (rfl) (rfl) (Nat.le_of_ble_eq_true rfl) rfl dX2_seat_2 ?_
  refine z_aload_n C 0 dX2_seat_5 rfl ?_
  refine z_iload_n C 1 dX2_seat_6 rfl ?_
  refine z_callVi C (As := [vI w]) (st := []) (y := yX2_isWatcher) (w := wsX2_isWatcher) (rm := rm_X2_isWatcher) (wr := []) (k' := 0) (n' := 0) [0, 1, 2, 3, 4, 5, 6, 7, 8] [] 0 (c_X2_isWatcher l D cI cJ h σ LI BR γ φ 0 w (by omega) hO) (cwV 1 C.1.2.2.2.2 gX2_seat_X2_isWatcher rfl rfl rfl (by decide +kernel) ⟨Nat.le_of_ble_eq_true rfl, Nat.le_of_ble_eq_true rfl⟩) rfl rfl rfl rfl rfl (by decide) rfl rfl rfl rfl (Nat.le_of_ble_eq_true rfl) rfl rfl ⟨Nat.le_of_ble_eq_true rfl, Nat.le_of_ble_eq_true rfl⟩ dX2_seat_7 ?_
  rintro z_7 _ ⟨rfl, hz_7⟩
  refine z_ws (ws' := (mx cI h σ LI BR γ φ 0)) rfl ?_
  have r_7 : z_7 = 0 ∨ z_7 = 1 := by rw [hz_7]; exact bI_01 _
  have hz_7 : z_7 = bI (decide (0 ≤ w) && decide (w ≤ σ 4 1 - 1)) := hz_7
  have i_7 := isIn_c hz_7
  refine z_if_eq C (tgt := 22) dX2_seat_10 (by decide) (by omega) (fun c_10 => ?_) (fun c_10 => ?_)
  ·
    exfalso; omega
  ·
    refine z_iload_n C 2 dX2_seat_13 rfl ?_
    refine z_iconst C dX2_seat_14 ?_
    refine z_iconst C dX2_seat_15 ?_
    refine z_callSi C (As := [vI wh, vI 0, vI 4]) (st := []) (y := yX2_isIn) (w := wsX2_isIn) (rm := rm_X2_isIn) (wr := (mx cI h σ LI BR γ φ 0)) (k' := 0) (n' := 0) [] [0, 1, 2, 3, 4, 5, 6, 7, 8] (c_X2_isIn l D cI cJ  wh 0 4 (by omega) (by omega) (by omega)) (va_cwS 3 C.1.2.2.2.2 gX2_seat_X2_isIn rfl rfl rfl (by decide +kernel) ⟨Nat.le_of_ble_eq_true rfl, Nat.le_of_ble_eq_true rfl⟩) rfl rfl rfl rfl rfl (by decide) rfl rfl (Nat.le_of_ble_eq_true rfl) rfl rfl ⟨Nat.le_of_ble_eq_true rfl, Nat.le_of_ble_eq_true rfl⟩ dX2_seat_16 ?_
    rintro z_16 _ ⟨rfl, hz_16⟩
    refine z_ws (ws' := (mx cI h σ LI BR γ φ 0)) rfl ?_
    have r_16 : z_16 = 0 ∨ z_16 = 1 := by rw [hz_16]; exact bI_01 _
    have hz_16 : z_16 = bI (decide (0 ≤ wh) && decide (wh ≤ 4)) := hz_16
    have i_16 := isIn_c hz_16
    refine z_if_ne C (tgt := 28) dX2_seat_19 (by decide) (by omega) (fun c_19 => ?_) (fun c_19 => ?_)
    ·
      refine z_aload_n C 0 dX2_seat_28 rfl ?_
      refine z_callVi C (As := []) (st := []) (y := yX2_look) (w := wsX2_look) (rm := rm_X2_look) (wr := []) (k' := 0) (n' := 0) [0, 1, 2, 3, 4, 5, 6, 7, 8] [] 0 (c_X2_look l D cI cJ h σ LI BR γ φ 0  hO hL) (cwV 0 C.1.2.2.2.2 gX2_seat_X2_look rfl rfl rfl (by decide +kernel) ⟨Nat.le_of_ble_eq_true rfl, Nat.le_of_ble_eq_true rfl⟩) rfl rfl rfl rfl rfl (by decide) rfl rfl rfl rfl (Nat.le_of_ble_eq_true rfl) rfl rfl ⟨Nat.le_of_ble_eq_true rfl, Nat.le_of_ble_eq_true rfl⟩ dX2_seat_29 ?_
      rintro z_29 _ ⟨φ'_29, rfl, hz_29⟩
      refine z_ws (ws' := (mx cI h σ (lkF (lgV σ) LI 144) (lkF (brV σ) BR 144) γ φ'_29 0)) rfl ?_
      have r_29 := smB_r (fun c => decide (lgV σ c ≠ 0)) 144
      rw [← hz_29] at r_29
      have hz_29 : z_29 = sm (fun c => bI (decide (lgV σ c ≠ 0))) 144 := hz_29
      refine z_pop C dX2_seat_32 rfl ?_
      refine z_aload_n C 0 dX2_seat_33 rfl ?_
      refine z_iload_n C 1 dX2_seat_34 rfl ?_
      refine z_iload_n C 2 dX2_seat_35 rfl ?_
      refine z_callVi C (As := [vI w, vI wh]) (st := []) (y := yX2_seatTold) (w := wsX2_seatTold) (rm := rm_X2_seatTold) (wr := []) (k' := 0) (n' := 0) [0, 1, 2, 3, 4, 5, 6, 7, 8] [] 0 (c_X2_seatTold l D cI cJ h σ (lkF (lgV σ) LI 144) (lkF (brV σ) BR 144) γ φ'_29 0 w wh (by omega) (by omega) hO (lkL_r hO hL 144)) (cwV 2 C.1.2.2.2.2 gX2_seat_X2_seatTold rfl rfl rfl (by decide +kernel) ⟨Nat.le_of_ble_eq_true rfl, Nat.le_of_ble_eq_true rfl⟩) rfl rfl rfl rfl rfl (by decide) rfl rfl rfl rfl (Nat.le_of_ble_eq_true rfl) rfl rfl ⟨Nat.le_of_ble_eq_true rfl, Nat.le_of_ble_eq_true rfl⟩ dX2_seat_36 ?_
      rintro z_36 _ ⟨φ'_36, rfl, hz_36⟩
      refine z_ws (ws' := (mx cI h σ ((lkF (lgV σ) LI 144)) ((lkF (brV σ) BR 144)) γ φ'_36 0)) rfl ?_
      have hz_36 : z_36 = seaV σ (lkF (lgV σ) LI 144) w.toNat wh := hz_36
      exact hret _ _ _ _ dX2_seat_39 ⟨_, rfl, by exact hz_36⟩
    ·
      exfalso; omega

set_option maxHeartbeats 4000000 in
set_option maxRecDepth 100000 in
theorem b1_X2_seat (l : Launch) (D : va_G) (cI cJ : ClassId) (h : Nat → Nat) (σ : YS) (LI BR : Nat → Int) (γ : YS) (φ : Nat → Int) (θ : Int) (w wh : Int) (hr : rng w ∧ rng wh) (hO : Ok σ) (hb : ¬ ((0 ≤ w ∧ w < σ 4 1) ∧ (0 ≤ wh ∧ wh < 5))) : Ci l yX2_seat wsX2_seat rm_X2_seat D [(cI, .int), (cJ, .long)] [.ref (h 0), vI w, vI wh] (mx cI h σ LI BR γ φ θ) (fun z u => u = (mx cI h σ LI BR γ φ 1) ∧ z = 0) := by
  refine z_ofi (own := RX2) (cc := cX2_seat) (maxL := 3) (lv := [(0, .ref (h 0)), (1, vI w), (2, vI wh)]) (by decide) rfl rfl (Nat.le_of_ble_eq_true rfl) rfl ?_
  intro p e s m args below meth cd Q A C hret
  have hn := hO.1
  have hm := hO.2.1
  have en := nLa_e hO
  have em := nWa_e hO
  refine z_aload_n C 0 dX2_seat_0 rfl ?_
  refine z_iconst C dX2_seat_1 ?_
  refine z_put C (ref := "ShadowWallsModel") (T := TX2) (N := 14) (ci := 2) (ty := .int) (ws' := (mx cI h σ LI BR γ φ 0)) 0 0 inU_X2_X2_seat tyX2 tyX2_ok nmX2 rfl rfl (by decide) (by decide +kernel) (fun _ h9 => h9) rfl (by decide +kernel) (rfl) (rfl) (Nat.le_of_ble_eq_true rfl) rfl dX2_seat_2 ?_
  refine z_aload_n C 0 dX2_seat_5 rfl ?_
  refine z_iload_n C 1 dX2_seat_6 rfl ?_
  refine z_callVi C (As := [vI w]) (st := []) (y := yX2_isWatcher) (w := wsX2_isWatcher) (rm := rm_X2_isWatcher) (wr := []) (k' := 0) (n' := 0) [0, 1, 2, 3, 4, 5, 6, 7, 8] [] 0 (c_X2_isWatcher l D cI cJ h σ LI BR γ φ 0 w (by omega) hO) (cwV 1 C.1.2.2.2.2 gX2_seat_X2_isWatcher rfl rfl rfl (by decide +kernel) ⟨Nat.le_of_ble_eq_true rfl, Nat.le_of_ble_eq_true rfl⟩) rfl rfl rfl rfl rfl (by decide) rfl rfl rfl rfl (Nat.le_of_ble_eq_true rfl) rfl rfl ⟨Nat.le_of_ble_eq_true rfl, Nat.le_of_ble_eq_true rfl⟩ dX2_seat_7 ?_
  rintro z_7 _ ⟨rfl, hz_7⟩
  refine z_ws (ws' := (mx cI h σ LI BR γ φ 0)) rfl ?_
  have r_7 : z_7 = 0 ∨ z_7 = 1 := by rw [hz_7]; exact bI_01 _
  have hz_7 : z_7 = bI (decide (0 ≤ w) && decide (w ≤ σ 4 1 - 1)) := hz_7
  have i_7 := isIn_c hz_7
  refine z_if_eq C (tgt := 22) dX2_seat_10 (by decide) (by omega) (fun c_10 => ?_) (fun c_10 => ?_)
  ·
    refine z_aload_n C 0 dX2_seat_22 rfl ?_
    refine z_iconst C dX2_seat_23 ?_
    refine z_callVi C (As := [vI 1]) (st := []) (y := yX2_no) (w := wsX2_no) (rm := rm_X2_no) (wr := []) (k' := 0) (n' := 0) [0, 1, 2, 3, 4, 5, 6, 7, 8] [] 0 (c_X2_no l D cI cJ h σ LI BR γ φ 0 1 ) (cwV 1 C.1.2.2.2.2 gX2_seat_X2_no rfl rfl rfl (by decide +kernel) ⟨Nat.le_of_ble_eq_true rfl, Nat.le_of_ble_eq_true rfl⟩) rfl rfl rfl rfl rfl (by decide) rfl rfl rfl rfl (Nat.le_of_ble_eq_true rfl) rfl rfl ⟨Nat.le_of_ble_eq_true rfl, Nat.le_of_ble_eq_true rfl⟩ dX2_seat_24 ?_
    rintro z_24 _ ⟨rfl, rfl⟩
    refine z_ws (ws' := (mx cI h σ LI BR γ φ 1)) rfl ?_
    refine z_st (v' := 0) rfl ?_
    exact hret _ _ _ _ dX2_seat_27 ⟨rfl, by rfl⟩
  ·
    refine z_iload_n C 2 dX2_seat_13 rfl ?_
    refine z_iconst C dX2_seat_14 ?_
    refine z_iconst C dX2_seat_15 ?_
    refine z_callSi C (As := [vI wh, vI 0, vI 4]) (st := []) (y := yX2_isIn) (w := wsX2_isIn) (rm := rm_X2_isIn) (wr := (mx cI h σ LI BR γ φ 0)) (k' := 0) (n' := 0) [] [0, 1, 2, 3, 4, 5, 6, 7, 8] (c_X2_isIn l D cI cJ  wh 0 4 (by omega) (by omega) (by omega)) (va_cwS 3 C.1.2.2.2.2 gX2_seat_X2_isIn rfl rfl rfl (by decide +kernel) ⟨Nat.le_of_ble_eq_true rfl, Nat.le_of_ble_eq_true rfl⟩) rfl rfl rfl rfl rfl (by decide) rfl rfl (Nat.le_of_ble_eq_true rfl) rfl rfl ⟨Nat.le_of_ble_eq_true rfl, Nat.le_of_ble_eq_true rfl⟩ dX2_seat_16 ?_
    rintro z_16 _ ⟨rfl, hz_16⟩
    refine z_ws (ws' := (mx cI h σ LI BR γ φ 0)) rfl ?_
    have r_16 : z_16 = 0 ∨ z_16 = 1 := by rw [hz_16]; exact bI_01 _
    have hz_16 : z_16 = bI (decide (0 ≤ wh) && decide (wh ≤ 4)) := hz_16
    have i_16 := isIn_c hz_16
    refine z_if_ne C (tgt := 28) dX2_seat_19 (by decide) (by omega) (fun c_19 => ?_) (fun c_19 => ?_)
    ·
      exfalso; omega
    ·
      refine z_aload_n C 0 dX2_seat_22 rfl ?_
      refine z_iconst C dX2_seat_23 ?_
      refine z_callVi C (As := [vI 1]) (st := []) (y := yX2_no) (w := wsX2_no) (rm := rm_X2_no) (wr := []) (k' := 0) (n' := 0) [0, 1, 2, 3, 4, 5, 6, 7, 8] [] 0 (c_X2_no l D cI cJ h σ LI BR γ φ 0 1 ) (cwV 1 C.1.2.2.2.2 gX2_seat_X2_no rfl rfl rfl (by decide +kernel) ⟨Nat.le_of_ble_eq_true rfl, Nat.le_of_ble_eq_true rfl⟩) rfl rfl rfl rfl rfl (by decide) rfl rfl rfl rfl (Nat.le_of_ble_eq_true rfl) rfl rfl ⟨Nat.le_of_ble_eq_true rfl, Nat.le_of_ble_eq_true rfl⟩ dX2_seat_24 ?_
      rintro z_24 _ ⟨rfl, rfl⟩
      refine z_ws (ws' := (mx cI h σ LI BR γ φ 1)) rfl ?_
      refine z_st (v' := 0) rfl ?_
      exact hret _ _ _ _ dX2_seat_27 ⟨rfl, by rfl⟩

set_option maxRecDepth 100000 in
theorem inU_X2_X2_sees : ∀ w ∈ u_ws RX2 TX2 14, w ∈ wsX2_sees := by decide +kernel
abbrev rm_X2_sees : Room := { frames := 5, cells := 0, slots := 0, locals := 124 }
set_option maxHeartbeats 4000000 in
set_option maxRecDepth 100000 in
theorem c_X2_sees (l : Launch) (D : va_G) (cI cJ : ClassId) (h : Nat → Nat) (σ : YS) (LI BR : Nat → Int) (γ : YS) (φ : Nat → Int) (θ : Int) (w o : Int) (hw : 0 ≤ w ∧ w < σ 4 1) (ho : 0 ≤ o ∧ o < σ 4 1) (hO : Ok σ) (hL : LI4 LI) : Ci l yX2_sees wsX2_sees rm_X2_sees D [(cI, .int), (cJ, .long)] [.ref (h 0), vI w, vI o] (mx cI h σ LI BR γ φ θ) (fun z u => ∃ φ' : Nat → Int, u = (mx cI h σ (lkF (lgV σ) LI 144) (lkF (brV σ) BR 144) γ φ' 0) ∧ z = bI (seeB σ (lkF (lgV σ) LI 144) w.toNat (σ 3 o.toNat).toNat)) := by
  refine z_ofz (own := RX2) (cc := cX2_sees) (maxL := 3) (lv := [(0, .ref (h 0)), (1, vI w), (2, vI o)]) (by decide) rfl rfl (Nat.le_of_ble_eq_true rfl) rfl ?_
  intro p e s m args below meth cd Q A C hret
  have hn := hO.1
  have hm := hO.2.1
  have en := nLa_e hO
  have em := nWa_e hO
  have h1 := hO.2.2.2.1 o.toNat (by omega)
  refine z_aload_n C 0 dX2_sees_0 rfl ?_
  refine z_aload_n C 0 dX2_sees_1 rfl ?_
  refine z_iload_n C 1 dX2_sees_2 rfl ?_
  refine z_callVi C (As := [vI w]) (st := [.ref (h 0)]) (y := yX2_isWatcher) (w := wsX2_isWatcher) (rm := rm_X2_isWatcher) (wr := []) (k' := 0) (n' := 0) [0, 1, 2, 3, 4, 5, 6, 7, 8] [] 0 (c_X2_isWatcher l D cI cJ h σ LI BR γ φ θ w (by omega) hO) (cwV 1 C.1.2.2.2.2 gX2_sees_X2_isWatcher rfl rfl rfl (by decide +kernel) ⟨Nat.le_of_ble_eq_true rfl, Nat.le_of_ble_eq_true rfl⟩) rfl rfl rfl rfl rfl (by decide) rfl rfl rfl rfl (Nat.le_of_ble_eq_true rfl) rfl rfl ⟨Nat.le_of_ble_eq_true rfl, Nat.le_of_ble_eq_true rfl⟩ dX2_sees_3 ?_
  rintro z_3 _ ⟨rfl, hz_3⟩
  refine z_ws (ws' := (mx cI h σ LI BR γ φ θ)) rfl ?_
  have r_3 : z_3 = 0 ∨ z_3 = 1 := by rw [hz_3]; exact bI_01 _
  have hz_3 : z_3 = bI (decide (0 ≤ w) && decide (w ≤ σ 4 1 - 1)) := hz_3
  have i_3 := isIn_c hz_3
  refine z_if_eq C (tgt := 21) dX2_sees_6 (by decide) (by omega) (fun c_6 => ?_) (fun c_6 => ?_)
  ·
    exfalso; omega
  ·
    refine z_aload_n C 0 dX2_sees_9 rfl ?_
    refine z_iload_n C 2 dX2_sees_10 rfl ?_
    refine z_callVi C (As := [vI o]) (st := [.ref (h 0)]) (y := yX2_isWatcher) (w := wsX2_isWatcher) (rm := rm_X2_isWatcher) (wr := []) (k' := 0) (n' := 0) [0, 1, 2, 3, 4, 5, 6, 7, 8] [] 0 (c_X2_isWatcher l D cI cJ h σ LI BR γ φ θ o (by omega) hO) (cwV 1 C.1.2.2.2.2 gX2_sees_X2_isWatcher rfl rfl rfl (by decide +kernel) ⟨Nat.le_of_ble_eq_true rfl, Nat.le_of_ble_eq_true rfl⟩) rfl rfl rfl rfl rfl (by decide) rfl rfl rfl rfl (Nat.le_of_ble_eq_true rfl) rfl rfl ⟨Nat.le_of_ble_eq_true rfl, Nat.le_of_ble_eq_true rfl⟩ dX2_sees_11 ?_
    rintro z_11 _ ⟨rfl, hz_11⟩
    refine z_ws (ws' := (mx cI h σ LI BR γ φ θ)) rfl ?_
    have r_11 : z_11 = 0 ∨ z_11 = 1 := by rw [hz_11]; exact bI_01 _
    have hz_11 : z_11 = bI (decide (0 ≤ o) && decide (o ≤ σ 4 1 - 1)) := hz_11
    have i_11 := isIn_c hz_11
    refine z_if_eq C (tgt := 21) dX2_sees_14 (by decide) (by omega) (fun c_14 => ?_) (fun c_14 => ?_)
    ·
      exfalso; omega
    ·
      refine z_iconst C dX2_sees_17 ?_
      refine z_goto C (tgt := 22) dX2_sees_18 (by decide) ?_
      refine z_put C (ref := "ShadowWallsModel") (T := TX2) (N := 14) (ci := 2) (ty := .int) (ws' := (mx cI h σ LI BR γ φ 0)) 0 0 inU_X2_X2_sees tyX2 tyX2_ok nmX2 rfl rfl (by decide) (by decide +kernel) (fun _ h9 => h9) rfl (by decide +kernel) (rfl) (rfl) (Nat.le_of_ble_eq_true rfl) rfl dX2_sees_22 ?_
      refine z_aload_n C 0 dX2_sees_25 rfl ?_
      refine z_get C (v := vI 0) (ref := "ShadowWallsModel") (T := TX2) (N := 14) (ci := 2) 0 0 inU_X2_X2_sees rfl rfl (by decide) (by decide +kernel) (fun _ h9 => h9) rfl dX2_sees_26 ?_
      refine z_if_eq C (tgt := 34) dX2_sees_29 (by decide) (by omega) (fun c_29 => ?_) (fun c_29 => ?_)
      ·
        refine z_aload_n C 0 dX2_sees_34 rfl ?_
        refine z_callVi C (As := []) (st := []) (y := yX2_look) (w := wsX2_look) (rm := rm_X2_look) (wr := []) (k' := 0) (n' := 0) [0, 1, 2, 3, 4, 5, 6, 7, 8] [] 0 (c_X2_look l D cI cJ h σ LI BR γ φ 0  hO hL) (cwV 0 C.1.2.2.2.2 gX2_sees_X2_look rfl rfl rfl (by decide +kernel) ⟨Nat.le_of_ble_eq_true rfl, Nat.le_of_ble_eq_true rfl⟩) rfl rfl rfl rfl rfl (by decide) rfl rfl rfl rfl (Nat.le_of_ble_eq_true rfl) rfl rfl ⟨Nat.le_of_ble_eq_true rfl, Nat.le_of_ble_eq_true rfl⟩ dX2_sees_35 ?_
        rintro z_35 _ ⟨φ'_35, rfl, hz_35⟩
        refine z_ws (ws' := (mx cI h σ (lkF (lgV σ) LI 144) (lkF (brV σ) BR 144) γ φ'_35 0)) rfl ?_
        have r_35 := smB_r (fun c => decide (lgV σ c ≠ 0)) 144
        rw [← hz_35] at r_35
        have hz_35 : z_35 = sm (fun c => bI (decide (lgV σ c ≠ 0))) 144 := hz_35
        refine z_pop C dX2_sees_38 rfl ?_
        refine z_aload_n C 0 dX2_sees_39 rfl ?_
        refine z_iload_n C 1 dX2_sees_40 rfl ?_
        refine z_aload_n C 0 dX2_sees_41 rfl ?_
        refine z_get C (v := .ref (h 4)) (ref := "ShadowWallsModel") (T := TX2) (N := 14) (ci := 2) 0 6 inU_X2_X2_sees rfl rfl (by decide) (by decide +kernel) (fun _ h9 => h9) rfl dX2_sees_42 ?_
        refine z_iload_n C 2 dX2_sees_45 rfl ?_
        refine z_iald C (cA := cI) (N := 6) (f := σ 3) 4 0 rfl rfl (by decide) (by omega) dX2_sees_46 ?_
        refine z_callVi C (As := [vI w, vI (σ 3 (o.toNat))]) (st := []) (y := yX2_seesCell) (w := wsX2_seesCell) (rm := rm_X2_seesCell) (wr := []) (k' := 0) (n' := 0) [0, 1, 2, 3, 4, 5, 6, 7, 8] [] 0 (c_X2_seesCell l D cI cJ h σ (lkF (lgV σ) LI 144) (lkF (brV σ) BR 144) γ φ'_35 0 w (σ 3 (o.toNat)) (by omega) (by omega) hO (lkL_r hO hL 144)) (cwV 2 C.1.2.2.2.2 gX2_sees_X2_seesCell rfl rfl rfl (by decide +kernel) ⟨Nat.le_of_ble_eq_true rfl, Nat.le_of_ble_eq_true rfl⟩) rfl rfl rfl rfl rfl (by decide) rfl rfl rfl rfl (Nat.le_of_ble_eq_true rfl) rfl rfl ⟨Nat.le_of_ble_eq_true rfl, Nat.le_of_ble_eq_true rfl⟩ dX2_sees_47 ?_
        rintro z_47 _ ⟨φ'_47, rfl, hz_47⟩
        refine z_ws (ws' := (mx cI h σ ((lkF (lgV σ) LI 144)) ((lkF (brV σ) BR 144)) γ φ'_47 0)) rfl ?_
        have r_47 : z_47 = 0 ∨ z_47 = 1 := by rw [hz_47]; exact bI_01 _
        have hz_47 : z_47 = bI (seeB σ (lkF (lgV σ) LI 144) w.toNat (σ 3 (o.toNat)).toNat) := hz_47
        exact hret _ _ _ _ dX2_sees_50 (by omega) ⟨_, rfl, by exact hz_47⟩
      ·
        exfalso; omega

set_option maxHeartbeats 4000000 in
set_option maxRecDepth 100000 in
theorem b1_X2_sees (l : Launch) (D : va_G) (cI cJ : ClassId) (h : Nat → Nat) (σ : YS) (LI BR : Nat → Int) (γ : YS) (φ : Nat → Int) (θ : Int) (w o : Int) (hr : rng w ∧ rng o) (hO : Ok σ) (hb : ¬ ((0 ≤ w ∧ w < σ 4 1) ∧ (0 ≤ o ∧ o < σ 4 1))) : Ci l yX2_sees wsX2_sees rm_X2_sees D [(cI, .int), (cJ, .long)] [.ref (h 0), vI w, vI o] (mx cI h σ LI BR γ φ θ) (fun z u => u = (mx cI h σ LI BR γ φ 1) ∧ z = 0) := by
  refine z_ofz (own := RX2) (cc := cX2_sees) (maxL := 3) (lv := [(0, .ref (h 0)), (1, vI w), (2, vI o)]) (by decide) rfl rfl (Nat.le_of_ble_eq_true rfl) rfl ?_
  intro p e s m args below meth cd Q A C hret
  have hn := hO.1
  have hm := hO.2.1
  have en := nLa_e hO
  have em := nWa_e hO
  refine z_aload_n C 0 dX2_sees_0 rfl ?_
  refine z_aload_n C 0 dX2_sees_1 rfl ?_
  refine z_iload_n C 1 dX2_sees_2 rfl ?_
  refine z_callVi C (As := [vI w]) (st := [.ref (h 0)]) (y := yX2_isWatcher) (w := wsX2_isWatcher) (rm := rm_X2_isWatcher) (wr := []) (k' := 0) (n' := 0) [0, 1, 2, 3, 4, 5, 6, 7, 8] [] 0 (c_X2_isWatcher l D cI cJ h σ LI BR γ φ θ w (by omega) hO) (cwV 1 C.1.2.2.2.2 gX2_sees_X2_isWatcher rfl rfl rfl (by decide +kernel) ⟨Nat.le_of_ble_eq_true rfl, Nat.le_of_ble_eq_true rfl⟩) rfl rfl rfl rfl rfl (by decide) rfl rfl rfl rfl (Nat.le_of_ble_eq_true rfl) rfl rfl ⟨Nat.le_of_ble_eq_true rfl, Nat.le_of_ble_eq_true rfl⟩ dX2_sees_3 ?_
  rintro z_3 _ ⟨rfl, hz_3⟩
  refine z_ws (ws' := (mx cI h σ LI BR γ φ θ)) rfl ?_
  have r_3 : z_3 = 0 ∨ z_3 = 1 := by rw [hz_3]; exact bI_01 _
  have hz_3 : z_3 = bI (decide (0 ≤ w) && decide (w ≤ σ 4 1 - 1)) := hz_3
  have i_3 := isIn_c hz_3
  refine z_if_eq C (tgt := 21) dX2_sees_6 (by decide) (by omega) (fun c_6 => ?_) (fun c_6 => ?_)
  ·
    refine z_iconst C dX2_sees_21 ?_
    refine z_put C (ref := "ShadowWallsModel") (T := TX2) (N := 14) (ci := 2) (ty := .int) (ws' := (mx cI h σ LI BR γ φ 1)) 0 0 inU_X2_X2_sees tyX2 tyX2_ok nmX2 rfl rfl (by decide) (by decide +kernel) (fun _ h9 => h9) rfl (by decide +kernel) (rfl) (rfl) (Nat.le_of_ble_eq_true rfl) rfl dX2_sees_22 ?_
    refine z_aload_n C 0 dX2_sees_25 rfl ?_
    refine z_get C (v := vI 1) (ref := "ShadowWallsModel") (T := TX2) (N := 14) (ci := 2) 0 0 inU_X2_X2_sees rfl rfl (by decide) (by decide +kernel) (fun _ h9 => h9) rfl dX2_sees_26 ?_
    refine z_if_eq C (tgt := 34) dX2_sees_29 (by decide) (by omega) (fun c_29 => ?_) (fun c_29 => ?_)
    ·
      exfalso; omega
    ·
      refine z_iconst C dX2_sees_32 ?_
      exact hret _ _ _ _ dX2_sees_33 (Or.inl rfl) ⟨rfl, by rfl⟩
  ·
    refine z_aload_n C 0 dX2_sees_9 rfl ?_
    refine z_iload_n C 2 dX2_sees_10 rfl ?_
    refine z_callVi C (As := [vI o]) (st := [.ref (h 0)]) (y := yX2_isWatcher) (w := wsX2_isWatcher) (rm := rm_X2_isWatcher) (wr := []) (k' := 0) (n' := 0) [0, 1, 2, 3, 4, 5, 6, 7, 8] [] 0 (c_X2_isWatcher l D cI cJ h σ LI BR γ φ θ o (by omega) hO) (cwV 1 C.1.2.2.2.2 gX2_sees_X2_isWatcher rfl rfl rfl (by decide +kernel) ⟨Nat.le_of_ble_eq_true rfl, Nat.le_of_ble_eq_true rfl⟩) rfl rfl rfl rfl rfl (by decide) rfl rfl rfl rfl (Nat.le_of_ble_eq_true rfl) rfl rfl ⟨Nat.le_of_ble_eq_true rfl, Nat.le_of_ble_eq_true rfl⟩ dX2_sees_11 ?_
    rintro z_11 _ ⟨rfl, hz_11⟩
    refine z_ws (ws' := (mx cI h σ LI BR γ φ θ)) rfl ?_
    have r_11 : z_11 = 0 ∨ z_11 = 1 := by rw [hz_11]; exact bI_01 _
    have hz_11 : z_11 = bI (decide (0 ≤ o) && decide (o ≤ σ 4 1 - 1)) := hz_11
    have i_11 := isIn_c hz_11
    refine z_if_eq C (tgt := 21) dX2_sees_14 (by decide) (by omega) (fun c_14 => ?_) (fun c_14 => ?_)
    ·
      refine z_iconst C dX2_sees_21 ?_
      refine z_put C (ref := "ShadowWallsModel") (T := TX2) (N := 14) (ci := 2) (ty := .int) (ws' := (mx cI h σ LI BR γ φ 1)) 0 0 inU_X2_X2_sees tyX2 tyX2_ok nmX2 rfl rfl (by decide) (by decide +kernel) (fun _ h9 => h9) rfl (by decide +kernel) (rfl) (rfl) (Nat.le_of_ble_eq_true rfl) rfl dX2_sees_22 ?_
      refine z_aload_n C 0 dX2_sees_25 rfl ?_
      refine z_get C (v := vI 1) (ref := "ShadowWallsModel") (T := TX2) (N := 14) (ci := 2) 0 0 inU_X2_X2_sees rfl rfl (by decide) (by decide +kernel) (fun _ h9 => h9) rfl dX2_sees_26 ?_
      refine z_if_eq C (tgt := 34) dX2_sees_29 (by decide) (by omega) (fun c_29 => ?_) (fun c_29 => ?_)
      ·
        exfalso; omega
      ·
        refine z_iconst C dX2_sees_32 ?_
        exact hret _ _ _ _ dX2_sees_33 (Or.inl rfl) ⟨rfl, by rfl⟩
    ·
      exfalso; omega

set_option maxRecDepth 100000 in
theorem inU_X2_X2_count : ∀ w ∈ u_ws RX2 TX2 14, w ∈ wsX2_count := by decide +kernel
abbrev rm_X2_count : Room := { frames := 7, cells := 0, slots := 0, locals := 164 }
set_option maxHeartbeats 4000000 in
set_option maxRecDepth 100000 in
theorem c_X2_count (l : Launch) (D : va_G) (cI cJ : ClassId) (h : Nat → Nat) (σ : YS) (LI BR : Nat → Int) (γ : YS) (φ : Nat → Int) (θ : Int) (wh : Int) (hwh : 0 ≤ wh ∧ wh < 8) (hO : Ok σ) (hL : LI4 LI) (hB : BR9 BR) : Ci l yX2_count wsX2_count rm_X2_count D [(cI, .int), (cJ, .long)] [.ref (h 0), vI wh] (mx cI h σ LI BR γ φ θ) (fun z u => ∃ φ' : Nat → Int, u = (mx cI h σ (lkF (lgV σ) LI 144) (lkF (brV σ) BR 144) γ φ' 0) ∧ z = couM σ (lkF (lgV σ) LI 144) (lkF (brV σ) BR 144) wh) := by
  refine z_ofi (own := RX2) (cc := cX2_count) (maxL := 2) (lv := [(0, .ref (h 0)), (1, vI wh)]) (by decide) rfl rfl (Nat.le_of_ble_eq_true rfl) rfl ?_
  intro p e s m args below meth cd Q A C hret
  have hn := hO.1
  have hm := hO.2.1
  have en := nLa_e hO
  have em := nWa_e hO
  refine z_aload_n C 0 dX2_count_0 rfl ?_
  refine z_iconst C dX2_count_1 ?_
  refine z_put C (ref := "ShadowWallsModel") (T := TX2) (N := 14) (ci := 2) (ty := .int) (ws' := (mx cI h σ LI BR γ φ 0)) 0 0 inU_X2_X2_count tyX2 tyX2_ok nmX2 rfl rfl (by decide) (by decide +kernel) (fun _ h9 => h9) rfl (by decide +kernel) (rfl) (rfl) (Nat.le_of_ble_eq_true rfl) rfl dX2_count_2 ?_
  refine z_iload_n C 1 dX2_count_5 rfl ?_
  refine z_iconst C dX2_count_6 ?_
  refine z_bipush C dX2_count_7 (by decide) ?_
  refine z_callSi C (As := [vI wh, vI 0, vI 7]) (st := []) (y := yX2_isIn) (w := wsX2_isIn) (rm := rm_X2_isIn) (wr := (mx cI h σ LI BR γ φ 0)) (k' := 0) (n' := 0) [] [0, 1, 2, 3, 4, 5, 6, 7, 8] (c_X2_isIn l D cI cJ  wh 0 7 (by omega) (by omega) (by omega)) (va_cwS 3 C.1.2.2.2.2 gX2_count_X2_isIn rfl rfl rfl (by decide +kernel) ⟨Nat.le_of_ble_eq_true rfl, Nat.le_of_ble_eq_true rfl⟩) rfl rfl rfl rfl rfl (by decide) rfl rfl (Nat.le_of_ble_eq_true rfl) rfl rfl ⟨Nat.le_of_ble_eq_true rfl, Nat.le_of_ble_eq_true rfl⟩ dX2_count_9 ?_
  rintro z_9 _ ⟨rfl, hz_9⟩
  refine z_ws (ws' := (mx cI h σ LI BR γ φ 0)) rfl ?_
  have r_9 : z_9 = 0 ∨ z_9 = 1 := by rw [hz_9]; exact bI_01 _
  have hz_9 : z_9 = bI (decide (0 ≤ wh) && decide (wh ≤ 7)) := hz_9
  have i_9 := isIn_c hz_9
  refine z_if_ne C (tgt := 21) dX2_count_12 (by decide) (by omega) (fun c_12 => ?_) (fun c_12 => ?_)
  ·
    refine z_aload_n C 0 dX2_count_21 rfl ?_
    refine z_callVi C (As := []) (st := []) (y := yX2_look) (w := wsX2_look) (rm := rm_X2_look) (wr := []) (k' := 0) (n' := 0) [0, 1, 2, 3, 4, 5, 6, 7, 8] [] 0 (c_X2_look l D cI cJ h σ LI BR γ φ 0  hO hL) (cwV 0 C.1.2.2.2.2 gX2_count_X2_look rfl rfl rfl (by decide +kernel) ⟨Nat.le_of_ble_eq_true rfl, Nat.le_of_ble_eq_true rfl⟩) rfl rfl rfl rfl rfl (by decide) rfl rfl rfl rfl (Nat.le_of_ble_eq_true rfl) rfl rfl ⟨Nat.le_of_ble_eq_true rfl, Nat.le_of_ble_eq_true rfl⟩ dX2_count_22 ?_
    rintro z_22 _ ⟨φ'_22, rfl, hz_22⟩
    refine z_ws (ws' := (mx cI h σ (lkF (lgV σ) LI 144) (lkF (brV σ) BR 144) γ φ'_22 0)) rfl ?_
    have r_22 := smB_r (fun c => decide (lgV σ c ≠ 0)) 144
    rw [← hz_22] at r_22
    have hz_22 : z_22 = sm (fun c => bI (decide (lgV σ c ≠ 0))) 144 := hz_22
    refine z_pop C dX2_count_25 rfl ?_
    refine z_aload_n C 0 dX2_count_26 rfl ?_
    refine z_iload_n C 1 dX2_count_27 rfl ?_
    refine z_callVi C (As := [vI wh]) (st := []) (y := yX2_counted) (w := wsX2_counted) (rm := rm_X2_counted) (wr := []) (k' := 0) (n' := 0) [0, 1, 2, 3, 4, 5, 6, 7, 8] [] 0 (c_X2_counted l D cI cJ h σ (lkF (lgV σ) LI 144) (lkF (brV σ) BR 144) γ φ'_22 0 wh (by omega) hO (lkL_r hO hL 144) (lkB_r hO hB (Nat.le_refl _))) (cwV 1 C.1.2.2.2.2 gX2_count_X2_counted rfl rfl rfl (by decide +kernel) ⟨Nat.le_of_ble_eq_true rfl, Nat.le_of_ble_eq_true rfl⟩) rfl rfl rfl rfl rfl (by decide) rfl rfl rfl rfl (Nat.le_of_ble_eq_true rfl) rfl rfl ⟨Nat.le_of_ble_eq_true rfl, Nat.le_of_ble_eq_true rfl⟩ dX2_count_28 ?_
    rintro z_28 _ ⟨φ'_28, rfl, hz_28⟩
    refine z_ws (ws' := (mx cI h σ ((lkF (lgV σ) LI 144)) ((lkF (brV σ) BR 144)) γ φ'_28 0)) rfl ?_
    have hz_28 : z_28 = couM σ (lkF (lgV σ) LI 144) (lkF (brV σ) BR 144) wh := hz_28
    exact hret _ _ _ _ dX2_count_31 ⟨_, rfl, by exact hz_28⟩
  ·
    exfalso; omega

set_option maxHeartbeats 4000000 in
set_option maxRecDepth 100000 in
theorem b1_X2_count (l : Launch) (D : va_G) (cI cJ : ClassId) (h : Nat → Nat) (σ : YS) (LI BR : Nat → Int) (γ : YS) (φ : Nat → Int) (θ : Int) (wh : Int) (hr : rng wh) (hO : Ok σ) (hb : ¬ (0 ≤ wh ∧ wh < 8)) : Ci l yX2_count wsX2_count rm_X2_count D [(cI, .int), (cJ, .long)] [.ref (h 0), vI wh] (mx cI h σ LI BR γ φ θ) (fun z u => u = (mx cI h σ LI BR γ φ 1) ∧ z = 0) := by
  refine z_ofi (own := RX2) (cc := cX2_count) (maxL := 2) (lv := [(0, .ref (h 0)), (1, vI wh)]) (by decide) rfl rfl (Nat.le_of_ble_eq_true rfl) rfl ?_
  intro p e s m args below meth cd Q A C hret
  have hn := hO.1
  have hm := hO.2.1
  have en := nLa_e hO
  have em := nWa_e hO
  refine z_aload_n C 0 dX2_count_0 rfl ?_
  refine z_iconst C dX2_count_1 ?_
  refine z_put C (ref := "ShadowWallsModel") (T := TX2) (N := 14) (ci := 2) (ty := .int) (ws' := (mx cI h σ LI BR γ φ 0)) 0 0 inU_X2_X2_count tyX2 tyX2_ok nmX2 rfl rfl (by decide) (by decide +kernel) (fun _ h9 => h9) rfl (by decide +kernel) (rfl) (rfl) (Nat.le_of_ble_eq_true rfl) rfl dX2_count_2 ?_
  refine z_iload_n C 1 dX2_count_5 rfl ?_
  refine z_iconst C dX2_count_6 ?_
  refine z_bipush C dX2_count_7 (by decide) ?_
  refine z_callSi C (As := [vI wh, vI 0, vI 7]) (st := []) (y := yX2_isIn) (w := wsX2_isIn) (rm := rm_X2_isIn) (wr := (mx cI h σ LI BR γ φ 0)) (k' := 0) (n' := 0) [] [0, 1, 2, 3, 4, 5, 6, 7, 8] (c_X2_isIn l D cI cJ  wh 0 7 (by omega) (by omega) (by omega)) (va_cwS 3 C.1.2.2.2.2 gX2_count_X2_isIn rfl rfl rfl (by decide +kernel) ⟨Nat.le_of_ble_eq_true rfl, Nat.le_of_ble_eq_true rfl⟩) rfl rfl rfl rfl rfl (by decide) rfl rfl (Nat.le_of_ble_eq_true rfl) rfl rfl ⟨Nat.le_of_ble_eq_true rfl, Nat.le_of_ble_eq_true rfl⟩ dX2_count_9 ?_
  rintro z_9 _ ⟨rfl, hz_9⟩
  refine z_ws (ws' := (mx cI h σ LI BR γ φ 0)) rfl ?_
  have r_9 : z_9 = 0 ∨ z_9 = 1 := by rw [hz_9]; exact bI_01 _
  have hz_9 : z_9 = bI (decide (0 ≤ wh) && decide (wh ≤ 7)) := hz_9
  have i_9 := isIn_c hz_9
  refine z_if_ne C (tgt := 21) dX2_count_12 (by decide) (by omega) (fun c_12 => ?_) (fun c_12 => ?_)
  ·
    exfalso; omega
  ·
    refine z_aload_n C 0 dX2_count_15 rfl ?_
    refine z_iconst C dX2_count_16 ?_
    refine z_callVi C (As := [vI 1]) (st := []) (y := yX2_no) (w := wsX2_no) (rm := rm_X2_no) (wr := []) (k' := 0) (n' := 0) [0, 1, 2, 3, 4, 5, 6, 7, 8] [] 0 (c_X2_no l D cI cJ h σ LI BR γ φ 0 1 ) (cwV 1 C.1.2.2.2.2 gX2_count_X2_no rfl rfl rfl (by decide +kernel) ⟨Nat.le_of_ble_eq_true rfl, Nat.le_of_ble_eq_true rfl⟩) rfl rfl rfl rfl rfl (by decide) rfl rfl rfl rfl (Nat.le_of_ble_eq_true rfl) rfl rfl ⟨Nat.le_of_ble_eq_true rfl, Nat.le_of_ble_eq_true rfl⟩ dX2_count_17 ?_
    rintro z_17 _ ⟨rfl, rfl⟩
    refine z_ws (ws' := (mx cI h σ LI BR γ φ 1)) rfl ?_
    refine z_st (v' := 0) rfl ?_
    exact hret _ _ _ _ dX2_count_20 ⟨rfl, by rfl⟩

set_option maxRecDepth 100000 in
theorem inU_X2_X2_far : ∀ w ∈ u_ws RX2 TX2 14, w ∈ wsX2_far := by decide +kernel
abbrev rm_X2_far : Room := { frames := 2, cells := 0, slots := 0, locals := 55 }
set_option maxHeartbeats 4000000 in
set_option maxRecDepth 100000 in
theorem c_X2_far (l : Launch) (D : va_G) (cI cJ : ClassId) (h : Nat → Nat) (σ : YS) (LI BR : Nat → Int) (γ : YS) (φ : Nat → Int) (θ : Int) (f t : Int) (hf : 0 ≤ f ∧ f < 144) (ht : 0 ≤ t ∧ t < 144) (hO : Ok σ) (hL : LI4 LI) : Ci l yX2_far wsX2_far rm_X2_far D [(cI, .int), (cJ, .long)] [.ref (h 0), vI f, vI t] (mx cI h σ LI BR γ φ θ) (fun z u => ∃ φ' : Nat → Int, u = (mx cI h σ LI BR γ φ' 0) ∧ z = (ray (σ 0) f t).2) := by
  refine z_ofi (own := RX2) (cc := cX2_far) (maxL := 3) (lv := [(0, .ref (h 0)), (1, vI f), (2, vI t)]) (by decide) rfl rfl (Nat.le_of_ble_eq_true rfl) rfl ?_
  intro p e s m args below meth cd Q A C hret
  have hn := hO.1
  have hm := hO.2.1
  have en := nLa_e hO
  have em := nWa_e hO
  refine z_aload_n C 0 dX2_far_0 rfl ?_
  refine z_iconst C dX2_far_1 ?_
  refine z_put C (ref := "ShadowWallsModel") (T := TX2) (N := 14) (ci := 2) (ty := .int) (ws' := (mx cI h σ LI BR γ φ 0)) 0 0 inU_X2_X2_far tyX2 tyX2_ok nmX2 rfl rfl (by decide) (by decide +kernel) (fun _ h9 => h9) rfl (by decide +kernel) (rfl) (rfl) (Nat.le_of_ble_eq_true rfl) rfl dX2_far_2 ?_
  refine z_iload_n C 1 dX2_far_5 rfl ?_
  refine z_iload_n C 2 dX2_far_6 rfl ?_
  refine z_callSi C (As := [vI f, vI t]) (st := []) (y := yX2_areCells) (w := wsX2_areCells) (rm := rm_X2_areCells) (wr := (mx cI h σ LI BR γ φ 0)) (k' := 0) (n' := 0) [] [0, 1, 2, 3, 4, 5, 6, 7, 8] (c_X2_areCells l D cI cJ  f t (by omega) (by omega)) (va_cwS 2 C.1.2.2.2.2 gX2_far_X2_areCells rfl rfl rfl (by decide +kernel) ⟨Nat.le_of_ble_eq_true rfl, Nat.le_of_ble_eq_true rfl⟩) rfl rfl rfl rfl rfl (by decide) rfl rfl (Nat.le_of_ble_eq_true rfl) rfl rfl ⟨Nat.le_of_ble_eq_true rfl, Nat.le_of_ble_eq_true rfl⟩ dX2_far_7 ?_
  rintro z_7 _ ⟨rfl, hz_7⟩
  refine z_ws (ws' := (mx cI h σ LI BR γ φ 0)) rfl ?_
  have r_7 : z_7 = 0 ∨ z_7 = 1 := by rw [hz_7]; exact bI_01 _
  have hz_7 : z_7 = bI (decide (0 ≤ f) && decide (f ≤ 143) && (decide (0 ≤ t) && decide (t ≤ 143))) := hz_7
  have i_7 := isA_c hz_7
  refine z_if_ne C (tgt := 19) dX2_far_10 (by decide) (by omega) (fun c_10 => ?_) (fun c_10 => ?_)
  ·
    refine z_aload_n C 0 dX2_far_19 rfl ?_
    refine z_iload_n C 1 dX2_far_20 rfl ?_
    refine z_iload_n C 2 dX2_far_21 rfl ?_
    refine z_callVv C (As := [vI f, vI t]) (st := []) (y := yX2_go) (w := wsX2_go) (rm := rm_X2_go) (wr := []) (k' := 0) (n' := 0) [0, 1, 2, 3, 4, 5, 6, 7, 8] [] 0 (c_X2_go l D cI cJ h σ LI BR γ φ 0 f t (by omega) (by omega) hO) (cwV 2 C.1.2.2.2.2 gX2_far_X2_go rfl rfl rfl (by decide +kernel) ⟨Nat.le_of_ble_eq_true rfl, Nat.le_of_ble_eq_true rfl⟩) rfl rfl rfl rfl rfl (by decide) rfl rfl rfl rfl (Nat.le_of_ble_eq_true rfl) rfl rfl ⟨Nat.le_of_ble_eq_true rfl, Nat.le_of_ble_eq_true rfl⟩ dX2_far_22 ?_
    rintro _ ⟨φ'_22, rfl, f0_22, f1_22⟩
    refine z_ws (ws' := (mx cI h σ LI BR γ φ'_22 0)) rfl ?_
    refine z_aload_n C 0 dX2_far_25 rfl ?_
    refine z_get C (v := vI (φ'_22 1)) (ref := "ShadowWallsModel") (T := TX2) (N := 14) (ci := 2) 0 13 inU_X2_X2_far rfl rfl (by decide) (by decide +kernel) (fun _ h9 => h9) rfl dX2_far_26 ?_
    exact hret _ _ _ _ dX2_far_29 ⟨_, rfl, by exact f1_22⟩
  ·
    exfalso; omega

set_option maxHeartbeats 4000000 in
set_option maxRecDepth 100000 in
theorem b1_X2_far (l : Launch) (D : va_G) (cI cJ : ClassId) (h : Nat → Nat) (σ : YS) (LI BR : Nat → Int) (γ : YS) (φ : Nat → Int) (θ : Int) (f t : Int) (hr : rng f ∧ rng t) (hO : Ok σ) (hb : ¬ ((0 ≤ f ∧ f < 144) ∧ (0 ≤ t ∧ t < 144))) : Ci l yX2_far wsX2_far rm_X2_far D [(cI, .int), (cJ, .long)] [.ref (h 0), vI f, vI t] (mx cI h σ LI BR γ φ θ) (fun z u => u = (mx cI h σ LI BR γ φ 1) ∧ z = 0) := by
  refine z_ofi (own := RX2) (cc := cX2_far) (maxL := 3) (lv := [(0, .ref (h 0)), (1, vI f), (2, vI t)]) (by decide) rfl rfl (Nat.le_of_ble_eq_true rfl) rfl ?_
  intro p e s m args below meth cd Q A C hret
  have hn := hO.1
  have hm := hO.2.1
  have en := nLa_e hO
  have em := nWa_e hO
  refine z_aload_n C 0 dX2_far_0 rfl ?_
  refine z_iconst C dX2_far_1 ?_
  refine z_put C (ref := "ShadowWallsModel") (T := TX2) (N := 14) (ci := 2) (ty := .int) (ws' := (mx cI h σ LI BR γ φ 0)) 0 0 inU_X2_X2_far tyX2 tyX2_ok nmX2 rfl rfl (by decide) (by decide +kernel) (fun _ h9 => h9) rfl (by decide +kernel) (rfl) (rfl) (Nat.le_of_ble_eq_true rfl) rfl dX2_far_2 ?_
  refine z_iload_n C 1 dX2_far_5 rfl ?_
  refine z_iload_n C 2 dX2_far_6 rfl ?_
  refine z_callSi C (As := [vI f, vI t]) (st := []) (y := yX2_areCells) (w := wsX2_areCells) (rm := rm_X2_areCells) (wr := (mx cI h σ LI BR γ φ 0)) (k' := 0) (n' := 0) [] [0, 1, 2, 3, 4, 5, 6, 7, 8] (c_X2_areCells l D cI cJ  f t (by omega) (by omega)) (va_cwS 2 C.1.2.2.2.2 gX2_far_X2_areCells rfl rfl rfl (by decide +kernel) ⟨Nat.le_of_ble_eq_true rfl, Nat.le_of_ble_eq_true rfl⟩) rfl rfl rfl rfl rfl (by decide) rfl rfl (Nat.le_of_ble_eq_true rfl) rfl rfl ⟨Nat.le_of_ble_eq_true rfl, Nat.le_of_ble_eq_true rfl⟩ dX2_far_7 ?_
  rintro z_7 _ ⟨rfl, hz_7⟩
  refine z_ws (ws' := (mx cI h σ LI BR γ φ 0)) rfl ?_
  have r_7 : z_7 = 0 ∨ z_7 = 1 := by rw [hz_7]; exact bI_01 _
  have hz_7 : z_7 = bI (decide (0 ≤ f) && decide (f ≤ 143) && (decide (0 ≤ t) && decide (t ≤ 143))) := hz_7
  have i_7 := isA_c hz_7
  refine z_if_ne C (tgt := 19) dX2_far_10 (by decide) (by omega) (fun c_10 => ?_) (fun c_10 => ?_)
  ·
    exfalso; omega
  ·
    refine z_aload_n C 0 dX2_far_13 rfl ?_
    refine z_iconst C dX2_far_14 ?_
    refine z_callVi C (As := [vI 1]) (st := []) (y := yX2_no) (w := wsX2_no) (rm := rm_X2_no) (wr := []) (k' := 0) (n' := 0) [0, 1, 2, 3, 4, 5, 6, 7, 8] [] 0 (c_X2_no l D cI cJ h σ LI BR γ φ 0 1 ) (cwV 1 C.1.2.2.2.2 gX2_far_X2_no rfl rfl rfl (by decide +kernel) ⟨Nat.le_of_ble_eq_true rfl, Nat.le_of_ble_eq_true rfl⟩) rfl rfl rfl rfl rfl (by decide) rfl rfl rfl rfl (Nat.le_of_ble_eq_true rfl) rfl rfl ⟨Nat.le_of_ble_eq_true rfl, Nat.le_of_ble_eq_true rfl⟩ dX2_far_15 ?_
    rintro z_15 _ ⟨rfl, rfl⟩
    refine z_ws (ws' := (mx cI h σ LI BR γ φ 1)) rfl ?_
    refine z_st (v' := 0) rfl ?_
    exact hret _ _ _ _ dX2_far_18 ⟨rfl, by rfl⟩

set_option maxRecDepth 100000 in
theorem inU_X2_X2_stops : ∀ w ∈ u_ws RX2 TX2 14, w ∈ wsX2_stops := by decide +kernel
abbrev rm_X2_stops : Room := { frames := 3, cells := 0, slots := 0, locals := 77 }
set_option maxHeartbeats 4000000 in
set_option maxRecDepth 100000 in
theorem c_X2_stops (l : Launch) (D : va_G) (cI cJ : ClassId) (h : Nat → Nat) (σ : YS) (LI BR : Nat → Int) (γ : YS) (φ : Nat → Int) (θ : Int) (f t : Int) (hf : 0 ≤ f ∧ f < 144) (ht : 0 ≤ t ∧ t < 144) (hO : Ok σ) (hL : LI4 LI) : Ci l yX2_stops wsX2_stops rm_X2_stops D [(cI, .int), (cJ, .long)] [.ref (h 0), vI f, vI t] (mx cI h σ LI BR γ φ θ) (fun z u => ∃ φ' : Nat → Int, u = (mx cI h σ LI BR γ φ' 0) ∧ z = (ray (σ 0) f t).1) := by
  refine z_ofi (own := RX2) (cc := cX2_stops) (maxL := 3) (lv := [(0, .ref (h 0)), (1, vI f), (2, vI t)]) (by decide) rfl rfl (Nat.le_of_ble_eq_true rfl) rfl ?_
  intro p e s m args below meth cd Q A C hret
  have hn := hO.1
  have hm := hO.2.1
  have en := nLa_e hO
  have em := nWa_e hO
  refine z_aload_n C 0 dX2_stops_0 rfl ?_
  refine z_iconst C dX2_stops_1 ?_
  refine z_put C (ref := "ShadowWallsModel") (T := TX2) (N := 14) (ci := 2) (ty := .int) (ws' := (mx cI h σ LI BR γ φ 0)) 0 0 inU_X2_X2_stops tyX2 tyX2_ok nmX2 rfl rfl (by decide) (by decide +kernel) (fun _ h9 => h9) rfl (by decide +kernel) (rfl) (rfl) (Nat.le_of_ble_eq_true rfl) rfl dX2_stops_2 ?_
  refine z_iload_n C 1 dX2_stops_5 rfl ?_
  refine z_iload_n C 2 dX2_stops_6 rfl ?_
  refine z_callSi C (As := [vI f, vI t]) (st := []) (y := yX2_areCells) (w := wsX2_areCells) (rm := rm_X2_areCells) (wr := (mx cI h σ LI BR γ φ 0)) (k' := 0) (n' := 0) [] [0, 1, 2, 3, 4, 5, 6, 7, 8] (c_X2_areCells l D cI cJ  f t (by omega) (by omega)) (va_cwS 2 C.1.2.2.2.2 gX2_stops_X2_areCells rfl rfl rfl (by decide +kernel) ⟨Nat.le_of_ble_eq_true rfl, Nat.le_of_ble_eq_true rfl⟩) rfl rfl rfl rfl rfl (by decide) rfl rfl (Nat.le_of_ble_eq_true rfl) rfl rfl ⟨Nat.le_of_ble_eq_true rfl, Nat.le_of_ble_eq_true rfl⟩ dX2_stops_7 ?_
  rintro z_7 _ ⟨rfl, hz_7⟩
  refine z_ws (ws' := (mx cI h σ LI BR γ φ 0)) rfl ?_
  have r_7 : z_7 = 0 ∨ z_7 = 1 := by rw [hz_7]; exact bI_01 _
  have hz_7 : z_7 = bI (decide (0 ≤ f) && decide (f ≤ 143) && (decide (0 ≤ t) && decide (t ≤ 143))) := hz_7
  have i_7 := isA_c hz_7
  refine z_if_eq C (tgt := 22) dX2_stops_10 (by decide) (by omega) (fun c_10 => ?_) (fun c_10 => ?_)
  ·
    exfalso; omega
  ·
    refine z_aload_n C 0 dX2_stops_13 rfl ?_
    refine z_iload_n C 1 dX2_stops_14 rfl ?_
    refine z_iload_n C 2 dX2_stops_15 rfl ?_
    refine z_callVi C (As := [vI f, vI t]) (st := []) (y := yX2_stopsOn) (w := wsX2_stopsOn) (rm := rm_X2_stopsOn) (wr := []) (k' := 0) (n' := 0) [0, 1, 2, 3, 4, 5, 6, 7, 8] [] 0 (c_X2_stopsOn l D cI cJ h σ LI BR γ φ 0 f t (by omega) (by omega) hO) (cwV 2 C.1.2.2.2.2 gX2_stops_X2_stopsOn rfl rfl rfl (by decide +kernel) ⟨Nat.le_of_ble_eq_true rfl, Nat.le_of_ble_eq_true rfl⟩) rfl rfl rfl rfl rfl (by decide) rfl rfl rfl rfl (Nat.le_of_ble_eq_true rfl) rfl rfl ⟨Nat.le_of_ble_eq_true rfl, Nat.le_of_ble_eq_true rfl⟩ dX2_stops_16 ?_
    rintro z_16 _ ⟨φ'_16, rfl, hz_16⟩
    refine z_ws (ws' := (mx cI h σ LI BR γ φ'_16 0)) rfl ?_
    have r_16 := (ray_r (σ 0) (f) (t)).1
    rw [← hz_16] at r_16
    have hz_16 : z_16 = (ray (σ 0) f t).1 := hz_16
    refine z_goto C (tgt := 27) dX2_stops_19 (by decide) ?_
    exact hret _ _ _ _ dX2_stops_27 ⟨_, rfl, by exact hz_16⟩

set_option maxHeartbeats 4000000 in
set_option maxRecDepth 100000 in
theorem b1_X2_stops (l : Launch) (D : va_G) (cI cJ : ClassId) (h : Nat → Nat) (σ : YS) (LI BR : Nat → Int) (γ : YS) (φ : Nat → Int) (θ : Int) (f t : Int) (hr : rng f ∧ rng t) (hO : Ok σ) (hb : ¬ ((0 ≤ f ∧ f < 144) ∧ (0 ≤ t ∧ t < 144))) : Ci l yX2_stops wsX2_stops rm_X2_stops D [(cI, .int), (cJ, .long)] [.ref (h 0), vI f, vI t] (mx cI h σ LI BR γ φ θ) (fun z u => u = (mx cI h σ LI BR γ φ 1) ∧ z = 0) := by
  refine z_ofi (own := RX2) (cc := cX2_stops) (maxL := 3) (lv := [(0, .ref (h 0)), (1, vI f), (2, vI t)]) (by decide) rfl rfl (Nat.le_of_ble_eq_true rfl) rfl ?_
  intro p e s m args below meth cd Q A C hret
  have hn := hO.1
  have hm := hO.2.1
  have en := nLa_e hO
  have em := nWa_e hO
  refine z_aload_n C 0 dX2_stops_0 rfl ?_
  refine z_iconst C dX2_stops_1 ?_
  refine z_put C (ref := "ShadowWallsModel") (T := TX2) (N := 14) (ci := 2) (ty := .int) (ws' := (mx cI h σ LI BR γ φ 0)) 0 0 inU_X2_X2_stops tyX2 tyX2_ok nmX2 rfl rfl (by decide) (by decide +kernel) (fun _ h9 => h9) rfl (by decide +kernel) (rfl) (rfl) (Nat.le_of_ble_eq_true rfl) rfl dX2_stops_2 ?_
  refine z_iload_n C 1 dX2_stops_5 rfl ?_
  refine z_iload_n C 2 dX2_stops_6 rfl ?_
  refine z_callSi C (As := [vI f, vI t]) (st := []) (y := yX2_areCells) (w := wsX2_areCells) (rm := rm_X2_areCells) (wr := (mx cI h σ LI BR γ φ 0)) (k' := 0) (n' := 0) [] [0, 1, 2, 3, 4, 5, 6, 7, 8] (c_X2_areCells l D cI cJ  f t (by omega) (by omega)) (va_cwS 2 C.1.2.2.2.2 gX2_stops_X2_areCells rfl rfl rfl (by decide +kernel) ⟨Nat.le_of_ble_eq_true rfl, Nat.le_of_ble_eq_true rfl⟩) rfl rfl rfl rfl rfl (by decide) rfl rfl (Nat.le_of_ble_eq_true rfl) rfl rfl ⟨Nat.le_of_ble_eq_true rfl, Nat.le_of_ble_eq_true rfl⟩ dX2_stops_7 ?_
  rintro z_7 _ ⟨rfl, hz_7⟩
  refine z_ws (ws' := (mx cI h σ LI BR γ φ 0)) rfl ?_
  have r_7 : z_7 = 0 ∨ z_7 = 1 := by rw [hz_7]; exact bI_01 _
  have hz_7 : z_7 = bI (decide (0 ≤ f) && decide (f ≤ 143) && (decide (0 ≤ t) && decide (t ≤ 143))) := hz_7
  have i_7 := isA_c hz_7
  refine z_if_eq C (tgt := 22) dX2_stops_10 (by decide) (by omega) (fun c_10 => ?_) (fun c_10 => ?_)
  ·
    refine z_aload_n C 0 dX2_stops_22 rfl ?_
    refine z_iconst C dX2_stops_23 ?_
    refine z_callVi C (As := [vI 1]) (st := []) (y := yX2_no) (w := wsX2_no) (rm := rm_X2_no) (wr := []) (k' := 0) (n' := 0) [0, 1, 2, 3, 4, 5, 6, 7, 8] [] 0 (c_X2_no l D cI cJ h σ LI BR γ φ 0 1 ) (cwV 1 C.1.2.2.2.2 gX2_stops_X2_no rfl rfl rfl (by decide +kernel) ⟨Nat.le_of_ble_eq_true rfl, Nat.le_of_ble_eq_true rfl⟩) rfl rfl rfl rfl rfl (by decide) rfl rfl rfl rfl (Nat.le_of_ble_eq_true rfl) rfl rfl ⟨Nat.le_of_ble_eq_true rfl, Nat.le_of_ble_eq_true rfl⟩ dX2_stops_24 ?_
    rintro z_24 _ ⟨rfl, rfl⟩
    refine z_ws (ws' := (mx cI h σ LI BR γ φ 1)) rfl ?_
    refine z_st (v' := 0) rfl ?_
    exact hret _ _ _ _ dX2_stops_27 ⟨rfl, by rfl⟩
  ·
    exfalso; omega

set_option maxRecDepth 100000 in
theorem inU_X2_X2_would : ∀ w ∈ u_ws RX2 TX2 14, w ∈ wsX2_would := by decide +kernel
abbrev rm_X2_would : Room := { frames := 5, cells := 0, slots := 0, locals := 124 }
set_option maxHeartbeats 4000000 in
set_option maxRecDepth 100000 in
theorem c_X2_would (l : Launch) (D : va_G) (cI cJ : ClassId) (h : Nat → Nat) (σ : YS) (LI BR : Nat → Int) (γ : YS) (φ : Nat → Int) (θ : Int) (x y kd : Int) (hx : 0 ≤ x ∧ x < 12) (hy : 0 ≤ y ∧ y < 12) (hk : 0 ≤ kd ∧ kd < 4) (hO : Ok σ) (hL : LI4 LI) : Ci l yX2_would wsX2_would rm_X2_would D [(cI, .int), (cJ, .long)] [.ref (h 0), vI x, vI y, vI kd] (mx cI h σ LI BR γ φ θ) (fun z u => ∃ φ' : Nat → Int, u = (mx cI h σ (lkF (lgV (sU σ 0 (12 * y + x).toNat kd)) (lkF (lgV σ) LI 144) 144) (lkF (brV (sU σ 0 (12 * y + x).toNat kd)) (lkF (brV σ) BR 144) 144) γ φ' 0) ∧ z = litC (lgV (sU σ 0 (12 * y + x).toNat kd)) - litC (lgV σ)) := by
  refine z_ofi (own := RX2) (cc := cX2_would) (maxL := 7) (lv := [(0, .ref (h 0)), (1, vI x), (2, vI y), (3, vI kd)]) (by decide) rfl rfl (Nat.le_of_ble_eq_true rfl) rfl ?_
  intro p e s m args below meth cd Q A C hret
  have hn := hO.1
  have hm := hO.2.1
  have en := nLa_e hO
  have em := nWa_e hO
  have hcc : 0 ≤ 12 * y + x ∧ 12 * y + x < 144 := by omega
  have ecc : (((12 * y + x).toNat : Nat) : Int) = 12 * y + x := Int.toNat_of_nonneg hcc.1
  refine z_aload_n C 0 dX2_would_0 rfl ?_
  refine z_iconst C dX2_would_1 ?_
  refine z_put C (ref := "ShadowWallsModel") (T := TX2) (N := 14) (ci := 2) (ty := .int) (ws' := (mx cI h σ LI BR γ φ 0)) 0 0 inU_X2_X2_would tyX2 tyX2_ok nmX2 rfl rfl (by decide) (by decide +kernel) (fun _ h9 => h9) rfl (by decide +kernel) (rfl) (rfl) (Nat.le_of_ble_eq_true rfl) rfl dX2_would_2 ?_
  refine z_iload_n C 1 dX2_would_5 rfl ?_
  refine z_iload_n C 2 dX2_would_6 rfl ?_
  refine z_callSi C (As := [vI x, vI y]) (st := []) (y := yX2_isCell) (w := wsX2_isCell) (rm := rm_X2_isCell) (wr := (mx cI h σ LI BR γ φ 0)) (k' := 0) (n' := 0) [] [0, 1, 2, 3, 4, 5, 6, 7, 8] (c_X2_isCell l D cI cJ  x y (by omega) (by omega)) (va_cwS 2 C.1.2.2.2.2 gX2_would_X2_isCell rfl rfl rfl (by decide +kernel) ⟨Nat.le_of_ble_eq_true rfl, Nat.le_of_ble_eq_true rfl⟩) rfl rfl rfl rfl rfl (by decide) rfl rfl (Nat.le_of_ble_eq_true rfl) rfl rfl ⟨Nat.le_of_ble_eq_true rfl, Nat.le_of_ble_eq_true rfl⟩ dX2_would_7 ?_
  rintro z_7 _ ⟨rfl, hz_7⟩
  refine z_ws (ws' := (mx cI h σ LI BR γ φ 0)) rfl ?_
  have r_7 : z_7 = 0 ∨ z_7 = 1 := by rw [hz_7]; exact bI_01 _
  have hz_7 : z_7 = bI (decide (0 ≤ x) && decide (x ≤ 11) && (decide (0 ≤ y) && decide (y ≤ 11))) := hz_7
  have i_7 := isC_c hz_7
  refine z_if_ne C (tgt := 19) dX2_would_10 (by decide) (by omega) (fun c_10 => ?_) (fun c_10 => ?_)
  ·
    refine z_iload_n C 3 dX2_would_19 rfl ?_
    refine z_iconst C dX2_would_20 ?_
    refine z_iconst C dX2_would_21 ?_
    refine z_callSi C (As := [vI kd, vI 0, vI 3]) (st := []) (y := yX2_isIn) (w := wsX2_isIn) (rm := rm_X2_isIn) (wr := (mx cI h σ LI BR γ φ 0)) (k' := 0) (n' := 0) [] [0, 1, 2, 3, 4, 5, 6, 7, 8] (c_X2_isIn l D cI cJ  kd 0 3 (by omega) (by omega) (by omega)) (va_cwS 3 C.1.2.2.2.2 gX2_would_X2_isIn rfl rfl rfl (by decide +kernel) ⟨Nat.le_of_ble_eq_true rfl, Nat.le_of_ble_eq_true rfl⟩) rfl rfl rfl rfl rfl (by decide) rfl rfl (Nat.le_of_ble_eq_true rfl) rfl rfl ⟨Nat.le_of_ble_eq_true rfl, Nat.le_of_ble_eq_true rfl⟩ dX2_would_22 ?_
    rintro z_22 _ ⟨rfl, hz_22⟩
    refine z_ws (ws' := (mx cI h σ LI BR γ φ 0)) rfl ?_
    have r_22 : z_22 = 0 ∨ z_22 = 1 := by rw [hz_22]; exact bI_01 _
    have hz_22 : z_22 = bI (decide (0 ≤ kd) && decide (kd ≤ 3)) := hz_22
    have i_22 := isIn_c hz_22
    refine z_if_ne C (tgt := 34) dX2_would_25 (by decide) (by omega) (fun c_25 => ?_) (fun c_25 => ?_)
    ·
      refine z_aload_n C 0 dX2_would_34 rfl ?_
      refine z_callVi C (As := []) (st := []) (y := yX2_look) (w := wsX2_look) (rm := rm_X2_look) (wr := []) (k' := 0) (n' := 0) [0, 1, 2, 3, 4, 5, 6, 7, 8] [] 0 (c_X2_look l D cI cJ h σ LI BR γ φ 0  hO hL) (cwV 0 C.1.2.2.2.2 gX2_would_X2_look rfl rfl rfl (by decide +kernel) ⟨Nat.le_of_ble_eq_true rfl, Nat.le_of_ble_eq_true rfl⟩) rfl rfl rfl rfl rfl (by decide) rfl rfl rfl rfl (Nat.le_of_ble_eq_true rfl) rfl rfl ⟨Nat.le_of_ble_eq_true rfl, Nat.le_of_ble_eq_true rfl⟩ dX2_would_35 ?_
      rintro z_35 _ ⟨φ'_35, rfl, hz_35⟩
      refine z_ws (ws' := (mx cI h σ (lkF (lgV σ) LI 144) (lkF (brV σ) BR 144) γ φ'_35 0)) rfl ?_
      have r_35 := smB_r (fun c => decide (lgV σ c ≠ 0)) 144
      rw [← hz_35] at r_35
      have hz_35 : z_35 = sm (fun c => bI (decide (lgV σ c ≠ 0))) 144 := hz_35
      refine z_istore C [(4, vI z_35), (0, .ref (h 0)), (1, vI x), (2, vI y), (3, vI kd)] dX2_would_38 (by decide) rfl ?_
      refine z_aload_n C 1 dX2_would_40 rfl ?_
      refine z_get C (v := .ref (h 1)) (ref := "ShadowWallsModel") (T := TX2) (N := 14) (ci := 2) 0 1 inU_X2_X2_would rfl rfl (by decide) (by decide +kernel) (fun _ h9 => h9) rfl dX2_would_41 ?_
      refine z_bipush C dX2_would_44 (by decide) ?_
      refine z_iload_n C 3 dX2_would_46 rfl ?_
      refine z_imul C dX2_would_47 ?_
      refine z_iload_n C 2 dX2_would_48 rfl ?_
      refine z_iadd C dX2_would_49 ?_
      refine z_iald C (cA := cI) (N := 144) (f := σ 0) 1 0 rfl rfl (by decide) (by omega) dX2_would_50 ?_
      refine z_istore C [(5, vI (σ 0 (((12 * y) + x).toNat))), (4, vI z_35), (0, .ref (h 0)), (1, vI x), (2, vI y), (3, vI kd)] dX2_would_51 (by decide) rfl ?_
      refine z_aload_n C 2 dX2_would_53 rfl ?_
      refine z_get C (v := .ref (h 1)) (ref := "ShadowWallsModel") (T := TX2) (N := 14) (ci := 2) 0 1 inU_X2_X2_would rfl rfl (by decide) (by decide +kernel) (fun _ h9 => h9) rfl dX2_would_54 ?_
      refine z_bipush C dX2_would_57 (by decide) ?_
      refine z_iload_n C 4 dX2_would_59 rfl ?_
      refine z_imul C dX2_would_60 ?_
      refine z_iload_n C 3 dX2_would_61 rfl ?_
      refine z_iadd C dX2_would_62 ?_
      refine z_iload_n C 5 dX2_would_63 rfl ?_
      refine z_iast C (cA := cI) (N := 144) (f := σ 0) (ws' := (mx cI h (sU σ 0 (((12 * y) + x).toNat) kd) (lkF (lgV σ) LI 144) (lkF (brV σ) BR 144) γ φ'_35 0)) 1 0 rfl rfl (by decide) (by omega) rfl dX2_would_64 ?_
      refine z_aload_n C 2 dX2_would_65 rfl ?_
      refine z_callVi C (As := []) (st := []) (y := yX2_look) (w := wsX2_look) (rm := rm_X2_look) (wr := []) (k' := 0) (n' := 0) [0, 1, 2, 3, 4, 5, 6, 7, 8] [] 0 (c_X2_look l D cI cJ h (sU σ 0 (((12 * y) + x).toNat) kd) (lkF (lgV σ) LI 144) (lkF (brV σ) BR 144) γ φ'_35 0  (Ok_kind hO hk) (lkL_r hO hL 144)) (cwV 0 C.1.2.2.2.2 gX2_would_X2_look rfl rfl rfl (by decide +kernel) ⟨Nat.le_of_ble_eq_true rfl, Nat.le_of_ble_eq_true rfl⟩) rfl rfl rfl rfl rfl (by decide) rfl rfl rfl rfl (Nat.le_of_ble_eq_true rfl) rfl rfl ⟨Nat.le_of_ble_eq_true rfl, Nat.le_of_ble_eq_true rfl⟩ dX2_would_66 ?_
      rintro z_66 _ ⟨φ'_66, rfl, hz_66⟩
      refine z_ws (ws' := (mx cI h ((sU σ 0 (((12 * y) + x).toNat) kd)) (lkF (lgV (sU σ 0 (((12 * y) + x).toNat) kd)) (lkF (lgV σ) LI 144) 144) (lkF (brV (sU σ 0 (((12 * y) + x).toNat) kd)) (lkF (brV σ) BR 144) 144) γ φ'_66 0)) rfl ?_
      have r_66 := smB_r (fun c => decide (lgV (sU σ 0 (((12 * y) + x).toNat) kd) c ≠ 0)) 144
      rw [← hz_66] at r_66
      have hz_66 : z_66 = sm (fun c => bI (decide (lgV (sU σ 0 (((12 * y) + x).toNat) kd) c ≠ 0))) 144 := hz_66
      refine z_istore C [(6, vI z_66), (5, vI (σ 0 (((12 * y) + x).toNat))), (4, vI z_35), (0, .ref (h 0)), (1, vI x), (2, vI y), (3, vI kd)] dX2_would_69 (by decide) rfl ?_
      refine z_aload_n C 3 dX2_would_71 rfl ?_
      refine z_get C (v := .ref (h 1)) (ref := "ShadowWallsModel") (T := TX2) (N := 14) (ci := 2) 0 1 inU_X2_X2_would rfl rfl (by decide) (by decide +kernel) (fun _ h9 => h9) rfl dX2_would_72 ?_
      refine z_bipush C dX2_would_75 (by decide) ?_
      refine z_iload_n C 5 dX2_would_77 rfl ?_
      refine z_imul C dX2_would_78 ?_
      refine z_iload_n C 4 dX2_would_79 rfl ?_
      refine z_iadd C dX2_would_80 ?_
      refine z_iload C 1 dX2_would_81 rfl ?_
      refine z_iast C (cA := cI) (N := 144) (f := (sU σ 0 (((12 * y) + x).toNat) kd) 0) (ws' := (mx cI h (sU (sU σ 0 (((12 * y) + x).toNat) kd) 0 (((12 * y) + x).toNat) (σ 0 (((12 * y) + x).toNat))) (lkF (lgV (sU σ 0 (((12 * y) + x).toNat) kd)) (lkF (lgV σ) LI 144) 144) (lkF (brV (sU σ 0 (((12 * y) + x).toNat) kd)) (lkF (brV σ) BR 144) 144) γ φ'_66 0)) 1 0 rfl rfl (by decide) (by omega) rfl dX2_would_83 ?_
      refine z_ws (ws' := (mx cI h σ (lkF (lgV (sU σ 0 (((12 * y) + x).toNat) kd)) (lkF (lgV σ) LI 144) 144) (lkF (brV (sU σ 0 (((12 * y) + x).toNat) kd)) (lkF (brV σ) BR 144) 144) γ φ'_66 0)) (by rw [sU_b]) ?_
      refine z_iload C 0 dX2_would_84 rfl ?_
      refine z_iload C 2 dX2_would_86 rfl ?_
      refine z_isub C dX2_would_88 ?_
      exact hret _ _ _ _ dX2_would_89 ⟨_, rfl, by (rw [hz_66, hz_35]; rfl)⟩
    ·
      exfalso; omega
  ·
    exfalso; omega

set_option maxHeartbeats 4000000 in
set_option maxRecDepth 100000 in
theorem b1_X2_would (l : Launch) (D : va_G) (cI cJ : ClassId) (h : Nat → Nat) (σ : YS) (LI BR : Nat → Int) (γ : YS) (φ : Nat → Int) (θ : Int) (x y kd : Int) (hr : rng x ∧ rng y ∧ rng kd) (hO : Ok σ) (hb : ¬ ((0 ≤ x ∧ x < 12) ∧ 0 ≤ y ∧ y < 12)) : Ci l yX2_would wsX2_would rm_X2_would D [(cI, .int), (cJ, .long)] [.ref (h 0), vI x, vI y, vI kd] (mx cI h σ LI BR γ φ θ) (fun z u => u = (mx cI h σ LI BR γ φ 1) ∧ z = 0) := by
  refine z_ofi (own := RX2) (cc := cX2_would) (maxL := 7) (lv := [(0, .ref (h 0)), (1, vI x), (2, vI y), (3, vI kd)]) (by decide) rfl rfl (Nat.le_of_ble_eq_true rfl) rfl ?_
  intro p e s m args below meth cd Q A C hret
  have hn := hO.1
  have hm := hO.2.1
  have en := nLa_e hO
  have em := nWa_e hO
  refine z_aload_n C 0 dX2_would_0 rfl ?_
  refine z_iconst C dX2_would_1 ?_
  refine z_put C (ref := "ShadowWallsModel") (T := TX2) (N := 14) (ci := 2) (ty := .int) (ws' := (mx cI h σ LI BR γ φ 0)) 0 0 inU_X2_X2_would tyX2 tyX2_ok nmX2 rfl rfl (by decide) (by decide +kernel) (fun _ h9 => h9) rfl (by decide +kernel) (rfl) (rfl) (Nat.le_of_ble_eq_true rfl) rfl dX2_would_2 ?_
  refine z_iload_n C 1 dX2_would_5 rfl ?_
  refine z_iload_n C 2 dX2_would_6 rfl ?_
  refine z_callSi C (As := [vI x, vI y]) (st := []) (y := yX2_isCell) (w := wsX2_isCell) (rm := rm_X2_isCell) (wr := (mx cI h σ LI BR γ φ 0)) (k' := 0) (n' := 0) [] [0, 1, 2, 3, 4, 5, 6, 7, 8] (c_X2_isCell l D cI cJ  x y (by omega) (by omega)) (va_cwS 2 C.1.2.2.2.2 gX2_would_X2_isCell rfl rfl rfl (by decide +kernel) ⟨Nat.le_of_ble_eq_true rfl, Nat.le_of_ble_eq_true rfl⟩) rfl rfl rfl rfl rfl (by decide) rfl rfl (Nat.le_of_ble_eq_true rfl) rfl rfl ⟨Nat.le_of_ble_eq_true rfl, Nat.le_of_ble_eq_true rfl⟩ dX2_would_7 ?_
  rintro z_7 _ ⟨rfl, hz_7⟩
  refine z_ws (ws' := (mx cI h σ LI BR γ φ 0)) rfl ?_
  have r_7 : z_7 = 0 ∨ z_7 = 1 := by rw [hz_7]; exact bI_01 _
  have hz_7 : z_7 = bI (decide (0 ≤ x) && decide (x ≤ 11) && (decide (0 ≤ y) && decide (y ≤ 11))) := hz_7
  have i_7 := isC_c hz_7
  refine z_if_ne C (tgt := 19) dX2_would_10 (by decide) (by omega) (fun c_10 => ?_) (fun c_10 => ?_)
  ·
    exfalso; omega
  ·
    refine z_aload_n C 0 dX2_would_13 rfl ?_
    refine z_iconst C dX2_would_14 ?_
    refine z_callVi C (As := [vI 1]) (st := []) (y := yX2_no) (w := wsX2_no) (rm := rm_X2_no) (wr := []) (k' := 0) (n' := 0) [0, 1, 2, 3, 4, 5, 6, 7, 8] [] 0 (c_X2_no l D cI cJ h σ LI BR γ φ 0 1 ) (cwV 1 C.1.2.2.2.2 gX2_would_X2_no rfl rfl rfl (by decide +kernel) ⟨Nat.le_of_ble_eq_true rfl, Nat.le_of_ble_eq_true rfl⟩) rfl rfl rfl rfl rfl (by decide) rfl rfl rfl rfl (Nat.le_of_ble_eq_true rfl) rfl rfl ⟨Nat.le_of_ble_eq_true rfl, Nat.le_of_ble_eq_true rfl⟩ dX2_would_15 ?_
    rintro z_15 _ ⟨rfl, rfl⟩
    refine z_ws (ws' := (mx cI h σ LI BR γ φ 1)) rfl ?_
    refine z_st (v' := 0) rfl ?_
    exact hret _ _ _ _ dX2_would_18 ⟨rfl, by rfl⟩

set_option maxHeartbeats 4000000 in
set_option maxRecDepth 100000 in
theorem b2_X2_would (l : Launch) (D : va_G) (cI cJ : ClassId) (h : Nat → Nat) (σ : YS) (LI BR : Nat → Int) (γ : YS) (φ : Nat → Int) (θ : Int) (x y kd : Int) (hr : rng x ∧ rng y ∧ rng kd) (hO : Ok σ) (hb : ((0 ≤ x ∧ x < 12) ∧ 0 ≤ y ∧ y < 12) ∧ ¬ (0 ≤ kd ∧ kd < 4)) : Ci l yX2_would wsX2_would rm_X2_would D [(cI, .int), (cJ, .long)] [.ref (h 0), vI x, vI y, vI kd] (mx cI h σ LI BR γ φ θ) (fun z u => u = (mx cI h σ LI BR γ φ 2) ∧ z = 0) := by
  refine z_ofi (own := RX2) (cc := cX2_would) (maxL := 7) (lv := [(0, .ref (h 0)), (1, vI x), (2, vI y), (3, vI kd)]) (by decide) rfl rfl (Nat.le_of_ble_eq_true rfl) rfl ?_
  intro p e s m args below meth cd Q A C hret
  have hn := hO.1
  have hm := hO.2.1
  have en := nLa_e hO
  have em := nWa_e hO
  refine z_aload_n C 0 dX2_would_0 rfl ?_
  refine z_iconst C dX2_would_1 ?_
  refine z_put C (ref := "ShadowWallsModel") (T := TX2) (N := 14) (ci := 2) (ty := .int) (ws' := (mx cI h σ LI BR γ φ 0)) 0 0 inU_X2_X2_would tyX2 tyX2_ok nmX2 rfl rfl (by decide) (by decide +kernel) (fun _ h9 => h9) rfl (by decide +kernel) (rfl) (rfl) (Nat.le_of_ble_eq_true rfl) rfl dX2_would_2 ?_
  refine z_iload_n C 1 dX2_would_5 rfl ?_
  refine z_iload_n C 2 dX2_would_6 rfl ?_
  refine z_callSi C (As := [vI x, vI y]) (st := []) (y := yX2_isCell) (w := wsX2_isCell) (rm := rm_X2_isCell) (wr := (mx cI h σ LI BR γ φ 0)) (k' := 0) (n' := 0) [] [0, 1, 2, 3, 4, 5, 6, 7, 8] (c_X2_isCell l D cI cJ  x y (by omega) (by omega)) (va_cwS 2 C.1.2.2.2.2 gX2_would_X2_isCell rfl rfl rfl (by decide +kernel) ⟨Nat.le_of_ble_eq_true rfl, Nat.le_of_ble_eq_true rfl⟩) rfl rfl rfl rfl rfl (by decide) rfl rfl (Nat.le_of_ble_eq_true rfl) rfl rfl ⟨Nat.le_of_ble_eq_true rfl, Nat.le_of_ble_eq_true rfl⟩ dX2_would_7 ?_
  rintro z_7 _ ⟨rfl, hz_7⟩
  refine z_ws (ws' := (mx cI h σ LI BR γ φ 0)) rfl ?_
  have r_7 : z_7 = 0 ∨ z_7 = 1 := by rw [hz_7]; exact bI_01 _
  have hz_7 : z_7 = bI (decide (0 ≤ x) && decide (x ≤ 11) && (decide (0 ≤ y) && decide (y ≤ 11))) := hz_7
  have i_7 := isC_c hz_7
  refine z_if_ne C (tgt := 19) dX2_would_10 (by decide) (by omega) (fun c_10 => ?_) (fun c_10 => ?_)
  ·
    refine z_iload_n C 3 dX2_would_19 rfl ?_
    refine z_iconst C dX2_would_20 ?_
    refine z_iconst C dX2_would_21 ?_
    refine z_callSi C (As := [vI kd, vI 0, vI 3]) (st := []) (y := yX2_isIn) (w := wsX2_isIn) (rm := rm_X2_isIn) (wr := (mx cI h σ LI BR γ φ 0)) (k' := 0) (n' := 0) [] [0, 1, 2, 3, 4, 5, 6, 7, 8] (c_X2_isIn l D cI cJ  kd 0 3 (by omega) (by omega) (by omega)) (va_cwS 3 C.1.2.2.2.2 gX2_would_X2_isIn rfl rfl rfl (by decide +kernel) ⟨Nat.le_of_ble_eq_true rfl, Nat.le_of_ble_eq_true rfl⟩) rfl rfl rfl rfl rfl (by decide) rfl rfl (Nat.le_of_ble_eq_true rfl) rfl rfl ⟨Nat.le_of_ble_eq_true rfl, Nat.le_of_ble_eq_true rfl⟩ dX2_would_22 ?_
    rintro z_22 _ ⟨rfl, hz_22⟩
    refine z_ws (ws' := (mx cI h σ LI BR γ φ 0)) rfl ?_
    have r_22 : z_22 = 0 ∨ z_22 = 1 := by rw [hz_22]; exact bI_01 _
    have hz_22 : z_22 = bI (decide (0 ≤ kd) && decide (kd ≤ 3)) := hz_22
    have i_22 := isIn_c hz_22
    refine z_if_ne C (tgt := 34) dX2_would_25 (by decide) (by omega) (fun c_25 => ?_) (fun c_25 => ?_)
    ·
      exfalso; omega
    ·
      refine z_aload_n C 0 dX2_would_28 rfl ?_
      refine z_iconst C dX2_would_29 ?_
      refine z_callVi C (As := [vI 2]) (st := []) (y := yX2_no) (w := wsX2_no) (rm := rm_X2_no) (wr := []) (k' := 0) (n' := 0) [0, 1, 2, 3, 4, 5, 6, 7, 8] [] 0 (c_X2_no l D cI cJ h σ LI BR γ φ 0 2 ) (cwV 1 C.1.2.2.2.2 gX2_would_X2_no rfl rfl rfl (by decide +kernel) ⟨Nat.le_of_ble_eq_true rfl, Nat.le_of_ble_eq_true rfl⟩) rfl rfl rfl rfl rfl (by decide) rfl rfl rfl rfl (Nat.le_of_ble_eq_true rfl) rfl rfl ⟨Nat.le_of_ble_eq_true rfl, Nat.le_of_ble_eq_true rfl⟩ dX2_would_30 ?_
      rintro z_30 _ ⟨rfl, rfl⟩
      refine z_ws (ws' := (mx cI h σ LI BR γ φ 2)) rfl ?_
      refine z_st (v' := 0) rfl ?_
      exact hret _ _ _ _ dX2_would_33 ⟨rfl, by rfl⟩
  ·
    exfalso; omega

set_option maxRecDepth 100000 in
theorem inU_X2_X2_advise : ∀ w ∈ u_ws RX2 TX2 14, w ∈ wsX2_advise := by decide +kernel
abbrev rm_X2_advise : Room := { frames := 5, cells := 0, slots := 0, locals := 124 }
set_option maxHeartbeats 4000000 in
set_option maxRecDepth 100000 in
theorem b1_X2_advise (l : Launch) (D : va_G) (cI cJ : ClassId) (h : Nat → Nat) (σ : YS) (LI BR : Nat → Int) (γ : YS) (φ : Nat → Int) (θ : Int) (k : Int) (hr : rng k) (hO : Ok σ) (hb : ¬ (0 ≤ k ∧ k < σ 4 0)) : Ci l yX2_advise wsX2_advise rm_X2_advise D [(cI, .int), (cJ, .long)] [.ref (h 0), vI k] (mx cI h σ LI BR γ φ θ) (fun z u => u = (mx cI h σ LI BR γ φ 1) ∧ z = 0) := by
  refine z_ofi (own := RX2) (cc := cX2_advise) (maxL := 12) (lv := [(0, .ref (h 0)), (1, vI k)]) (by decide) rfl rfl (Nat.le_of_ble_eq_true rfl) rfl ?_
  intro p e s m args below meth cd Q A C hret
  have hn := hO.1
  have hm := hO.2.1
  have en := nLa_e hO
  have em := nWa_e hO
  refine z_aload_n C 0 dX2_advise_0 rfl ?_
  refine z_iconst C dX2_advise_1 ?_
  refine z_put C (ref := "ShadowWallsModel") (T := TX2) (N := 14) (ci := 2) (ty := .int) (ws' := (mx cI h σ LI BR γ φ 0)) 0 0 inU_X2_X2_advise tyX2 tyX2_ok nmX2 rfl rfl (by decide) (by decide +kernel) (fun _ h9 => h9) rfl (by decide +kernel) (rfl) (rfl) (Nat.le_of_ble_eq_true rfl) rfl dX2_advise_2 ?_
  refine z_aload_n C 0 dX2_advise_5 rfl ?_
  refine z_iload_n C 1 dX2_advise_6 rfl ?_
  refine z_callVi C (As := [vI k]) (st := []) (y := yX2_isLamp) (w := wsX2_isLamp) (rm := rm_X2_isLamp) (wr := []) (k' := 0) (n' := 0) [0, 1, 2, 3, 4, 5, 6, 7, 8] [] 0 (c_X2_isLamp l D cI cJ h σ LI BR γ φ 0 k (by omega) hO) (cwV 1 C.1.2.2.2.2 gX2_advise_X2_isLamp rfl rfl rfl (by decide +kernel) ⟨Nat.le_of_ble_eq_true rfl, Nat.le_of_ble_eq_true rfl⟩) rfl rfl rfl rfl rfl (by decide) rfl rfl rfl rfl (Nat.le_of_ble_eq_true rfl) rfl rfl ⟨Nat.le_of_ble_eq_true rfl, Nat.le_of_ble_eq_true rfl⟩ dX2_advise_7 ?_
  rintro z_7 _ ⟨rfl, hz_7⟩
  refine z_ws (ws' := (mx cI h σ LI BR γ φ 0)) rfl ?_
  have r_7 : z_7 = 0 ∨ z_7 = 1 := by rw [hz_7]; exact bI_01 _
  have hz_7 : z_7 = bI (decide (0 ≤ k) && decide (k ≤ σ 4 0 - 1)) := hz_7
  have i_7 := isIn_c hz_7
  refine z_if_ne C (tgt := 19) dX2_advise_10 (by decide) (by omega) (fun c_10 => ?_) (fun c_10 => ?_)
  ·
    exfalso; omega
  ·
    refine z_aload_n C 0 dX2_advise_13 rfl ?_
    refine z_iconst C dX2_advise_14 ?_
    refine z_callVi C (As := [vI 1]) (st := []) (y := yX2_no) (w := wsX2_no) (rm := rm_X2_no) (wr := []) (k' := 0) (n' := 0) [0, 1, 2, 3, 4, 5, 6, 7, 8] [] 0 (c_X2_no l D cI cJ h σ LI BR γ φ 0 1 ) (cwV 1 C.1.2.2.2.2 gX2_advise_X2_no rfl rfl rfl (by decide +kernel) ⟨Nat.le_of_ble_eq_true rfl, Nat.le_of_ble_eq_true rfl⟩) rfl rfl rfl rfl rfl (by decide) rfl rfl rfl rfl (Nat.le_of_ble_eq_true rfl) rfl rfl ⟨Nat.le_of_ble_eq_true rfl, Nat.le_of_ble_eq_true rfl⟩ dX2_advise_15 ?_
    rintro z_15 _ ⟨rfl, rfl⟩
    refine z_ws (ws' := (mx cI h σ LI BR γ φ 1)) rfl ?_
    refine z_st (v' := 0) rfl ?_
    exact hret _ _ _ _ dX2_advise_18 ⟨rfl, by rfl⟩

set_option maxRecDepth 100000 in
theorem inU_X2_X2_rank : ∀ w ∈ u_ws RX2 TX2 14, w ∈ wsX2_rank := by decide +kernel
abbrev rm_X2_rank : Room := { frames := 0, cells := 0, slots := 0, locals := 0 }
set_option maxHeartbeats 4000000 in
set_option maxRecDepth 100000 in
theorem c_X2_rank (l : Launch) (D : va_G) (cI cJ : ClassId) (h : Nat → Nat) (σ : YS) (LI BR : Nat → Int) (γ : YS) (φ : Nat → Int) (θ : Int) (c : Int) (hc : 0 ≤ c ∧ c < 144) (hL : LI4 LI) (hB : BR9 BR) : Ci l yX2_rank wsX2_rank rm_X2_rank D [(cI, .int), (cJ, .long)] [.ref (h 0), vI c] (mx cI h σ LI BR γ φ θ) (fun z u => u = (mx cI h σ LI BR γ φ θ) ∧ z = rkM LI BR c.toNat) := by
  refine z_ofi (own := RX2) (cc := cX2_rank) (maxL := 2) (lv := [(0, .ref (h 0)), (1, vI c)]) (by decide) rfl rfl (Nat.le_of_ble_eq_true rfl) rfl ?_
  intro p e s m args below meth cd Q A C hret
  have r_L := hL c.toNat
  refine z_aload_n C 0 dX2_rank_0 rfl ?_
  refine z_get C (v := .ref (h 5)) (ref := "ShadowWallsModel") (T := TX2) (N := 14) (ci := 2) 0 8 inU_X2_X2_rank rfl rfl (by decide) (by decide +kernel) (fun _ h9 => h9) rfl dX2_rank_1 ?_
  refine z_iload_n C 1 dX2_rank_4 rfl ?_
  refine z_iald C (cA := cI) (N := 144) (f := LI) 5 0 rfl rfl (by decide) (by omega) dX2_rank_5 ?_
  refine z_if_ne C (tgt := 13) dX2_rank_6 (by decide) (by omega) (fun c_6 => ?_) (fun c_6 => ?_)
  ·
    refine z_aload_n C 0 dX2_rank_13 rfl ?_
    refine z_get C (v := .ref (h 6)) (ref := "ShadowWallsModel") (T := TX2) (N := 14) (ci := 2) 0 9 inU_X2_X2_rank rfl rfl (by decide) (by decide +kernel) (fun _ h9 => h9) rfl dX2_rank_14 ?_
    refine z_iload_n C 1 dX2_rank_17 rfl ?_
    refine z_iald C (cA := cI) (N := 144) (f := BR) 6 0 rfl rfl (by decide) (by omega) dX2_rank_18 ?_
    exact hret _ _ _ _ dX2_rank_19 ⟨rfl, by (unfold rkM; (repeat' split) <;> first | (exfalso; omega) | rfl)⟩
  ·
    refine z_iconst C dX2_rank_9 ?_
    refine z_goto C (tgt := 19) dX2_rank_10 (by decide) ?_
    exact hret _ _ _ _ dX2_rank_19 ⟨rfl, by (unfold rkM; (repeat' split) <;> first | (exfalso; omega) | rfl)⟩

set_option maxRecDepth 100000 in
theorem inU_X2_X2_darkest : ∀ w ∈ u_ws RX2 TX2 14, w ∈ wsX2_darkest := by decide +kernel
abbrev rm_X2_darkest : Room := { frames := 5, cells := 0, slots := 0, locals := 124 }
set_option maxHeartbeats 4000000 in
set_option maxRecDepth 100000 in
theorem c_X2_darkest (l : Launch) (D : va_G) (cI cJ : ClassId) (h : Nat → Nat) (σ : YS) (LI BR : Nat → Int) (γ : YS) (φ : Nat → Int) (θ : Int)  (hO : Ok σ) (hL : LI4 LI) (hB : BR9 BR) : Ci l yX2_darkest wsX2_darkest rm_X2_darkest D [(cI, .int), (cJ, .long)] [.ref (h 0)] (mx cI h σ LI BR γ φ θ) (fun z u => ∃ φ' : Nat → Int, u = (mx cI h σ (lkF (lgV σ) LI 144) (lkF (brV σ) BR 144) γ φ' 0) ∧ z = dkM σ (lkF (lgV σ) LI 144) (lkF (brV σ) BR 144) 144) := by
  refine z_ofi (own := RX2) (cc := cX2_darkest) (maxL := 3) (lv := [(0, .ref (h 0))]) (by decide) rfl rfl (Nat.le_of_ble_eq_true rfl) rfl ?_
  intro p e s m args below meth cd Q A C hret
  have hn := hO.1
  have hm := hO.2.1
  have en := nLa_e hO
  have em := nWa_e hO
  refine z_aload_n C 0 dX2_darkest_0 rfl ?_
  refine z_iconst C dX2_darkest_1 ?_
  refine z_put C (ref := "ShadowWallsModel") (T := TX2) (N := 14) (ci := 2) (ty := .int) (ws' := (mx cI h σ LI BR γ φ 0)) 0 0 inU_X2_X2_darkest tyX2 tyX2_ok nmX2 rfl rfl (by decide) (by decide +kernel) (fun _ h9 => h9) rfl (by decide +kernel) (rfl) (rfl) (Nat.le_of_ble_eq_true rfl) rfl dX2_darkest_2 ?_
  refine z_aload_n C 0 dX2_darkest_5 rfl ?_
  refine z_callVi C (As := []) (st := []) (y := yX2_look) (w := wsX2_look) (rm := rm_X2_look) (wr := []) (k' := 0) (n' := 0) [0, 1, 2, 3, 4, 5, 6, 7, 8] [] 0 (c_X2_look l D cI cJ h σ LI BR γ φ 0  hO hL) (cwV 0 C.1.2.2.2.2 gX2_darkest_X2_look rfl rfl rfl (by decide +kernel) ⟨Nat.le_of_ble_eq_true rfl, Nat.le_of_ble_eq_true rfl⟩) rfl rfl rfl rfl rfl (by decide) rfl rfl rfl rfl (Nat.le_of_ble_eq_true rfl) rfl rfl ⟨Nat.le_of_ble_eq_true rfl, Nat.le_of_ble_eq_true rfl⟩ dX2_darkest_6 ?_
  rintro z_6 _ ⟨φ'_6, rfl, hz_6⟩
  refine z_ws (ws' := (mx cI h σ (lkF (lgV σ) LI 144) (lkF (brV σ) BR 144) γ φ'_6 0)) rfl ?_
  have r_6 := smB_r (fun c => decide (lgV σ c ≠ 0)) 144
  rw [← hz_6] at r_6
  have hz_6 : z_6 = sm (fun c => bI (decide (lgV σ c ≠ 0))) 144 := hz_6
  refine z_pop C dX2_darkest_9 rfl ?_
  refine z_iconst C dX2_darkest_10 ?_
  refine z_istore_n C [(1, vI (-1)), (0, .ref (h 0))] dX2_darkest_11 (by decide) rfl ?_
  refine z_iconst C dX2_darkest_12 ?_
  refine z_istore_n C [(2, vI 0), (1, vI (-1)), (0, .ref (h 0))] dX2_darkest_13 (by decide) rfl ?_
  have L_14 : ∀ (d9 i : Nat) (hi : i ≤ 144) (hd : 145 ≤ i + d9), Zs p l e rm_X2_darkest s m args below meth cd Q A D 3 14 [(0, .ref (h 0)), (1, vI (dkM σ (lkF (lgV σ) LI 144) (lkF (brV σ) BR 144) i)), (2, vI (i : Int))] [] (mx cI h σ (lkF (lgV σ) LI 144) (lkF (brV σ) BR 144) γ φ'_6 0) 0 0 := by
    intro d9
    induction d9 with
    | zero =>
      intro i hi hd
      exfalso; omega
    | succ d9 ih9 =>
      intro i hi hd
      have hr := dkM_r σ (lkF (lgV σ) LI 144) (lkF (brV σ) BR 144) i hi
      refine z_iload_n C 2 dX2_darkest_14 rfl ?_
      refine z_sipush C dX2_darkest_15 (by decide) ?_
      refine z_icmp_ge C (tgt := 56) dX2_darkest_18 (by decide) (by omega) (by omega) (fun c_18 => ?_) (fun c_18 => ?_)
      ·
        obtain rfl : i = 144 := by omega
        refine z_iload_n C 1 dX2_darkest_56 rfl ?_
        exact hret _ _ _ _ dX2_darkest_57 ⟨_, rfl, by rfl⟩
      ·
        have rk := hO.2.2.2.2 i
        refine z_aload_n C 0 dX2_darkest_21 rfl ?_
        refine z_get C (v := .ref (h 1)) (ref := "ShadowWallsModel") (T := TX2) (N := 14) (ci := 2) 0 1 inU_X2_X2_darkest rfl rfl (by decide) (by decide +kernel) (fun _ h9 => h9) rfl dX2_darkest_22 ?_
        refine z_iload_n C 2 dX2_darkest_25 rfl ?_
        refine z_iald C (cA := cI) (N := 144) (f := σ 0) 1 0 rfl rfl (by decide) (by omega) dX2_darkest_26 ?_
        refine z_st (v' := σ 0 i) rfl ?_
        refine z_if_ne C (tgt := 50) dX2_darkest_27 (by decide) (by omega) (fun c_27 => ?_) (fun c_27 => ?_)
        ·
          refine z_iinc C 2 [(2, vI ((i : Int) + 1)), (0, .ref (h 0)), (1, vI (dkM σ (lkF (lgV σ) LI 144) (lkF (brV σ) BR 144) i))] dX2_darkest_50 rfl (by decide) rfl ?_
          refine z_goto C (tgt := 14) dX2_darkest_53 (by decide) ?_
          refine z_chg 2 (x' := dkM σ (lkF (lgV σ) LI 144) (lkF (brV σ) BR 144) (i + 1)) (lv' := [(2, vI ((i : Int) + 1)), (0, .ref (h 0)), (1, vI (dkM σ (lkF (lgV σ) LI 144) (lkF (brV σ) BR 144) (i + 1)))]) rfl (by first | exact dm_n c_27 | exact dm_0 (by omega) c_32 | exact dm_t (by omega) (by omega) | exact dm_f c_32 (by omega)) rfl ?_
          refine z_chg 0 (x' := ((i + 1 : Nat) : Int)) (lv' := [(2, vI ((i + 1 : Nat) : Int)), (0, .ref (h 0)), (1, vI (dkM σ (lkF (lgV σ) LI 144) (lkF (brV σ) BR 144) (i + 1)))]) rfl (by omega) rfl ?_
          refine z_sub (lv' := [(0, .ref (h 0)), (1, vI (dkM σ (lkF (lgV σ) LI 144) (lkF (brV σ) BR 144) (i + 1))), (2, vI ((i + 1 : Nat) : Int))]) [1, 2, 0] rfl ?_
          exact ih9 (i + 1) (by omega) (by omega)
        ·
          refine z_iload_n C 1 dX2_darkest_30 rfl ?_
          refine z_iconst C dX2_darkest_31 ?_
          refine z_icmp_eq C (tgt := 48) dX2_darkest_32 (by decide) (by omega) (by omega) (fun c_32 => ?_) (fun c_32 => ?_)
          ·
            refine z_iload_n C 2 dX2_darkest_48 rfl ?_
            refine z_istore_n C [(1, vI (i : Int)), (0, .ref (h 0)), (2, vI (i : Int))] dX2_darkest_49 (by decide) rfl ?_
            refine z_iinc C 2 [(2, vI ((i : Int) + 1)), (1, vI (i : Int)), (0, .ref (h 0))] dX2_darkest_50 rfl (by decide) rfl ?_
            refine z_goto C (tgt := 14) dX2_darkest_53 (by decide) ?_
            refine z_chg 1 (x' := dkM σ (lkF (lgV σ) LI 144) (lkF (brV σ) BR 144) (i + 1)) (lv' := [(2, vI ((i : Int) + 1)), (1, vI (dkM σ (lkF (lgV σ) LI 144) (lkF (brV σ) BR 144) (i + 1))), (0, .ref (h 0))]) rfl (by first | exact dm_n c_27 | exact dm_0 (by omega) c_32 | exact dm_t (by omega) (by omega) | exact dm_f c_32 (by omega)) rfl ?_
            refine z_chg 0 (x' := ((i + 1 : Nat) : Int)) (lv' := [(2, vI ((i + 1 : Nat) : Int)), (1, vI (dkM σ (lkF (lgV σ) LI 144) (lkF (brV σ) BR 144) (i + 1))), (0, .ref (h 0))]) rfl (by omega) rfl ?_
            refine z_sub (lv' := [(0, .ref (h 0)), (1, vI (dkM σ (lkF (lgV σ) LI 144) (lkF (brV σ) BR 144) (i + 1))), (2, vI ((i + 1 : Nat) : Int))]) [2, 1, 0] rfl ?_
            exact ih9 (i + 1) (by omega) (by omega)
          ·
            refine z_aload_n C 0 dX2_darkest_35 rfl ?_
            refine z_iload_n C 2 dX2_darkest_36 rfl ?_
            refine z_callVi C (As := [vI (i : Int)]) (st := []) (y := yX2_rank) (w := wsX2_rank) (rm := rm_X2_rank) (wr := []) (k' := 0) (n' := 0) [0, 1, 2, 3, 4, 5, 6, 7, 8] [] 0 (c_X2_rank l D cI cJ h σ (lkF (lgV σ) LI 144) (lkF (brV σ) BR 144) γ φ'_6 0 (i : Int) (by omega) (lkL_r hO hL 144) (lkB_r hO hB (Nat.le_refl _))) (cwV 1 C.1.2.2.2.2 gX2_darkest_X2_rank rfl rfl rfl (by decide +kernel) ⟨Nat.le_of_ble_eq_true rfl, Nat.le_of_ble_eq_true rfl⟩) rfl rfl rfl rfl rfl (by decide) rfl rfl rfl rfl (Nat.le_of_ble_eq_true rfl) rfl rfl ⟨Nat.le_of_ble_eq_true rfl, Nat.le_of_ble_eq_true rfl⟩ dX2_darkest_37 ?_
            rintro z_37 _ ⟨rfl, hz_37⟩
            refine z_ws (ws' := (mx cI h σ ((lkF (lgV σ) LI 144)) ((lkF (brV σ) BR 144)) γ φ'_6 0)) rfl ?_
            have r_37 : -100 ≤ z_37 ∧ z_37 ≤ 100 := by rw [hz_37]; first | exact rkM_r hB _ | exact rkM_r (lkB_r hO hB (Nat.le_refl _)) _
            have hz_37 : z_37 = rkM (lkF (lgV σ) LI 144) (lkF (brV σ) BR 144) i := hz_37
            refine z_aload_n C 0 dX2_darkest_40 rfl ?_
            refine z_iload_n C 1 dX2_darkest_41 rfl ?_
            refine z_callVi C (As := [vI (dkM σ (lkF (lgV σ) LI 144) (lkF (brV σ) BR 144) i)]) (st := [vI z_37]) (y := yX2_rank) (w := wsX2_rank) (rm := rm_X2_rank) (wr := []) (k' := 0) (n' := 0) [0, 1, 2, 3, 4, 5, 6, 7, 8] [] 0 (c_X2_rank l D cI cJ h σ (lkF (lgV σ) LI 144) (lkF (brV σ) BR 144) γ φ'_6 0 (dkM σ (lkF (lgV σ) LI 144) (lkF (brV σ) BR 144) i) (by omega) (lkL_r hO hL 144) (lkB_r hO hB (Nat.le_refl _))) (cwV 1 C.1.2.2.2.2 gX2_darkest_X2_rank rfl rfl rfl (by decide +kernel) ⟨Nat.le_of_ble_eq_true rfl, Nat.le_of_ble_eq_true rfl⟩) rfl rfl rfl rfl rfl (by decide) rfl rfl rfl rfl (Nat.le_of_ble_eq_true rfl) rfl rfl ⟨Nat.le_of_ble_eq_true rfl, Nat.le_of_ble_eq_true rfl⟩ dX2_darkest_42 ?_
            rintro z_42 _ ⟨rfl, hz_42⟩
            refine z_ws (ws' := (mx cI h σ ((lkF (lgV σ) LI 144)) ((lkF (brV σ) BR 144)) γ φ'_6 0)) rfl ?_
            have r_42 : -100 ≤ z_42 ∧ z_42 ≤ 100 := by rw [hz_42]; first | exact rkM_r hB _ | exact rkM_r (lkB_r hO hB (Nat.le_refl _)) _
            have hz_42 : z_42 = rkM (lkF (lgV σ) LI 144) (lkF (brV σ) BR 144) (dkM σ (lkF (lgV σ) LI 144) (lkF (brV σ) BR 144) i).toNat := hz_42
            refine z_icmp_ge C (tgt := 50) dX2_darkest_45 (by decide) (by omega) (by omega) (fun c_45 => ?_) (fun c_45 => ?_)
            ·
              refine z_iinc C 2 [(2, vI ((i : Int) + 1)), (0, .ref (h 0)), (1, vI (dkM σ (lkF (lgV σ) LI 144) (lkF (brV σ) BR 144) i))] dX2_darkest_50 rfl (by decide) rfl ?_
              refine z_goto C (tgt := 14) dX2_darkest_53 (by decide) ?_
              refine z_chg 2 (x' := dkM σ (lkF (lgV σ) LI 144) (lkF (brV σ) BR 144) (i + 1)) (lv' := [(2, vI ((i : Int) + 1)), (0, .ref (h 0)), (1, vI (dkM σ (lkF (lgV σ) LI 144) (lkF (brV σ) BR 144) (i + 1)))]) rfl (by first | exact dm_n c_27 | exact dm_0 (by omega) c_32 | exact dm_t (by omega) (by omega) | exact dm_f c_32 (by omega)) rfl ?_
              refine z_chg 0 (x' := ((i + 1 : Nat) : Int)) (lv' := [(2, vI ((i + 1 : Nat) : Int)), (0, .ref (h 0)), (1, vI (dkM σ (lkF (lgV σ) LI 144) (lkF (brV σ) BR 144) (i + 1)))]) rfl (by omega) rfl ?_
              refine z_sub (lv' := [(0, .ref (h 0)), (1, vI (dkM σ (lkF (lgV σ) LI 144) (lkF (brV σ) BR 144) (i + 1))), (2, vI ((i + 1 : Nat) : Int))]) [1, 2, 0] rfl ?_
              exact ih9 (i + 1) (by omega) (by omega)
            ·
              refine z_iload_n C 2 dX2_darkest_48 rfl ?_
              refine z_istore_n C [(1, vI (i : Int)), (0, .ref (h 0)), (2, vI (i : Int))] dX2_darkest_49 (by decide) rfl ?_
              refine z_iinc C 2 [(2, vI ((i : Int) + 1)), (1, vI (i : Int)), (0, .ref (h 0))] dX2_darkest_50 rfl (by decide) rfl ?_
              refine z_goto C (tgt := 14) dX2_darkest_53 (by decide) ?_
              refine z_chg 1 (x' := dkM σ (lkF (lgV σ) LI 144) (lkF (brV σ) BR 144) (i + 1)) (lv' := [(2, vI ((i : Int) + 1)), (1, vI (dkM σ (lkF (lgV σ) LI 144) (lkF (brV σ) BR 144) (i + 1))), (0, .ref (h 0))]) rfl (by first | exact dm_n c_27 | exact dm_0 (by omega) c_32 | exact dm_t (by omega) (by omega) | exact dm_f c_32 (by omega)) rfl ?_
              refine z_chg 0 (x' := ((i + 1 : Nat) : Int)) (lv' := [(2, vI ((i + 1 : Nat) : Int)), (1, vI (dkM σ (lkF (lgV σ) LI 144) (lkF (brV σ) BR 144) (i + 1))), (0, .ref (h 0))]) rfl (by omega) rfl ?_
              refine z_sub (lv' := [(0, .ref (h 0)), (1, vI (dkM σ (lkF (lgV σ) LI 144) (lkF (brV σ) BR 144) (i + 1))), (2, vI ((i + 1 : Nat) : Int))]) [2, 1, 0] rfl ?_
              exact ih9 (i + 1) (by omega) (by omega)
  refine z_sub (lv' := [(0, .ref (h 0)), (1, vI (-1)), (2, vI 0)]) [2, 1, 0] rfl ?_
  exact L_14 145 0 (by omega) (by omega)

set_option maxRecDepth 100000 in
theorem inU_X2_X2_thrown : ∀ w ∈ u_ws RX2 TX2 14, w ∈ wsX2_thrown := by decide +kernel
abbrev rm_X2_thrown : Room := { frames := 0, cells := 0, slots := 0, locals := 0 }
set_option maxHeartbeats 4000000 in
set_option maxRecDepth 100000 in
theorem c_X2_thrown (l : Launch) (D : va_G) (cI cJ : ClassId) (h : Nat → Nat) (σ : YS) (LI BR : Nat → Int) (γ : YS) (φ : Nat → Int) (θ : Int)   : Ci l yX2_thrown wsX2_thrown rm_X2_thrown D [(cI, .int), (cJ, .long)] [.ref (h 0)] (mx cI h σ LI BR γ φ θ) (fun z u => u = (mx cI h σ LI BR γ φ θ) ∧ z = θ) := by
  refine z_ofi (own := RX2) (cc := cX2_thrown) (maxL := 1) (lv := [(0, .ref (h 0))]) (by decide) rfl rfl (Nat.le_of_ble_eq_true rfl) rfl ?_
  intro p e s m args below meth cd Q A C hret
  refine z_aload_n C 0 dX2_thrown_0 rfl ?_
  refine z_get C (v := vI θ) (ref := "ShadowWallsModel") (T := TX2) (N := 14) (ci := 2) 0 0 inU_X2_X2_thrown rfl rfl (by decide) (by decide +kernel) (fun _ h9 => h9) rfl dX2_thrown_1 ?_
  exact hret _ _ _ _ dX2_thrown_4 ⟨rfl, by rfl⟩
