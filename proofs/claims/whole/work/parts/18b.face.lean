theorem dk_n {σ : YS} {LT : Nat → Int} {i : Nat} (h : σ 0 i ≠ 0) : dkS σ LT i = dkS σ LT (i + 1) := by
  simp only [dkS]; rw [if_neg (fun q => h q.1)]
theorem dk_0 {σ : YS} {LT : Nat → Int} {i : Nat} (h : σ 0 i = 0) (c : dkS σ LT i = -1) : (i : Int) = dkS σ LT (i + 1) := by
  simp only [dkS]; rw [if_pos ⟨h, Or.inl c⟩]
theorem dk_t {σ : YS} {LT : Nat → Int} {i : Nat} {z : Int} (h : σ 0 i = 0) (hz : z = bI (drk σ LT i (dkS σ LT i).toNat)) (c : ¬ z = 0) : (i : Int) = dkS σ LT (i + 1) := by
  simp only [dkS]; rw [if_pos ⟨h, Or.inr (bz_t hz c)⟩]
theorem dk_f {σ : YS} {LT : Nat → Int} {i : Nat} {z : Int} (h : σ 0 i = 0) (c1 : ¬ dkS σ LT i = -1) (hz : z = bI (drk σ LT i (dkS σ LT i).toNat)) (c : z = 0) : dkS σ LT i = dkS σ LT (i + 1) := by
  simp only [dkS]; rw [if_neg (fun q => q.2.elim c1 (fun r => by rw [bz_f hz c] at r; cases r))]
abbrev rm_X1_set : Room := { frames := 7, cells := 0, slots := 0, locals := 140 }
set_option maxHeartbeats 4000000 in
set_option maxRecDepth 100000 in
theorem c_X1_set (l : Launch) (D : va_G) (cI cJ : ClassId) (h : Nat → Nat) (σ : YS) (LT : Nat → Int) (γ : YS) (φ : Nat → Int) (x y kd : Int) (hx : 0 ≤ x ∧ x < 12) (hy : 0 ≤ y ∧ y < 12) (hk : 0 ≤ kd ∧ kd < 4) (hO : Ok σ) (hL : LR LT) : Ci l yX1_set wsX1_set rm_X1_set D [(cI, .int), (cJ, .long)] [.ref (h 0), vI x, vI y, vI kd] (cw cI h σ LT γ φ) (fun z u => ∃ φ' : Nat → Int, u = (cw cI h (sU σ 0 (12 * y + x).toNat kd) (shA (sU σ 0 (12 * y + x).toNat kd) LT (nLa (sU σ 0 (12 * y + x).toNat kd))) γ φ') ∧ z = σ 0 (12 * y + x).toNat) := by
  refine z_ofi (own := RX1) (cc := cX1_set) (maxL := 6) (lv := [(0, .ref (h 0)), (1, vI x), (2, vI y), (3, vI kd)]) (by decide) rfl rfl (Nat.le_of_ble_eq_true rfl) rfl ?_
  intro p e s m args below meth cd Q A C hret
  have hn := hO.1
  have hm := hO.2.1
  have en := nLa_e hO
  have em := nWa_e hO
  have hcc : 0 ≤ 12 * y + x ∧ 12 * y + x < 144 := by omega
  have ecc : (((12 * y + x).toNat : Nat) : Int) = 12 * y + x := Int.toNat_of_nonneg hcc.1
  refine z_iload_n C 1 dX1_set_0 rfl ?_
  refine z_iload_n C 2 dX1_set_1 rfl ?_
  refine z_callSv C (As := [vI x, vI y]) (st := []) (y := yX1_requirePlace) (w := wsX1_requirePlace) (rm := rm_X1_requirePlace) (wr := (cw cI h σ LT γ φ)) (k' := 0) (n' := 0) [] [0, 1, 2, 3, 4, 5, 6, 7, 8] (c_X1_requirePlace l D cI cJ  x y (by omega)) (va_cwS 2 C.1.2.2.2.2 gX1_set_X1_requirePlace rfl rfl rfl (by decide +kernel) ⟨Nat.le_of_ble_eq_true rfl, Nat.le_of_ble_eq_true rfl⟩) rfl rfl rfl rfl rfl (by decide) rfl rfl (Nat.le_of_ble_eq_true rfl) rfl rfl ⟨Nat.le_of_ble_eq_true rfl, Nat.le_of_ble_eq_true rfl⟩ dX1_set_2 ?_
  rintro _ rfl
  refine z_ws (ws' := (cw cI h σ LT γ φ)) rfl ?_
  refine z_iload_n C 3 dX1_set_5 rfl ?_
  refine z_callSv C (As := [vI kd]) (st := []) (y := yX1_requireKind) (w := wsX1_requireKind) (rm := rm_X1_requireKind) (wr := (cw cI h σ LT γ φ)) (k' := 0) (n' := 0) [] [0, 1, 2, 3, 4, 5, 6, 7, 8] (c_X1_requireKind l D cI cJ  kd (by omega)) (va_cwS 1 C.1.2.2.2.2 gX1_set_X1_requireKind rfl rfl rfl (by decide +kernel) ⟨Nat.le_of_ble_eq_true rfl, Nat.le_of_ble_eq_true rfl⟩) rfl rfl rfl rfl rfl (by decide) rfl rfl (Nat.le_of_ble_eq_true rfl) rfl rfl ⟨Nat.le_of_ble_eq_true rfl, Nat.le_of_ble_eq_true rfl⟩ dX1_set_6 ?_
  rintro _ rfl
  refine z_ws (ws' := (cw cI h σ LT γ φ)) rfl ?_
  refine z_iload_n C 1 dX1_set_9 rfl ?_
  refine z_iload_n C 2 dX1_set_10 rfl ?_
  refine z_callSi C (As := [vI x, vI y]) (st := []) (y := yX1_cellAt) (w := wsX1_cellAt) (rm := rm_X1_cellAt) (wr := (cw cI h σ LT γ φ)) (k' := 0) (n' := 0) [] [0, 1, 2, 3, 4, 5, 6, 7, 8] (c_X1_cellAt l D cI cJ  x y ) (va_cwS 2 C.1.2.2.2.2 gX1_set_X1_cellAt rfl rfl rfl (by decide +kernel) ⟨Nat.le_of_ble_eq_true rfl, Nat.le_of_ble_eq_true rfl⟩) rfl rfl rfl rfl rfl (by decide) rfl rfl (Nat.le_of_ble_eq_true rfl) rfl rfl ⟨Nat.le_of_ble_eq_true rfl, Nat.le_of_ble_eq_true rfl⟩ dX1_set_11 ?_
  rintro z_11 _ ⟨rfl, rfl⟩
  refine z_ws (ws' := (cw cI h σ LT γ φ)) rfl ?_
  refine z_st (v' := (12 * y + x)) rfl ?_
  refine z_istore C [(4, vI (12 * y + x)), (0, .ref (h 0)), (1, vI x), (2, vI y), (3, vI kd)] dX1_set_14 (by decide) rfl ?_
  refine z_aload_n C 1 dX1_set_16 rfl ?_
  refine z_iload C 0 dX1_set_17 rfl ?_
  refine z_callVi C (As := [vI (12 * y + x)]) (st := []) (y := yX1_kindOf) (w := wsX1_kindOf) (rm := rm_X1_kindOf) (wr := []) (k' := 0) (n' := 0) [0, 1, 2, 3, 4, 5, 6, 7, 8] [] 0 (c_X1_kindOf l D cI cJ h σ LT γ φ (12 * y + x) (by omega)) (cwV 1 C.1.2.2.2.2 gX1_set_X1_kindOf rfl rfl rfl (by decide +kernel) ⟨Nat.le_of_ble_eq_true rfl, Nat.le_of_ble_eq_true rfl⟩) rfl rfl rfl rfl rfl (by decide) rfl rfl rfl rfl (Nat.le_of_ble_eq_true rfl) rfl rfl ⟨Nat.le_of_ble_eq_true rfl, Nat.le_of_ble_eq_true rfl⟩ dX1_set_19 ?_
  rintro z_19 _ ⟨rfl, rfl⟩
  refine z_ws (ws' := (cw cI h σ LT γ φ)) rfl ?_
  refine z_st (v' := (σ 0 (12 * y + x).toNat)) rfl ?_
  refine z_istore C [(5, vI (σ 0 (12 * y + x).toNat)), (4, vI (12 * y + x)), (0, .ref (h 0)), (1, vI x), (2, vI y), (3, vI kd)] dX1_set_22 (by decide) rfl ?_
  refine z_aload_n C 2 dX1_set_24 rfl ?_
  refine z_iload C 1 dX1_set_25 rfl ?_
  refine z_iload_n C 5 dX1_set_27 rfl ?_
  refine z_callVv C (As := [vI (12 * y + x), vI kd]) (st := []) (y := yX1_putKind) (w := wsX1_putKind) (rm := rm_X1_putKind) (wr := []) (k' := 0) (n' := 0) [0, 1, 2, 3, 4, 5, 6, 7, 8] [] 0 (c_X1_putKind l D cI cJ h σ LT γ φ (12 * y + x) kd (by omega)) (cwV 2 C.1.2.2.2.2 gX1_set_X1_putKind rfl rfl rfl (by decide +kernel) ⟨Nat.le_of_ble_eq_true rfl, Nat.le_of_ble_eq_true rfl⟩) rfl rfl rfl rfl rfl (by decide) rfl rfl rfl rfl (Nat.le_of_ble_eq_true rfl) rfl rfl ⟨Nat.le_of_ble_eq_true rfl, Nat.le_of_ble_eq_true rfl⟩ dX1_set_28 ?_
  rintro _ rfl
  refine z_ws (ws' := (cw cI h (sU σ 0 (12 * y + x).toNat kd) LT γ φ)) rfl ?_
  refine z_aload_n C 2 dX1_set_31 rfl ?_
  refine z_callVv C (As := []) (st := []) (y := yX1_shineAll) (w := wsX1_shineAll) (rm := rm_X1_shineAll) (wr := []) (k' := 0) (n' := 0) [0, 1, 2, 3, 4, 5, 6, 7, 8] [] 0 (c_X1_shineAll l D cI cJ h (sU σ 0 (12 * y + x).toNat kd) LT γ φ  (Ok_kind hO hk) hL) (cwV 0 C.1.2.2.2.2 gX1_set_X1_shineAll rfl rfl rfl (by decide +kernel) ⟨Nat.le_of_ble_eq_true rfl, Nat.le_of_ble_eq_true rfl⟩) rfl rfl rfl rfl rfl (by decide) rfl rfl rfl rfl (Nat.le_of_ble_eq_true rfl) rfl rfl ⟨Nat.le_of_ble_eq_true rfl, Nat.le_of_ble_eq_true rfl⟩ dX1_set_32 ?_
  rintro _ ⟨φ'_32, rfl⟩
  refine z_ws (ws' := (cw cI h ((sU σ 0 (12 * y + x).toNat kd)) (shA (sU σ 0 (12 * y + x).toNat kd) LT (nLa (sU σ 0 (12 * y + x).toNat kd))) γ φ'_32)) rfl ?_
  refine z_iload C 0 dX1_set_35 rfl ?_
  exact hret _ _ _ _ dX1_set_37 ⟨_, rfl, by rfl⟩

set_option maxRecDepth 100000 in
theorem inU_X1_X1_lamp : ∀ w ∈ u_ws RX1 TX1 11, w ∈ wsX1_lamp := by decide +kernel
abbrev rm_X1_lamp : Room := { frames := 7, cells := 0, slots := 0, locals := 121 }
set_option maxHeartbeats 4000000 in
set_option maxRecDepth 100000 in
theorem c_X1_lamp (l : Launch) (D : va_G) (cI cJ : ClassId) (h : Nat → Nat) (σ : YS) (LT : Nat → Int) (γ : YS) (φ : Nat → Int) (x y r : Int) (hx : 0 ≤ x ∧ x < 12) (hy : 0 ≤ y ∧ y < 12) (hr : 1 ≤ r ∧ r < 13) (h4 : σ 4 0 < 4) (hla : lampB σ (12 * y + x) = false) (hO : Ok σ) (hL : LR LT) : Ci l yX1_lamp wsX1_lamp rm_X1_lamp D [(cI, .int), (cJ, .long)] [.ref (h 0), vI x, vI y, vI r] (cw cI h σ LT γ φ) (fun z u => ∃ φ' : Nat → Int, u = (cw cI h (sU (sU (sU σ 1 (σ 4 0).toNat (12 * y + x)) 2 (σ 4 0).toNat r) 4 0 (σ 4 0 + 1)) (shL (sU (sU (sU σ 1 (σ 4 0).toNat (12 * y + x)) 2 (σ 4 0).toNat r) 4 0 (σ 4 0 + 1)) LT (σ 4 0).toNat 144) γ φ') ∧ z = σ 4 0) := by
  refine z_ofi (own := RX1) (cc := cX1_lamp) (maxL := 6) (lv := [(0, .ref (h 0)), (1, vI x), (2, vI y), (3, vI r)]) (by decide) rfl rfl (Nat.le_of_ble_eq_true rfl) rfl ?_
  intro p e s m args below meth cd Q A C hret
  have hn := hO.1
  have hm := hO.2.1
  have en := nLa_e hO
  have em := nWa_e hO
  have hcc : 0 ≤ 12 * y + x ∧ 12 * y + x < 144 := by omega
  have ecc : (((12 * y + x).toNat : Nat) : Int) = 12 * y + x := Int.toNat_of_nonneg hcc.1
  refine z_iload_n C 1 dX1_lamp_0 rfl ?_
  refine z_iload_n C 2 dX1_lamp_1 rfl ?_
  refine z_callSv C (As := [vI x, vI y]) (st := []) (y := yX1_requirePlace) (w := wsX1_requirePlace) (rm := rm_X1_requirePlace) (wr := (cw cI h σ LT γ φ)) (k' := 0) (n' := 0) [] [0, 1, 2, 3, 4, 5, 6, 7, 8] (c_X1_requirePlace l D cI cJ  x y (by omega)) (va_cwS 2 C.1.2.2.2.2 gX1_lamp_X1_requirePlace rfl rfl rfl (by decide +kernel) ⟨Nat.le_of_ble_eq_true rfl, Nat.le_of_ble_eq_true rfl⟩) rfl rfl rfl rfl rfl (by decide) rfl rfl (Nat.le_of_ble_eq_true rfl) rfl rfl ⟨Nat.le_of_ble_eq_true rfl, Nat.le_of_ble_eq_true rfl⟩ dX1_lamp_2 ?_
  rintro _ rfl
  refine z_ws (ws' := (cw cI h σ LT γ φ)) rfl ?_
  refine z_iload_n C 3 dX1_lamp_5 rfl ?_
  refine z_callSv C (As := [vI r]) (st := []) (y := yX1_requireReach) (w := wsX1_requireReach) (rm := rm_X1_requireReach) (wr := (cw cI h σ LT γ φ)) (k' := 0) (n' := 0) [] [0, 1, 2, 3, 4, 5, 6, 7, 8] (c_X1_requireReach l D cI cJ  r (by omega)) (va_cwS 1 C.1.2.2.2.2 gX1_lamp_X1_requireReach rfl rfl rfl (by decide +kernel) ⟨Nat.le_of_ble_eq_true rfl, Nat.le_of_ble_eq_true rfl⟩) rfl rfl rfl rfl rfl (by decide) rfl rfl (Nat.le_of_ble_eq_true rfl) rfl rfl ⟨Nat.le_of_ble_eq_true rfl, Nat.le_of_ble_eq_true rfl⟩ dX1_lamp_6 ?_
  rintro _ rfl
  refine z_ws (ws' := (cw cI h σ LT γ φ)) rfl ?_
  refine z_iload_n C 1 dX1_lamp_9 rfl ?_
  refine z_iload_n C 2 dX1_lamp_10 rfl ?_
  refine z_callSi C (As := [vI x, vI y]) (st := []) (y := yX1_cellAt) (w := wsX1_cellAt) (rm := rm_X1_cellAt) (wr := (cw cI h σ LT γ φ)) (k' := 0) (n' := 0) [] [0, 1, 2, 3, 4, 5, 6, 7, 8] (c_X1_cellAt l D cI cJ  x y ) (va_cwS 2 C.1.2.2.2.2 gX1_lamp_X1_cellAt rfl rfl rfl (by decide +kernel) ⟨Nat.le_of_ble_eq_true rfl, Nat.le_of_ble_eq_true rfl⟩) rfl rfl rfl rfl rfl (by decide) rfl rfl (Nat.le_of_ble_eq_true rfl) rfl rfl ⟨Nat.le_of_ble_eq_true rfl, Nat.le_of_ble_eq_true rfl⟩ dX1_lamp_11 ?_
  rintro z_11 _ ⟨rfl, rfl⟩
  refine z_ws (ws' := (cw cI h σ LT γ φ)) rfl ?_
  refine z_st (v' := (12 * y + x)) rfl ?_
  refine z_istore C [(4, vI (12 * y + x)), (0, .ref (h 0)), (1, vI x), (2, vI y), (3, vI r)] dX1_lamp_14 (by decide) rfl ?_
  refine z_aload_n C 1 dX1_lamp_16 rfl ?_
  refine z_get C (v := vI (σ 4 0)) (ref := "ShadowWalls") (T := TX1) (N := 11) (ci := 1) 0 8 inU_X1_X1_lamp rfl rfl (by decide) (by decide +kernel) (fun _ h9 => h9) rfl dX1_lamp_17 ?_
  refine z_istore C [(5, vI (σ 4 0)), (4, vI (12 * y + x)), (0, .ref (h 0)), (1, vI x), (2, vI y), (3, vI r)] dX1_lamp_20 (by decide) rfl ?_
  refine z_iload C 0 dX1_lamp_22 rfl ?_
  refine z_if_lt C (tgt := 47) dX1_lamp_24 (by decide) (by omega) (fun c_24 => ?_) (fun c_24 => ?_)
  ·
    exfalso; omega
  ·
    refine z_iload C 0 dX1_lamp_27 rfl ?_
    refine z_aload_n C 2 dX1_lamp_29 rfl ?_
    refine z_get C (v := .ref (h 2)) (ref := "ShadowWalls") (T := TX1) (N := 11) (ci := 1) 0 1 inU_X1_X1_lamp rfl rfl (by decide) (by decide +kernel) (fun _ h9 => h9) rfl dX1_lamp_30 ?_
    refine z_alen C (v := 4) (cA := cI) (ty := .int) 2 0 rfl rfl rfl dX1_lamp_33 ?_
    refine z_icmp_ge C (tgt := 47) dX1_lamp_34 (by decide) (by omega) (by omega) (fun c_34 => ?_) (fun c_34 => ?_)
    ·
      exfalso; omega
    ·
      refine z_iload C 0 dX1_lamp_37 rfl ?_
      refine z_aload_n C 2 dX1_lamp_39 rfl ?_
      refine z_get C (v := .ref (h 3)) (ref := "ShadowWalls") (T := TX1) (N := 11) (ci := 1) 0 2 inU_X1_X1_lamp rfl rfl (by decide) (by decide +kernel) (fun _ h9 => h9) rfl dX1_lamp_40 ?_
      refine z_alen C (v := 4) (cA := cI) (ty := .int) 3 0 rfl rfl rfl dX1_lamp_43 ?_
      refine z_icmp_lt C (tgt := 57) dX1_lamp_44 (by decide) (by omega) (by omega) (fun c_44 => ?_) (fun c_44 => ?_)
      ·
        refine z_aload_n C 2 dX1_lamp_57 rfl ?_
        refine z_iload C 1 dX1_lamp_58 rfl ?_
        refine z_callVi C (As := [vI (12 * y + x)]) (st := []) (y := yX1_isLampAt) (w := wsX1_isLampAt) (rm := rm_X1_isLampAt) (wr := []) (k' := 0) (n' := 0) [0, 1, 2, 3, 4, 5, 6, 7, 8] [] 0 (c_X1_isLampAt l D cI cJ h σ LT γ φ (12 * y + x) (by omega) hO) (cwV 1 C.1.2.2.2.2 gX1_lamp_X1_isLampAt rfl rfl rfl (by decide +kernel) ⟨Nat.le_of_ble_eq_true rfl, Nat.le_of_ble_eq_true rfl⟩) rfl rfl rfl rfl rfl (by decide) rfl rfl rfl rfl (Nat.le_of_ble_eq_true rfl) rfl rfl ⟨Nat.le_of_ble_eq_true rfl, Nat.le_of_ble_eq_true rfl⟩ dX1_lamp_60 ?_
        rintro z_60 _ ⟨rfl, hz_60⟩
        refine z_ws (ws' := (cw cI h σ LT γ φ)) rfl ?_
        have r_60 : z_60 = 0 ∨ z_60 = 1 := by rw [hz_60]; exact bI_01 _
        have hz_60 : z_60 = bI (anyB (fun k => decide (σ 1 k = (12 * y + x))) (nLa σ)) := hz_60
        unfold lampB at hla
        rw [hla] at hz_60
        have hz0 : z_60 = 0 := hz_60
        refine z_if_eq C (tgt := 76) dX1_lamp_63 (by decide) (by omega) (fun c_63 => ?_) (fun c_63 => ?_)
        ·
          refine z_aload_n C 2 dX1_lamp_76 rfl ?_
          refine z_get C (v := .ref (h 2)) (ref := "ShadowWalls") (T := TX1) (N := 11) (ci := 1) 0 1 inU_X1_X1_lamp rfl rfl (by decide) (by decide +kernel) (fun _ h9 => h9) rfl dX1_lamp_77 ?_
          refine z_iload C 0 dX1_lamp_80 rfl ?_
          refine z_iload C 1 dX1_lamp_82 rfl ?_
          refine z_iast C (cA := cI) (N := 4) (f := σ 1) (ws' := (cw cI h (sU σ 1 ((σ 4 0).toNat) (12 * y + x)) LT γ φ)) 2 0 rfl rfl (by decide) (by omega) rfl dX1_lamp_84 ?_
          refine z_aload_n C 2 dX1_lamp_85 rfl ?_
          refine z_get C (v := .ref (h 3)) (ref := "ShadowWalls") (T := TX1) (N := 11) (ci := 1) 0 2 inU_X1_X1_lamp rfl rfl (by decide) (by decide +kernel) (fun _ h9 => h9) rfl dX1_lamp_86 ?_
          refine z_iload C 0 dX1_lamp_89 rfl ?_
          refine z_iload_n C 5 dX1_lamp_91 rfl ?_
          refine z_iast C (cA := cI) (N := 4) (f := (sU σ 1 ((σ 4 0).toNat) (12 * y + x)) 2) (ws' := (cw cI h (sU (sU σ 1 ((σ 4 0).toNat) (12 * y + x)) 2 ((σ 4 0).toNat) r) LT γ φ)) 3 0 rfl rfl (by decide) (by omega) rfl dX1_lamp_92 ?_
          refine z_aload_n C 2 dX1_lamp_93 rfl ?_
          refine z_iload C 0 dX1_lamp_94 rfl ?_
          refine z_iconst C dX1_lamp_96 ?_
          refine z_iadd C dX1_lamp_97 ?_
          refine z_put C (ref := "ShadowWalls") (T := TX1) (N := 11) (ci := 1) (ty := .int) (ws' := (cw cI h (sU (sU (sU σ 1 ((σ 4 0).toNat) (12 * y + x)) 2 ((σ 4 0).toNat) r) 4 0 ((σ 4 0) + 1)) LT γ φ)) 0 8 inU_X1_X1_lamp tyX1 tyX1_ok nmX1 rfl rfl (by decide) (by decide +kernel) (fun _ h9 => h9) rfl (by decide +kernel) (rfl) (rfl) (Nat.le_of_ble_eq_true rfl) rfl dX1_lamp_98 ?_
          refine z_aload_n C 2 dX1_lamp_101 rfl ?_
          refine z_iload C 0 dX1_lamp_102 rfl ?_
          refine z_callVv C (As := [vI (σ 4 0)]) (st := []) (y := yX1_shine) (w := wsX1_shine) (rm := rm_X1_shine) (wr := []) (k' := 0) (n' := 0) [0, 1, 2, 3, 4, 5, 6, 7, 8] [] 0 (c_X1_shine l D cI cJ h (sU (sU (sU σ 1 ((σ 4 0).toNat) (12 * y + x)) 2 ((σ 4 0).toNat) r) 4 0 ((σ 4 0) + 1)) LT γ φ (σ 4 0) (by show 0 ≤ σ 4 0 ∧ σ 4 0 < σ 4 0 + 1; omega) (Ok_lamp hO h4 hcc hr) hL) (cwV 1 C.1.2.2.2.2 gX1_lamp_X1_shine rfl rfl rfl (by decide +kernel) ⟨Nat.le_of_ble_eq_true rfl, Nat.le_of_ble_eq_true rfl⟩) rfl rfl rfl rfl rfl (by decide) rfl rfl rfl rfl (Nat.le_of_ble_eq_true rfl) rfl rfl ⟨Nat.le_of_ble_eq_true rfl, Nat.le_of_ble_eq_true rfl⟩ dX1_lamp_104 ?_
          rintro _ ⟨φ'_104, rfl⟩
          refine z_ws (ws' := (cw cI h ((sU (sU (sU σ 1 ((σ 4 0).toNat) (12 * y + x)) 2 ((σ 4 0).toNat) r) 4 0 ((σ 4 0) + 1))) (shL (sU (sU (sU σ 1 ((σ 4 0).toNat) (12 * y + x)) 2 ((σ 4 0).toNat) r) 4 0 ((σ 4 0) + 1)) LT (σ 4 0).toNat 144) γ φ'_104)) rfl ?_
          refine z_iload C 0 dX1_lamp_107 rfl ?_
          exact hret _ _ _ _ dX1_lamp_109 ⟨_, rfl, by rfl⟩
        ·
          exfalso; omega
      ·
        exfalso; omega

abbrev rm_X1_carry : Room := { frames := 7, cells := 0, slots := 0, locals := 121 }
set_option maxHeartbeats 4000000 in
set_option maxRecDepth 100000 in
theorem c_X1_carry (l : Launch) (D : va_G) (cI cJ : ClassId) (h : Nat → Nat) (σ : YS) (LT : Nat → Int) (γ : YS) (φ : Nat → Int) (k x y : Int) (hk : 0 ≤ k ∧ k < σ 4 0) (hx : 0 ≤ x ∧ x < 12) (hy : 0 ≤ y ∧ y < 12) (hla : lampB σ (12 * y + x) = false) (hO : Ok σ) (hL : LR LT) : Ci l yX1_carry wsX1_carry rm_X1_carry D [(cI, .int), (cJ, .long)] [.ref (h 0), vI k, vI x, vI y] (cw cI h σ LT γ φ) (fun z u => ∃ φ' : Nat → Int, u = (cw cI h (sU σ 1 k.toNat (12 * y + x)) (shL (sU σ 1 k.toNat (12 * y + x)) LT k.toNat 144) γ φ') ∧ z = litC (shL (sU σ 1 k.toNat (12 * y + x)) LT k.toNat 144)) := by
  refine z_ofi (own := RX1) (cc := cX1_carry) (maxL := 5) (lv := [(0, .ref (h 0)), (1, vI k), (2, vI x), (3, vI y)]) (by decide) rfl rfl (Nat.le_of_ble_eq_true rfl) rfl ?_
  intro p e s m args below meth cd Q A C hret
  have hn := hO.1
  have hm := hO.2.1
  have en := nLa_e hO
  have em := nWa_e hO
  have hcc : 0 ≤ 12 * y + x ∧ 12 * y + x < 144 := by omega
  have ecc : (((12 * y + x).toNat : Nat) : Int) = 12 * y + x := Int.toNat_of_nonneg hcc.1
  refine z_aload_n C 0 dX1_carry_0 rfl ?_
  refine z_iload_n C 1 dX1_carry_1 rfl ?_
  refine z_callVv C (As := [vI k]) (st := []) (y := yX1_requireLamp) (w := wsX1_requireLamp) (rm := rm_X1_requireLamp) (wr := []) (k' := 0) (n' := 0) [0, 1, 2, 3, 4, 5, 6, 7, 8] [] 0 (c_X1_requireLamp l D cI cJ h σ LT γ φ k (by omega)) (cwV 1 C.1.2.2.2.2 gX1_carry_X1_requireLamp rfl rfl rfl (by decide +kernel) ⟨Nat.le_of_ble_eq_true rfl, Nat.le_of_ble_eq_true rfl⟩) rfl rfl rfl rfl rfl (by decide) rfl rfl rfl rfl (Nat.le_of_ble_eq_true rfl) rfl rfl ⟨Nat.le_of_ble_eq_true rfl, Nat.le_of_ble_eq_true rfl⟩ dX1_carry_2 ?_
  rintro _ rfl
  refine z_ws (ws' := (cw cI h σ LT γ φ)) rfl ?_
  refine z_iload_n C 2 dX1_carry_5 rfl ?_
  refine z_iload_n C 3 dX1_carry_6 rfl ?_
  refine z_callSv C (As := [vI x, vI y]) (st := []) (y := yX1_requirePlace) (w := wsX1_requirePlace) (rm := rm_X1_requirePlace) (wr := (cw cI h σ LT γ φ)) (k' := 0) (n' := 0) [] [0, 1, 2, 3, 4, 5, 6, 7, 8] (c_X1_requirePlace l D cI cJ  x y (by omega)) (va_cwS 2 C.1.2.2.2.2 gX1_carry_X1_requirePlace rfl rfl rfl (by decide +kernel) ⟨Nat.le_of_ble_eq_true rfl, Nat.le_of_ble_eq_true rfl⟩) rfl rfl rfl rfl rfl (by decide) rfl rfl (Nat.le_of_ble_eq_true rfl) rfl rfl ⟨Nat.le_of_ble_eq_true rfl, Nat.le_of_ble_eq_true rfl⟩ dX1_carry_7 ?_
  rintro _ rfl
  refine z_ws (ws' := (cw cI h σ LT γ φ)) rfl ?_
  refine z_iload_n C 2 dX1_carry_10 rfl ?_
  refine z_iload_n C 3 dX1_carry_11 rfl ?_
  refine z_callSi C (As := [vI x, vI y]) (st := []) (y := yX1_cellAt) (w := wsX1_cellAt) (rm := rm_X1_cellAt) (wr := (cw cI h σ LT γ φ)) (k' := 0) (n' := 0) [] [0, 1, 2, 3, 4, 5, 6, 7, 8] (c_X1_cellAt l D cI cJ  x y ) (va_cwS 2 C.1.2.2.2.2 gX1_carry_X1_cellAt rfl rfl rfl (by decide +kernel) ⟨Nat.le_of_ble_eq_true rfl, Nat.le_of_ble_eq_true rfl⟩) rfl rfl rfl rfl rfl (by decide) rfl rfl (Nat.le_of_ble_eq_true rfl) rfl rfl ⟨Nat.le_of_ble_eq_true rfl, Nat.le_of_ble_eq_true rfl⟩ dX1_carry_12 ?_
  rintro z_12 _ ⟨rfl, rfl⟩
  refine z_ws (ws' := (cw cI h σ LT γ φ)) rfl ?_
  refine z_st (v' := (12 * y + x)) rfl ?_
  refine z_istore C [(4, vI (12 * y + x)), (0, .ref (h 0)), (1, vI k), (2, vI x), (3, vI y)] dX1_carry_15 (by decide) rfl ?_
  refine z_aload_n C 1 dX1_carry_17 rfl ?_
  refine z_iload C 0 dX1_carry_18 rfl ?_
  refine z_callVi C (As := [vI (12 * y + x)]) (st := []) (y := yX1_isLampAt) (w := wsX1_isLampAt) (rm := rm_X1_isLampAt) (wr := []) (k' := 0) (n' := 0) [0, 1, 2, 3, 4, 5, 6, 7, 8] [] 0 (c_X1_isLampAt l D cI cJ h σ LT γ φ (12 * y + x) (by omega) hO) (cwV 1 C.1.2.2.2.2 gX1_carry_X1_isLampAt rfl rfl rfl (by decide +kernel) ⟨Nat.le_of_ble_eq_true rfl, Nat.le_of_ble_eq_true rfl⟩) rfl rfl rfl rfl rfl (by decide) rfl rfl rfl rfl (Nat.le_of_ble_eq_true rfl) rfl rfl ⟨Nat.le_of_ble_eq_true rfl, Nat.le_of_ble_eq_true rfl⟩ dX1_carry_20 ?_
  rintro z_20 _ ⟨rfl, hz_20⟩
  refine z_ws (ws' := (cw cI h σ LT γ φ)) rfl ?_
  have r_20 : z_20 = 0 ∨ z_20 = 1 := by rw [hz_20]; exact bI_01 _
  have hz_20 : z_20 = bI (anyB (fun k => decide (σ 1 k = (12 * y + x))) (nLa σ)) := hz_20
  unfold lampB at hla
  rw [hla] at hz_20
  have hz0 : z_20 = 0 := hz_20
  refine z_if_eq C (tgt := 36) dX1_carry_23 (by decide) (by omega) (fun c_23 => ?_) (fun c_23 => ?_)
  ·
    refine z_aload_n C 1 dX1_carry_36 rfl ?_
    refine z_iload_n C 2 dX1_carry_37 rfl ?_
    refine z_iload C 0 dX1_carry_38 rfl ?_
    refine z_callVv C (As := [vI k, vI (12 * y + x)]) (st := []) (y := yX1_putLamp) (w := wsX1_putLamp) (rm := rm_X1_putLamp) (wr := []) (k' := 0) (n' := 0) [0, 1, 2, 3, 4, 5, 6, 7, 8] [] 0 (c_X1_putLamp l D cI cJ h σ LT γ φ k (12 * y + x) (by omega)) (cwV 2 C.1.2.2.2.2 gX1_carry_X1_putLamp rfl rfl rfl (by decide +kernel) ⟨Nat.le_of_ble_eq_true rfl, Nat.le_of_ble_eq_true rfl⟩) rfl rfl rfl rfl rfl (by decide) rfl rfl rfl rfl (Nat.le_of_ble_eq_true rfl) rfl rfl ⟨Nat.le_of_ble_eq_true rfl, Nat.le_of_ble_eq_true rfl⟩ dX1_carry_40 ?_
    rintro _ rfl
    refine z_ws (ws' := (cw cI h (sU σ 1 k.toNat (12 * y + x)) LT γ φ)) rfl ?_
    refine z_aload_n C 1 dX1_carry_43 rfl ?_
    refine z_iload_n C 2 dX1_carry_44 rfl ?_
    refine z_callVv C (As := [vI k]) (st := []) (y := yX1_shine) (w := wsX1_shine) (rm := rm_X1_shine) (wr := []) (k' := 0) (n' := 0) [0, 1, 2, 3, 4, 5, 6, 7, 8] [] 0 (c_X1_shine l D cI cJ h (sU σ 1 k.toNat (12 * y + x)) LT γ φ k (by show 0 ≤ k ∧ k < σ 4 0; omega) (Ok_carry hO (by omega) hcc) hL) (cwV 1 C.1.2.2.2.2 gX1_carry_X1_shine rfl rfl rfl (by decide +kernel) ⟨Nat.le_of_ble_eq_true rfl, Nat.le_of_ble_eq_true rfl⟩) rfl rfl rfl rfl rfl (by decide) rfl rfl rfl rfl (Nat.le_of_ble_eq_true rfl) rfl rfl ⟨Nat.le_of_ble_eq_true rfl, Nat.le_of_ble_eq_true rfl⟩ dX1_carry_45 ?_
    rintro _ ⟨φ'_45, rfl⟩
    refine z_ws (ws' := (cw cI h ((sU σ 1 k.toNat (12 * y + x))) (shL (sU σ 1 k.toNat (12 * y + x)) LT k.toNat 144) γ φ'_45)) rfl ?_
    refine z_aload_n C 1 dX1_carry_48 rfl ?_
    refine z_callVi C (As := []) (st := []) (y := yX1_litCells) (w := wsX1_litCells) (rm := rm_X1_litCells) (wr := []) (k' := 0) (n' := 0) [0, 1, 2, 3, 4, 5, 6, 7, 8] [] 0 (c_X1_litCells l D cI cJ h (sU σ 1 k.toNat (12 * y + x)) (shL (sU σ 1 k.toNat (12 * y + x)) LT k.toNat 144) γ φ'_45  (LR_shL (by omega) hL)) (cwV 0 C.1.2.2.2.2 gX1_carry_X1_litCells rfl rfl rfl (by decide +kernel) ⟨Nat.le_of_ble_eq_true rfl, Nat.le_of_ble_eq_true rfl⟩) rfl rfl rfl rfl rfl (by decide) rfl rfl rfl rfl (Nat.le_of_ble_eq_true rfl) rfl rfl ⟨Nat.le_of_ble_eq_true rfl, Nat.le_of_ble_eq_true rfl⟩ dX1_carry_49 ?_
    rintro z_49 _ ⟨rfl, hz_49⟩
    refine z_ws (ws' := (cw cI h ((sU σ 1 k.toNat (12 * y + x))) ((shL (sU σ 1 k.toNat (12 * y + x)) LT k.toNat 144)) γ φ'_45)) rfl ?_
    have r_49 := smB_r (fun c => decide ((shL (sU σ 1 k.toNat (12 * y + x)) LT k.toNat 144) c ≠ 0)) 144
    rw [← hz_49] at r_49
    have hz_49 : z_49 = sm (fun c => bI (decide ((shL (sU σ 1 k.toNat (12 * y + x)) LT k.toNat 144) c ≠ 0))) 144 := hz_49
    exact hret _ _ _ _ dX1_carry_52 ⟨_, rfl, by exact hz_49⟩
  ·
    exfalso; omega

abbrev rm_X1_turn : Room := { frames := 7, cells := 0, slots := 0, locals := 121 }
set_option maxHeartbeats 4000000 in
set_option maxRecDepth 100000 in
theorem c_X1_turn (l : Launch) (D : va_G) (cI cJ : ClassId) (h : Nat → Nat) (σ : YS) (LT : Nat → Int) (γ : YS) (φ : Nat → Int) (k r : Int) (hk : 0 ≤ k ∧ k < σ 4 0) (hr : 1 ≤ r ∧ r < 13) (hO : Ok σ) (hL : LR LT) : Ci l yX1_turn wsX1_turn rm_X1_turn D [(cI, .int), (cJ, .long)] [.ref (h 0), vI k, vI r] (cw cI h σ LT γ φ) (fun z u => ∃ φ' : Nat → Int, u = (cw cI h (sU σ 2 k.toNat r) (shL (sU σ 2 k.toNat r) LT k.toNat 144) γ φ') ∧ z = σ 2 k.toNat) := by
  refine z_ofi (own := RX1) (cc := cX1_turn) (maxL := 4) (lv := [(0, .ref (h 0)), (1, vI k), (2, vI r)]) (by decide) rfl rfl (Nat.le_of_ble_eq_true rfl) rfl ?_
  intro p e s m args below meth cd Q A C hret
  have hn := hO.1
  have hm := hO.2.1
  have en := nLa_e hO
  have em := nWa_e hO
  refine z_aload_n C 0 dX1_turn_0 rfl ?_
  refine z_iload_n C 1 dX1_turn_1 rfl ?_
  refine z_callVv C (As := [vI k]) (st := []) (y := yX1_requireLamp) (w := wsX1_requireLamp) (rm := rm_X1_requireLamp) (wr := []) (k' := 0) (n' := 0) [0, 1, 2, 3, 4, 5, 6, 7, 8] [] 0 (c_X1_requireLamp l D cI cJ h σ LT γ φ k (by omega)) (cwV 1 C.1.2.2.2.2 gX1_turn_X1_requireLamp rfl rfl rfl (by decide +kernel) ⟨Nat.le_of_ble_eq_true rfl, Nat.le_of_ble_eq_true rfl⟩) rfl rfl rfl rfl rfl (by decide) rfl rfl rfl rfl (Nat.le_of_ble_eq_true rfl) rfl rfl ⟨Nat.le_of_ble_eq_true rfl, Nat.le_of_ble_eq_true rfl⟩ dX1_turn_2 ?_
  rintro _ rfl
  refine z_ws (ws' := (cw cI h σ LT γ φ)) rfl ?_
  refine z_iload_n C 2 dX1_turn_5 rfl ?_
  refine z_callSv C (As := [vI r]) (st := []) (y := yX1_requireReach) (w := wsX1_requireReach) (rm := rm_X1_requireReach) (wr := (cw cI h σ LT γ φ)) (k' := 0) (n' := 0) [] [0, 1, 2, 3, 4, 5, 6, 7, 8] (c_X1_requireReach l D cI cJ  r (by omega)) (va_cwS 1 C.1.2.2.2.2 gX1_turn_X1_requireReach rfl rfl rfl (by decide +kernel) ⟨Nat.le_of_ble_eq_true rfl, Nat.le_of_ble_eq_true rfl⟩) rfl rfl rfl rfl rfl (by decide) rfl rfl (Nat.le_of_ble_eq_true rfl) rfl rfl ⟨Nat.le_of_ble_eq_true rfl, Nat.le_of_ble_eq_true rfl⟩ dX1_turn_6 ?_
  rintro _ rfl
  refine z_ws (ws' := (cw cI h σ LT γ φ)) rfl ?_
  refine z_aload_n C 0 dX1_turn_9 rfl ?_
  refine z_iload_n C 1 dX1_turn_10 rfl ?_
  refine z_callVi C (As := [vI k]) (st := []) (y := yX1_reachOf) (w := wsX1_reachOf) (rm := rm_X1_reachOf) (wr := []) (k' := 0) (n' := 0) [0, 1, 2, 3, 4, 5, 6, 7, 8] [] 0 (c_X1_reachOf l D cI cJ h σ LT γ φ k (by omega)) (cwV 1 C.1.2.2.2.2 gX1_turn_X1_reachOf rfl rfl rfl (by decide +kernel) ⟨Nat.le_of_ble_eq_true rfl, Nat.le_of_ble_eq_true rfl⟩) rfl rfl rfl rfl rfl (by decide) rfl rfl rfl rfl (Nat.le_of_ble_eq_true rfl) rfl rfl ⟨Nat.le_of_ble_eq_true rfl, Nat.le_of_ble_eq_true rfl⟩ dX1_turn_11 ?_
  rintro z_11 _ ⟨rfl, rfl⟩
  refine z_ws (ws' := (cw cI h σ LT γ φ)) rfl ?_
  refine z_st (v' := (σ 2 k.toNat)) rfl ?_
  refine z_istore_n C [(3, vI (σ 2 k.toNat)), (0, .ref (h 0)), (1, vI k), (2, vI r)] dX1_turn_14 (by decide) rfl ?_
  refine z_aload_n C 1 dX1_turn_15 rfl ?_
  refine z_iload_n C 2 dX1_turn_16 rfl ?_
  refine z_iload_n C 3 dX1_turn_17 rfl ?_
  refine z_callVv C (As := [vI k, vI r]) (st := []) (y := yX1_putReach) (w := wsX1_putReach) (rm := rm_X1_putReach) (wr := []) (k' := 0) (n' := 0) [0, 1, 2, 3, 4, 5, 6, 7, 8] [] 0 (c_X1_putReach l D cI cJ h σ LT γ φ k r (by omega)) (cwV 2 C.1.2.2.2.2 gX1_turn_X1_putReach rfl rfl rfl (by decide +kernel) ⟨Nat.le_of_ble_eq_true rfl, Nat.le_of_ble_eq_true rfl⟩) rfl rfl rfl rfl rfl (by decide) rfl rfl rfl rfl (Nat.le_of_ble_eq_true rfl) rfl rfl ⟨Nat.le_of_ble_eq_true rfl, Nat.le_of_ble_eq_true rfl⟩ dX1_turn_18 ?_
  rintro _ rfl
  refine z_ws (ws' := (cw cI h (sU σ 2 k.toNat r) LT γ φ)) rfl ?_
  refine z_aload_n C 1 dX1_turn_21 rfl ?_
  refine z_iload_n C 2 dX1_turn_22 rfl ?_
  refine z_callVv C (As := [vI k]) (st := []) (y := yX1_shine) (w := wsX1_shine) (rm := rm_X1_shine) (wr := []) (k' := 0) (n' := 0) [0, 1, 2, 3, 4, 5, 6, 7, 8] [] 0 (c_X1_shine l D cI cJ h (sU σ 2 k.toNat r) LT γ φ k (by show 0 ≤ k ∧ k < σ 4 0; omega) (Ok_reach hO hr) hL) (cwV 1 C.1.2.2.2.2 gX1_turn_X1_shine rfl rfl rfl (by decide +kernel) ⟨Nat.le_of_ble_eq_true rfl, Nat.le_of_ble_eq_true rfl⟩) rfl rfl rfl rfl rfl (by decide) rfl rfl rfl rfl (Nat.le_of_ble_eq_true rfl) rfl rfl ⟨Nat.le_of_ble_eq_true rfl, Nat.le_of_ble_eq_true rfl⟩ dX1_turn_23 ?_
  rintro _ ⟨φ'_23, rfl⟩
  refine z_ws (ws' := (cw cI h ((sU σ 2 k.toNat r)) (shL (sU σ 2 k.toNat r) LT k.toNat 144) γ φ'_23)) rfl ?_
  refine z_iload_n C 0 dX1_turn_26 rfl ?_
  exact hret _ _ _ _ dX1_turn_27 ⟨_, rfl, by rfl⟩

set_option maxRecDepth 100000 in
theorem inU_X1_X1_watcher : ∀ w ∈ u_ws RX1 TX1 11, w ∈ wsX1_watcher := by decide +kernel
abbrev rm_X1_watcher : Room := { frames := 7, cells := 0, slots := 0, locals := 121 }
set_option maxHeartbeats 4000000 in
set_option maxRecDepth 100000 in
theorem c_X1_watcher (l : Launch) (D : va_G) (cI cJ : ClassId) (h : Nat → Nat) (σ : YS) (LT : Nat → Int) (γ : YS) (φ : Nat → Int) (x y : Int) (hx : 0 ≤ x ∧ x < 12) (hy : 0 ≤ y ∧ y < 12) (h6 : σ 4 1 < 6) (h0 : σ 0 (12 * y + x).toNat = 0) (hO : Ok σ) : Ci l yX1_watcher wsX1_watcher rm_X1_watcher D [(cI, .int), (cJ, .long)] [.ref (h 0), vI x, vI y] (cw cI h σ LT γ φ) (fun z u => u = (cw cI h (sU (sU σ 3 (σ 4 1).toNat (12 * y + x)) 4 1 (σ 4 1 + 1)) LT γ φ) ∧ z = σ 4 1) := by
  refine z_ofi (own := RX1) (cc := cX1_watcher) (maxL := 5) (lv := [(0, .ref (h 0)), (1, vI x), (2, vI y)]) (by decide) rfl rfl (Nat.le_of_ble_eq_true rfl) rfl ?_
  intro p e s m args below meth cd Q A C hret
  have hn := hO.1
  have hm := hO.2.1
  have en := nLa_e hO
  have em := nWa_e hO
  have hcc : 0 ≤ 12 * y + x ∧ 12 * y + x < 144 := by omega
  have ecc : (((12 * y + x).toNat : Nat) : Int) = 12 * y + x := Int.toNat_of_nonneg hcc.1
  refine z_iload_n C 1 dX1_watcher_0 rfl ?_
  refine z_iload_n C 2 dX1_watcher_1 rfl ?_
  refine z_callSv C (As := [vI x, vI y]) (st := []) (y := yX1_requirePlace) (w := wsX1_requirePlace) (rm := rm_X1_requirePlace) (wr := (cw cI h σ LT γ φ)) (k' := 0) (n' := 0) [] [0, 1, 2, 3, 4, 5, 6, 7, 8] (c_X1_requirePlace l D cI cJ  x y (by omega)) (va_cwS 2 C.1.2.2.2.2 gX1_watcher_X1_requirePlace rfl rfl rfl (by decide +kernel) ⟨Nat.le_of_ble_eq_true rfl, Nat.le_of_ble_eq_true rfl⟩) rfl rfl rfl rfl rfl (by decide) rfl rfl (Nat.le_of_ble_eq_true rfl) rfl rfl ⟨Nat.le_of_ble_eq_true rfl, Nat.le_of_ble_eq_true rfl⟩ dX1_watcher_2 ?_
  rintro _ rfl
  refine z_ws (ws' := (cw cI h σ LT γ φ)) rfl ?_
  refine z_iload_n C 1 dX1_watcher_5 rfl ?_
  refine z_iload_n C 2 dX1_watcher_6 rfl ?_
  refine z_callSi C (As := [vI x, vI y]) (st := []) (y := yX1_cellAt) (w := wsX1_cellAt) (rm := rm_X1_cellAt) (wr := (cw cI h σ LT γ φ)) (k' := 0) (n' := 0) [] [0, 1, 2, 3, 4, 5, 6, 7, 8] (c_X1_cellAt l D cI cJ  x y ) (va_cwS 2 C.1.2.2.2.2 gX1_watcher_X1_cellAt rfl rfl rfl (by decide +kernel) ⟨Nat.le_of_ble_eq_true rfl, Nat.le_of_ble_eq_true rfl⟩) rfl rfl rfl rfl rfl (by decide) rfl rfl (Nat.le_of_ble_eq_true rfl) rfl rfl ⟨Nat.le_of_ble_eq_true rfl, Nat.le_of_ble_eq_true rfl⟩ dX1_watcher_7 ?_
  rintro z_7 _ ⟨rfl, rfl⟩
  refine z_ws (ws' := (cw cI h σ LT γ φ)) rfl ?_
  refine z_st (v' := (12 * y + x)) rfl ?_
  refine z_istore_n C [(3, vI (12 * y + x)), (0, .ref (h 0)), (1, vI x), (2, vI y)] dX1_watcher_10 (by decide) rfl ?_
  refine z_aload_n C 1 dX1_watcher_11 rfl ?_
  refine z_get C (v := vI (σ 4 1)) (ref := "ShadowWalls") (T := TX1) (N := 11) (ci := 1) 0 9 inU_X1_X1_watcher rfl rfl (by decide) (by decide +kernel) (fun _ h9 => h9) rfl dX1_watcher_12 ?_
  refine z_istore C [(4, vI (σ 4 1)), (3, vI (12 * y + x)), (0, .ref (h 0)), (1, vI x), (2, vI y)] dX1_watcher_15 (by decide) rfl ?_
  refine z_iload C 0 dX1_watcher_17 rfl ?_
  refine z_if_lt C (tgt := 32) dX1_watcher_19 (by decide) (by omega) (fun c_19 => ?_) (fun c_19 => ?_)
  ·
    exfalso; omega
  ·
    refine z_iload C 0 dX1_watcher_22 rfl ?_
    refine z_aload_n C 2 dX1_watcher_24 rfl ?_
    refine z_get C (v := .ref (h 4)) (ref := "ShadowWalls") (T := TX1) (N := 11) (ci := 1) 0 3 inU_X1_X1_watcher rfl rfl (by decide) (by decide +kernel) (fun _ h9 => h9) rfl dX1_watcher_25 ?_
    refine z_alen C (v := 6) (cA := cI) (ty := .int) 4 0 rfl rfl rfl dX1_watcher_28 ?_
    refine z_icmp_lt C (tgt := 42) dX1_watcher_29 (by decide) (by omega) (by omega) (fun c_29 => ?_) (fun c_29 => ?_)
    ·
      refine z_aload_n C 2 dX1_watcher_42 rfl ?_
      refine z_iload_n C 1 dX1_watcher_43 rfl ?_
      refine z_callVi C (As := [vI (12 * y + x)]) (st := []) (y := yX1_kindOf) (w := wsX1_kindOf) (rm := rm_X1_kindOf) (wr := []) (k' := 0) (n' := 0) [0, 1, 2, 3, 4, 5, 6, 7, 8] [] 0 (c_X1_kindOf l D cI cJ h σ LT γ φ (12 * y + x) (by omega)) (cwV 1 C.1.2.2.2.2 gX1_watcher_X1_kindOf rfl rfl rfl (by decide +kernel) ⟨Nat.le_of_ble_eq_true rfl, Nat.le_of_ble_eq_true rfl⟩) rfl rfl rfl rfl rfl (by decide) rfl rfl rfl rfl (Nat.le_of_ble_eq_true rfl) rfl rfl ⟨Nat.le_of_ble_eq_true rfl, Nat.le_of_ble_eq_true rfl⟩ dX1_watcher_44 ?_
      rintro z_44 _ ⟨rfl, rfl⟩
      refine z_ws (ws' := (cw cI h σ LT γ φ)) rfl ?_
      refine z_st (v' := (σ 0 (12 * y + x).toNat)) rfl ?_
      refine z_if_eq C (tgt := 60) dX1_watcher_47 (by decide) (by omega) (fun c_47 => ?_) (fun c_47 => ?_)
      ·
        refine z_aload_n C 2 dX1_watcher_60 rfl ?_
        refine z_get C (v := .ref (h 4)) (ref := "ShadowWalls") (T := TX1) (N := 11) (ci := 1) 0 3 inU_X1_X1_watcher rfl rfl (by decide) (by decide +kernel) (fun _ h9 => h9) rfl dX1_watcher_61 ?_
        refine z_iload C 0 dX1_watcher_64 rfl ?_
        refine z_iload_n C 1 dX1_watcher_66 rfl ?_
        refine z_iast C (cA := cI) (N := 6) (f := σ 3) (ws' := (cw cI h (sU σ 3 ((σ 4 1).toNat) (12 * y + x)) LT γ φ)) 4 0 rfl rfl (by decide) (by omega) rfl dX1_watcher_67 ?_
        refine z_aload_n C 2 dX1_watcher_68 rfl ?_
        refine z_iload C 0 dX1_watcher_69 rfl ?_
        refine z_iconst C dX1_watcher_71 ?_
        refine z_iadd C dX1_watcher_72 ?_
        refine z_put C (ref := "ShadowWalls") (T := TX1) (N := 11) (ci := 1) (ty := .int) (ws' := (cw cI h (sU (sU σ 3 ((σ 4 1).toNat) (12 * y + x)) 4 1 ((σ 4 1) + 1)) LT γ φ)) 0 9 inU_X1_X1_watcher tyX1 tyX1_ok nmX1 rfl rfl (by decide) (by decide +kernel) (fun _ h9 => h9) rfl (by decide +kernel) (rfl) (rfl) (Nat.le_of_ble_eq_true rfl) rfl dX1_watcher_73 ?_
        refine z_iload C 0 dX1_watcher_76 rfl ?_
        exact hret _ _ _ _ dX1_watcher_78 ⟨rfl, by rfl⟩
      ·
        exfalso; omega
    ·
      exfalso; omega

abbrev rm_X1_creeps : Room := { frames := 7, cells := 0, slots := 0, locals := 121 }
set_option maxHeartbeats 4000000 in
set_option maxRecDepth 100000 in
theorem c_X1_creeps (l : Launch) (D : va_G) (cI cJ : ClassId) (h : Nat → Nat) (σ : YS) (LT : Nat → Int) (γ : YS) (φ : Nat → Int) (w x y : Int) (hw : 0 ≤ w ∧ w < σ 4 1) (hx : 0 ≤ x ∧ x < 12) (hy : 0 ≤ y ∧ y < 12) (hO : Ok σ) (hL : LR LT) : Ci l yX1_creeps wsX1_creeps rm_X1_creeps D [(cI, .int), (cJ, .long)] [.ref (h 0), vI w, vI x, vI y] (cw cI h σ LT γ φ) (fun z u => ∃ γ' : YS, u = (cw cI h σ LT γ' φ) ∧ z = dS nbN (frB σ LT) (σ 3 w.toNat).toNat (12 * y + x).toNat) := by
  refine z_ofi (own := RX1) (cc := cX1_creeps) (maxL := 4) (lv := [(0, .ref (h 0)), (1, vI w), (2, vI x), (3, vI y)]) (by decide) rfl rfl (Nat.le_of_ble_eq_true rfl) rfl ?_
  intro p e s m args below meth cd Q A C hret
  have hn := hO.1
  have hm := hO.2.1
  have en := nLa_e hO
  have em := nWa_e hO
  have hcc : 0 ≤ 12 * y + x ∧ 12 * y + x < 144 := by omega
  have ecc : (((12 * y + x).toNat : Nat) : Int) = 12 * y + x := Int.toNat_of_nonneg hcc.1
  have h1 := hO.2.2.2.1 w.toNat (by omega)
  have hp := dS_p nbN (frB σ LT) (st := (σ 3 w.toNat).toNat) (by omega)
  refine z_aload_n C 0 dX1_creeps_0 rfl ?_
  refine z_iload_n C 1 dX1_creeps_1 rfl ?_
  refine z_callVv C (As := [vI w]) (st := []) (y := yX1_requireWatcher) (w := wsX1_requireWatcher) (rm := rm_X1_requireWatcher) (wr := []) (k' := 0) (n' := 0) [0, 1, 2, 3, 4, 5, 6, 7, 8] [] 0 (c_X1_requireWatcher l D cI cJ h σ LT γ φ w (by omega)) (cwV 1 C.1.2.2.2.2 gX1_creeps_X1_requireWatcher rfl rfl rfl (by decide +kernel) ⟨Nat.le_of_ble_eq_true rfl, Nat.le_of_ble_eq_true rfl⟩) rfl rfl rfl rfl rfl (by decide) rfl rfl rfl rfl (Nat.le_of_ble_eq_true rfl) rfl rfl ⟨Nat.le_of_ble_eq_true rfl, Nat.le_of_ble_eq_true rfl⟩ dX1_creeps_2 ?_
  rintro _ rfl
  refine z_ws (ws' := (cw cI h σ LT γ φ)) rfl ?_
  refine z_iload_n C 2 dX1_creeps_5 rfl ?_
  refine z_iload_n C 3 dX1_creeps_6 rfl ?_
  refine z_callSv C (As := [vI x, vI y]) (st := []) (y := yX1_requirePlace) (w := wsX1_requirePlace) (rm := rm_X1_requirePlace) (wr := (cw cI h σ LT γ φ)) (k' := 0) (n' := 0) [] [0, 1, 2, 3, 4, 5, 6, 7, 8] (c_X1_requirePlace l D cI cJ  x y (by omega)) (va_cwS 2 C.1.2.2.2.2 gX1_creeps_X1_requirePlace rfl rfl rfl (by decide +kernel) ⟨Nat.le_of_ble_eq_true rfl, Nat.le_of_ble_eq_true rfl⟩) rfl rfl rfl rfl rfl (by decide) rfl rfl (Nat.le_of_ble_eq_true rfl) rfl rfl ⟨Nat.le_of_ble_eq_true rfl, Nat.le_of_ble_eq_true rfl⟩ dX1_creeps_7 ?_
  rintro _ rfl
  refine z_ws (ws' := (cw cI h σ LT γ φ)) rfl ?_
  refine z_aload_n C 0 dX1_creeps_10 rfl ?_
  refine z_iload_n C 1 dX1_creeps_11 rfl ?_
  refine z_iload_n C 2 dX1_creeps_12 rfl ?_
  refine z_iload_n C 3 dX1_creeps_13 rfl ?_
  refine z_callSi C (As := [vI x, vI y]) (st := [vI w, .ref (h 0)]) (y := yX1_cellAt) (w := wsX1_cellAt) (rm := rm_X1_cellAt) (wr := (cw cI h σ LT γ φ)) (k' := 0) (n' := 0) [] [0, 1, 2, 3, 4, 5, 6, 7, 8] (c_X1_cellAt l D cI cJ  x y ) (va_cwS 2 C.1.2.2.2.2 gX1_creeps_X1_cellAt rfl rfl rfl (by decide +kernel) ⟨Nat.le_of_ble_eq_true rfl, Nat.le_of_ble_eq_true rfl⟩) rfl rfl rfl rfl rfl (by decide) rfl rfl (Nat.le_of_ble_eq_true rfl) rfl rfl ⟨Nat.le_of_ble_eq_true rfl, Nat.le_of_ble_eq_true rfl⟩ dX1_creeps_14 ?_
  rintro z_14 _ ⟨rfl, rfl⟩
  refine z_ws (ws' := (cw cI h σ LT γ φ)) rfl ?_
  refine z_st (v' := (12 * y + x)) rfl ?_
  refine z_callVi C (As := [vI w, vI (12 * y + x)]) (st := []) (y := yX1_stepsTo) (w := wsX1_stepsTo) (rm := rm_X1_stepsTo) (wr := []) (k' := 0) (n' := 0) [0, 1, 2, 3, 4, 5, 6, 7, 8] [] 0 (c_X1_stepsTo l D cI cJ h σ LT γ φ w (12 * y + x) (by omega) (by omega) hO hL) (cwV 2 C.1.2.2.2.2 gX1_creeps_X1_stepsTo rfl rfl rfl (by decide +kernel) ⟨Nat.le_of_ble_eq_true rfl, Nat.le_of_ble_eq_true rfl⟩) rfl rfl rfl rfl rfl (by decide) rfl rfl rfl rfl (Nat.le_of_ble_eq_true rfl) rfl rfl ⟨Nat.le_of_ble_eq_true rfl, Nat.le_of_ble_eq_true rfl⟩ dX1_creeps_17 ?_
  rintro z_17 _ ⟨γ'_17, rfl, f0_17, f1_17⟩
  refine z_ws (ws' := (cw cI h σ LT γ'_17 φ)) rfl ?_
  exact hret _ _ _ _ dX1_creeps_20 ⟨_, rfl, by exact f0_17 _ hp⟩

abbrev rm_X1_told : Room := { frames := 7, cells := 0, slots := 0, locals := 121 }
set_option maxHeartbeats 4000000 in
set_option maxRecDepth 100000 in
theorem c_X1_told (l : Launch) (D : va_G) (cI cJ : ClassId) (h : Nat → Nat) (σ : YS) (LT : Nat → Int) (γ : YS) (φ : Nat → Int) (x y wh : Int) (hx : 0 ≤ x ∧ x < 12) (hy : 0 ≤ y ∧ y < 12) (hwh : 0 ≤ wh ∧ wh < 5) (hO : Ok σ) (hL : LR LT) : Ci l yX1_told wsX1_told rm_X1_told D [(cI, .int), (cJ, .long)] [.ref (h 0), vI x, vI y, vI wh] (cw cI h σ LT γ φ) (fun z u => ∃ φ' : Nat → Int, u = (cw cI h σ LT γ φ') ∧ z = tolV σ LT (12 * y + x).toNat wh) := by
  refine z_ofi (own := RX1) (cc := cX1_told) (maxL := 5) (lv := [(0, .ref (h 0)), (1, vI x), (2, vI y), (3, vI wh)]) (by decide) rfl rfl (Nat.le_of_ble_eq_true rfl) rfl ?_
  intro p e s m args below meth cd Q A C hret
  have hn := hO.1
  have hm := hO.2.1
  have en := nLa_e hO
  have em := nWa_e hO
  have hcc : 0 ≤ 12 * y + x ∧ 12 * y + x < 144 := by omega
  have ecc : (((12 * y + x).toNat : Nat) : Int) = 12 * y + x := Int.toNat_of_nonneg hcc.1
  refine z_iload_n C 1 dX1_told_0 rfl ?_
  refine z_iload_n C 2 dX1_told_1 rfl ?_
  refine z_callSv C (As := [vI x, vI y]) (st := []) (y := yX1_requirePlace) (w := wsX1_requirePlace) (rm := rm_X1_requirePlace) (wr := (cw cI h σ LT γ φ)) (k' := 0) (n' := 0) [] [0, 1, 2, 3, 4, 5, 6, 7, 8] (c_X1_requirePlace l D cI cJ  x y (by omega)) (va_cwS 2 C.1.2.2.2.2 gX1_told_X1_requirePlace rfl rfl rfl (by decide +kernel) ⟨Nat.le_of_ble_eq_true rfl, Nat.le_of_ble_eq_true rfl⟩) rfl rfl rfl rfl rfl (by decide) rfl rfl (Nat.le_of_ble_eq_true rfl) rfl rfl ⟨Nat.le_of_ble_eq_true rfl, Nat.le_of_ble_eq_true rfl⟩ dX1_told_2 ?_
  rintro _ rfl
  refine z_ws (ws' := (cw cI h σ LT γ φ)) rfl ?_
  refine z_iload_n C 3 dX1_told_5 rfl ?_
  refine z_iconst C dX1_told_6 ?_
  refine z_callSv C (As := [vI wh, vI 4]) (st := []) (y := yX1_requireWhat) (w := wsX1_requireWhat) (rm := rm_X1_requireWhat) (wr := (cw cI h σ LT γ φ)) (k' := 0) (n' := 0) [] [0, 1, 2, 3, 4, 5, 6, 7, 8] (c_X1_requireWhat l D cI cJ  wh 4 (by omega)) (va_cwS 2 C.1.2.2.2.2 gX1_told_X1_requireWhat rfl rfl rfl (by decide +kernel) ⟨Nat.le_of_ble_eq_true rfl, Nat.le_of_ble_eq_true rfl⟩) rfl rfl rfl rfl rfl (by decide) rfl rfl (Nat.le_of_ble_eq_true rfl) rfl rfl ⟨Nat.le_of_ble_eq_true rfl, Nat.le_of_ble_eq_true rfl⟩ dX1_told_7 ?_
  rintro _ rfl
  refine z_ws (ws' := (cw cI h σ LT γ φ)) rfl ?_
  refine z_iload_n C 1 dX1_told_10 rfl ?_
  refine z_iload_n C 2 dX1_told_11 rfl ?_
  refine z_callSi C (As := [vI x, vI y]) (st := []) (y := yX1_cellAt) (w := wsX1_cellAt) (rm := rm_X1_cellAt) (wr := (cw cI h σ LT γ φ)) (k' := 0) (n' := 0) [] [0, 1, 2, 3, 4, 5, 6, 7, 8] (c_X1_cellAt l D cI cJ  x y ) (va_cwS 2 C.1.2.2.2.2 gX1_told_X1_cellAt rfl rfl rfl (by decide +kernel) ⟨Nat.le_of_ble_eq_true rfl, Nat.le_of_ble_eq_true rfl⟩) rfl rfl rfl rfl rfl (by decide) rfl rfl (Nat.le_of_ble_eq_true rfl) rfl rfl ⟨Nat.le_of_ble_eq_true rfl, Nat.le_of_ble_eq_true rfl⟩ dX1_told_12 ?_
  rintro z_12 _ ⟨rfl, rfl⟩
  refine z_ws (ws' := (cw cI h σ LT γ φ)) rfl ?_
  refine z_st (v' := (12 * y + x)) rfl ?_
  refine z_istore C [(4, vI (12 * y + x)), (0, .ref (h 0)), (1, vI x), (2, vI y), (3, vI wh)] dX1_told_15 (by decide) rfl ?_
  refine z_iload_n C 4 dX1_told_17 rfl ?_
  rcases (show wh = 0 ∨ wh = 1 ∨ wh = 2 ∨ wh = 3 ∨ (wh ≠ 0 ∧ wh ≠ 1 ∧ wh ≠ 2 ∧ wh ≠ 3) by omega) with k_18 | k_18 | k_18 | k_18 | k_18
  ·
    refine z_tabIn C (off := 30) (tgt := 48) dX1_told_18 (by omega) (by omega) (by omega) (by rw [k_18]; rfl) (by decide) ?_
    refine z_aload_n C 1 dX1_told_48 rfl ?_
    refine z_iload C 0 dX1_told_49 rfl ?_
    refine z_callVi C (As := [vI (12 * y + x)]) (st := []) (y := yX1_kindOf) (w := wsX1_kindOf) (rm := rm_X1_kindOf) (wr := []) (k' := 0) (n' := 0) [0, 1, 2, 3, 4, 5, 6, 7, 8] [] 0 (c_X1_kindOf l D cI cJ h σ LT γ φ (12 * y + x) (by omega)) (cwV 1 C.1.2.2.2.2 gX1_told_X1_kindOf rfl rfl rfl (by decide +kernel) ⟨Nat.le_of_ble_eq_true rfl, Nat.le_of_ble_eq_true rfl⟩) rfl rfl rfl rfl rfl (by decide) rfl rfl rfl rfl (Nat.le_of_ble_eq_true rfl) rfl rfl ⟨Nat.le_of_ble_eq_true rfl, Nat.le_of_ble_eq_true rfl⟩ dX1_told_51 ?_
    rintro z_51 _ ⟨rfl, rfl⟩
    refine z_ws (ws' := (cw cI h σ LT γ φ)) rfl ?_
    refine z_st (v' := (σ 0 (12 * y + x).toNat)) rfl ?_
    exact hret _ _ _ _ dX1_told_54 ⟨_, rfl, by first | (simp [tolV, k_18]; done) | (simp [tolV, k_18, hz_58]; done) | (simp [tolV, k_18, hz_68]; done) | (simp [tolV, k_18, hz_75, ecc]; done) | (simp [tolV, k_18, hz_82]; done)⟩
  ·
    refine z_tabIn C (off := 37) (tgt := 55) dX1_told_18 (by omega) (by omega) (by omega) (by rw [k_18]; rfl) (by decide) ?_
    refine z_aload_n C 1 dX1_told_55 rfl ?_
    refine z_iload C 0 dX1_told_56 rfl ?_
    refine z_callVi C (As := [vI (12 * y + x)]) (st := []) (y := yX1_brightness) (w := wsX1_brightness) (rm := rm_X1_brightness) (wr := []) (k' := 0) (n' := 0) [0, 1, 2, 3, 4, 5, 6, 7, 8] [] 0 (c_X1_brightness l D cI cJ h σ LT γ φ (12 * y + x) (by omega) hO hL) (cwV 1 C.1.2.2.2.2 gX1_told_X1_brightness rfl rfl rfl (by decide +kernel) ⟨Nat.le_of_ble_eq_true rfl, Nat.le_of_ble_eq_true rfl⟩) rfl rfl rfl rfl rfl (by decide) rfl rfl rfl rfl (Nat.le_of_ble_eq_true rfl) rfl rfl ⟨Nat.le_of_ble_eq_true rfl, Nat.le_of_ble_eq_true rfl⟩ dX1_told_58 ?_
    rintro z_58 _ ⟨rfl, hz_58⟩
    refine z_ws (ws' := (cw cI h σ LT γ φ)) rfl ?_
    have r_58 := brC_r hO LT (show ((12 * y + x)).toNat < 144 by omega)
    rw [← hz_58] at r_58
    have hz_58 : z_58 = brC σ LT (12 * y + x).toNat := hz_58
    exact hret _ _ _ _ dX1_told_61 ⟨_, rfl, by first | (simp [tolV, k_18]; done) | (simp [tolV, k_18, hz_58]; done) | (simp [tolV, k_18, hz_68]; done) | (simp [tolV, k_18, hz_75, ecc]; done) | (simp [tolV, k_18, hz_82]; done)⟩
  ·
    refine z_tabIn C (off := 44) (tgt := 62) dX1_told_18 (by omega) (by omega) (by omega) (by rw [k_18]; rfl) (by decide) ?_
    refine z_aload_n C 1 dX1_told_62 rfl ?_
    refine z_iload C 0 dX1_told_63 rfl ?_
    refine z_callVi C (As := [vI (12 * y + x)]) (st := []) (y := yX1_lampsOn) (w := wsX1_lampsOn) (rm := rm_X1_lampsOn) (wr := []) (k' := 0) (n' := 0) [0, 1, 2, 3, 4, 5, 6, 7, 8] [] 0 (c_X1_lampsOn l D cI cJ h σ LT γ φ (12 * y + x) (by omega)) (cwV 1 C.1.2.2.2.2 gX1_told_X1_lampsOn rfl rfl rfl (by decide +kernel) ⟨Nat.le_of_ble_eq_true rfl, Nat.le_of_ble_eq_true rfl⟩) rfl rfl rfl rfl rfl (by decide) rfl rfl rfl rfl (Nat.le_of_ble_eq_true rfl) rfl rfl ⟨Nat.le_of_ble_eq_true rfl, Nat.le_of_ble_eq_true rfl⟩ dX1_told_65 ?_
    rintro z_65 _ ⟨rfl, rfl⟩
    refine z_ws (ws' := (cw cI h σ LT γ φ)) rfl ?_
    refine z_st (v' := (LT (12 * y + x).toNat)) rfl ?_
    refine z_callSi C (As := [vI (LT (12 * y + x).toNat)]) (st := []) (y := yJ6_bitCount_0f7a4) (w := wsJ6_bitCount_0f7a4) (rm := rm_J6_bitCount_0f7a4) (wr := (cw cI h σ LT γ φ)) (k' := 0) (n' := 0) [] [0, 1, 2, 3, 4, 5, 6, 7, 8] (c_J6_bitCount_0f7a4 l D cI cJ  (LT (12 * y + x).toNat) (hL _)) (va_cwS 1 C.1.2.2.2.2 gX1_told_J6_bitCount_0f7a4 rfl rfl rfl (by decide +kernel) ⟨Nat.le_of_ble_eq_true rfl, Nat.le_of_ble_eq_true rfl⟩) rfl rfl rfl rfl rfl (by decide) rfl rfl (Nat.le_of_ble_eq_true rfl) rfl rfl ⟨Nat.le_of_ble_eq_true rfl, Nat.le_of_ble_eq_true rfl⟩ dX1_told_68 ?_
    rintro z_68 _ ⟨rfl, hz_68⟩
    refine z_ws (ws' := (cw cI h σ LT γ φ)) rfl ?_
    have hz_68 : z_68 = sm (fun k => bI (bt (LT (12 * y + x).toNat) k)) 4 := hz_68
    exact hret _ _ _ _ dX1_told_71 ⟨_, rfl, by first | (simp [tolV, k_18]; done) | (simp [tolV, k_18, hz_58]; done) | (simp [tolV, k_18, hz_68]; done) | (simp [tolV, k_18, hz_75, ecc]; done) | (simp [tolV, k_18, hz_82]; done)⟩
  ·
    refine z_tabIn C (off := 54) (tgt := 72) dX1_told_18 (by omega) (by omega) (by omega) (by rw [k_18]; rfl) (by decide) ?_
    refine z_aload_n C 1 dX1_told_72 rfl ?_
    refine z_iload C 0 dX1_told_73 rfl ?_
    refine z_callVi C (As := [vI (12 * y + x)]) (st := []) (y := yX1_watchersAt) (w := wsX1_watchersAt) (rm := rm_X1_watchersAt) (wr := []) (k' := 0) (n' := 0) [0, 1, 2, 3, 4, 5, 6, 7, 8] [] 0 (c_X1_watchersAt l D cI cJ h σ LT γ φ (12 * y + x) (by omega) hO) (cwV 1 C.1.2.2.2.2 gX1_told_X1_watchersAt rfl rfl rfl (by decide +kernel) ⟨Nat.le_of_ble_eq_true rfl, Nat.le_of_ble_eq_true rfl⟩) rfl rfl rfl rfl rfl (by decide) rfl rfl rfl rfl (Nat.le_of_ble_eq_true rfl) rfl rfl ⟨Nat.le_of_ble_eq_true rfl, Nat.le_of_ble_eq_true rfl⟩ dX1_told_75 ?_
    rintro z_75 _ ⟨rfl, hz_75⟩
    refine z_ws (ws' := (cw cI h σ LT γ φ)) rfl ?_
    have hz_75 : z_75 = sm (fun w => bI (decide (σ 3 w = (12 * y + x)))) (nWa σ) := hz_75
    exact hret _ _ _ _ dX1_told_78 ⟨_, rfl, by first | (simp [tolV, k_18]; done) | (simp [tolV, k_18, hz_58]; done) | (simp [tolV, k_18, hz_68]; done) | (simp [tolV, k_18, hz_75, ecc]; done) | (simp [tolV, k_18, hz_82]; done)⟩
  ·
    refine z_tabOut C (tgt := 79) dX1_told_18 (by omega) (by omega) (by decide) ?_
    refine z_aload_n C 1 dX1_told_79 rfl ?_
    refine z_iload C 0 dX1_told_80 rfl ?_
    refine z_callVi C (As := [vI (12 * y + x)]) (st := []) (y := yX1_watchersSeeing) (w := wsX1_watchersSeeing) (rm := rm_X1_watchersSeeing) (wr := []) (k' := 0) (n' := 0) [0, 1, 2, 3, 4, 5, 6, 7, 8] [] 0 (c_X1_watchersSeeing l D cI cJ h σ LT γ φ (12 * y + x) (by omega) hO hL) (cwV 1 C.1.2.2.2.2 gX1_told_X1_watchersSeeing rfl rfl rfl (by decide +kernel) ⟨Nat.le_of_ble_eq_true rfl, Nat.le_of_ble_eq_true rfl⟩) rfl rfl rfl rfl rfl (by decide) rfl rfl rfl rfl (Nat.le_of_ble_eq_true rfl) rfl rfl ⟨Nat.le_of_ble_eq_true rfl, Nat.le_of_ble_eq_true rfl⟩ dX1_told_82 ?_
    rintro z_82 _ ⟨φ'_82, rfl, hz_82⟩
    refine z_ws (ws' := (cw cI h σ LT γ φ'_82)) rfl ?_
    have r_82 := smB_r (fun o => seeB σ LT o (12 * y + x).toNat) ((nWa σ))
    rw [← hz_82] at r_82
    have hz_82 : z_82 = sm (fun o => bI (seeB σ LT o (12 * y + x).toNat)) (nWa σ) := hz_82
    exact hret _ _ _ _ dX1_told_85 ⟨_, rfl, by first | (simp [tolV, k_18]; done) | (simp [tolV, k_18, hz_58]; done) | (simp [tolV, k_18, hz_68]; done) | (simp [tolV, k_18, hz_75, ecc]; done) | (simp [tolV, k_18, hz_82]; done)⟩

abbrev rm_X1_about : Room := { frames := 7, cells := 0, slots := 0, locals := 121 }
set_option maxHeartbeats 4000000 in
set_option maxRecDepth 100000 in
theorem c_X1_about (l : Launch) (D : va_G) (cI cJ : ClassId) (h : Nat → Nat) (σ : YS) (LT : Nat → Int) (γ : YS) (φ : Nat → Int) (k wh : Int) (hk : 0 ≤ k ∧ k < σ 4 0) (hwh : 0 ≤ wh ∧ wh < 4) (hO : Ok σ) (hL : LR LT) : Ci l yX1_about wsX1_about rm_X1_about D [(cI, .int), (cJ, .long)] [.ref (h 0), vI k, vI wh] (cw cI h σ LT γ φ) (fun z u => u = (cw cI h σ LT γ φ) ∧ z = aboV σ LT k.toNat wh) := by
  refine z_ofi (own := RX1) (cc := cX1_about) (maxL := 3) (lv := [(0, .ref (h 0)), (1, vI k), (2, vI wh)]) (by decide) rfl rfl (Nat.le_of_ble_eq_true rfl) rfl ?_
  intro p e s m args below meth cd Q A C hret
  have hn := hO.1
  have hm := hO.2.1
  have en := nLa_e hO
  have em := nWa_e hO
  refine z_aload_n C 0 dX1_about_0 rfl ?_
  refine z_iload_n C 1 dX1_about_1 rfl ?_
  refine z_callVv C (As := [vI k]) (st := []) (y := yX1_requireLamp) (w := wsX1_requireLamp) (rm := rm_X1_requireLamp) (wr := []) (k' := 0) (n' := 0) [0, 1, 2, 3, 4, 5, 6, 7, 8] [] 0 (c_X1_requireLamp l D cI cJ h σ LT γ φ k (by omega)) (cwV 1 C.1.2.2.2.2 gX1_about_X1_requireLamp rfl rfl rfl (by decide +kernel) ⟨Nat.le_of_ble_eq_true rfl, Nat.le_of_ble_eq_true rfl⟩) rfl rfl rfl rfl rfl (by decide) rfl rfl rfl rfl (Nat.le_of_ble_eq_true rfl) rfl rfl ⟨Nat.le_of_ble_eq_true rfl, Nat.le_of_ble_eq_true rfl⟩ dX1_about_2 ?_
  rintro _ rfl
  refine z_ws (ws' := (cw cI h σ LT γ φ)) rfl ?_
  refine z_iload_n C 2 dX1_about_5 rfl ?_
  refine z_iconst C dX1_about_6 ?_
  refine z_callSv C (As := [vI wh, vI 3]) (st := []) (y := yX1_requireWhat) (w := wsX1_requireWhat) (rm := rm_X1_requireWhat) (wr := (cw cI h σ LT γ φ)) (k' := 0) (n' := 0) [] [0, 1, 2, 3, 4, 5, 6, 7, 8] (c_X1_requireWhat l D cI cJ  wh 3 (by omega)) (va_cwS 2 C.1.2.2.2.2 gX1_about_X1_requireWhat rfl rfl rfl (by decide +kernel) ⟨Nat.le_of_ble_eq_true rfl, Nat.le_of_ble_eq_true rfl⟩) rfl rfl rfl rfl rfl (by decide) rfl rfl (Nat.le_of_ble_eq_true rfl) rfl rfl ⟨Nat.le_of_ble_eq_true rfl, Nat.le_of_ble_eq_true rfl⟩ dX1_about_7 ?_
  rintro _ rfl
  refine z_ws (ws' := (cw cI h σ LT γ φ)) rfl ?_
  refine z_iload_n C 2 dX1_about_10 rfl ?_
  rcases (show wh = 0 ∨ wh = 1 ∨ wh = 2 ∨ (wh ≠ 0 ∧ wh ≠ 1 ∧ wh ≠ 2) by omega) with k_11 | k_11 | k_11 | k_11
  ·
    refine z_tabIn C (off := 25) (tgt := 36) dX1_about_11 (by omega) (by omega) (by omega) (by rw [k_11]; rfl) (by decide) ?_
    refine z_aload_n C 0 dX1_about_36 rfl ?_
    refine z_iload_n C 1 dX1_about_37 rfl ?_
    refine z_callVi C (As := [vI k]) (st := []) (y := yX1_cellOfLamp) (w := wsX1_cellOfLamp) (rm := rm_X1_cellOfLamp) (wr := []) (k' := 0) (n' := 0) [0, 1, 2, 3, 4, 5, 6, 7, 8] [] 0 (c_X1_cellOfLamp l D cI cJ h σ LT γ φ k (by omega)) (cwV 1 C.1.2.2.2.2 gX1_about_X1_cellOfLamp rfl rfl rfl (by decide +kernel) ⟨Nat.le_of_ble_eq_true rfl, Nat.le_of_ble_eq_true rfl⟩) rfl rfl rfl rfl rfl (by decide) rfl rfl rfl rfl (Nat.le_of_ble_eq_true rfl) rfl rfl ⟨Nat.le_of_ble_eq_true rfl, Nat.le_of_ble_eq_true rfl⟩ dX1_about_38 ?_
    rintro z_38 _ ⟨rfl, rfl⟩
    refine z_ws (ws' := (cw cI h σ LT γ φ)) rfl ?_
    refine z_st (v' := (σ 1 k.toNat)) rfl ?_
    exact hret _ _ _ _ dX1_about_41 ⟨rfl, by first | (simp [aboV, k_11]; done) | (simp [aboV, k_11, hz_50]; done) | (simp [aboV, k_11, hz_56]; done)⟩
  ·
    refine z_tabIn C (off := 31) (tgt := 42) dX1_about_11 (by omega) (by omega) (by omega) (by rw [k_11]; rfl) (by decide) ?_
    refine z_aload_n C 0 dX1_about_42 rfl ?_
    refine z_iload_n C 1 dX1_about_43 rfl ?_
    refine z_callVi C (As := [vI k]) (st := []) (y := yX1_reachOf) (w := wsX1_reachOf) (rm := rm_X1_reachOf) (wr := []) (k' := 0) (n' := 0) [0, 1, 2, 3, 4, 5, 6, 7, 8] [] 0 (c_X1_reachOf l D cI cJ h σ LT γ φ k (by omega)) (cwV 1 C.1.2.2.2.2 gX1_about_X1_reachOf rfl rfl rfl (by decide +kernel) ⟨Nat.le_of_ble_eq_true rfl, Nat.le_of_ble_eq_true rfl⟩) rfl rfl rfl rfl rfl (by decide) rfl rfl rfl rfl (Nat.le_of_ble_eq_true rfl) rfl rfl ⟨Nat.le_of_ble_eq_true rfl, Nat.le_of_ble_eq_true rfl⟩ dX1_about_44 ?_
    rintro z_44 _ ⟨rfl, rfl⟩
    refine z_ws (ws' := (cw cI h σ LT γ φ)) rfl ?_
    refine z_st (v' := (σ 2 k.toNat)) rfl ?_
    exact hret _ _ _ _ dX1_about_47 ⟨rfl, by first | (simp [aboV, k_11]; done) | (simp [aboV, k_11, hz_50]; done) | (simp [aboV, k_11, hz_56]; done)⟩
  ·
    refine z_tabIn C (off := 37) (tgt := 48) dX1_about_11 (by omega) (by omega) (by omega) (by rw [k_11]; rfl) (by decide) ?_
    refine z_aload_n C 0 dX1_about_48 rfl ?_
    refine z_iload_n C 1 dX1_about_49 rfl ?_
    refine z_callVi C (As := [vI k]) (st := []) (y := yX1_cellsLitBy) (w := wsX1_cellsLitBy) (rm := rm_X1_cellsLitBy) (wr := []) (k' := 0) (n' := 0) [0, 1, 2, 3, 4, 5, 6, 7, 8] [] 0 (c_X1_cellsLitBy l D cI cJ h σ LT γ φ k (by omega) hL) (cwV 1 C.1.2.2.2.2 gX1_about_X1_cellsLitBy rfl rfl rfl (by decide +kernel) ⟨Nat.le_of_ble_eq_true rfl, Nat.le_of_ble_eq_true rfl⟩) rfl rfl rfl rfl rfl (by decide) rfl rfl rfl rfl (Nat.le_of_ble_eq_true rfl) rfl rfl ⟨Nat.le_of_ble_eq_true rfl, Nat.le_of_ble_eq_true rfl⟩ dX1_about_50 ?_
    rintro z_50 _ ⟨rfl, hz_50⟩
    refine z_ws (ws' := (cw cI h σ LT γ φ)) rfl ?_
    have r_50 := smB_r (fun c => bt (LT c) k.toNat) (144)
    rw [← hz_50] at r_50
    have hz_50 : z_50 = sm (fun c => bI (bt (LT c) k.toNat)) 144 := hz_50
    exact hret _ _ _ _ dX1_about_53 ⟨rfl, by first | (simp [aboV, k_11]; done) | (simp [aboV, k_11, hz_50]; done) | (simp [aboV, k_11, hz_56]; done)⟩
  ·
    refine z_tabOut C (tgt := 54) dX1_about_11 (by omega) (by omega) (by decide) ?_
    refine z_aload_n C 0 dX1_about_54 rfl ?_
    refine z_iload_n C 1 dX1_about_55 rfl ?_
    refine z_callVi C (As := [vI k]) (st := []) (y := yX1_cellsLitOnlyBy) (w := wsX1_cellsLitOnlyBy) (rm := rm_X1_cellsLitOnlyBy) (wr := []) (k' := 0) (n' := 0) [0, 1, 2, 3, 4, 5, 6, 7, 8] [] 0 (c_X1_cellsLitOnlyBy l D cI cJ h σ LT γ φ k (by omega) hL) (cwV 1 C.1.2.2.2.2 gX1_about_X1_cellsLitOnlyBy rfl rfl rfl (by decide +kernel) ⟨Nat.le_of_ble_eq_true rfl, Nat.le_of_ble_eq_true rfl⟩) rfl rfl rfl rfl rfl (by decide) rfl rfl rfl rfl (Nat.le_of_ble_eq_true rfl) rfl rfl ⟨Nat.le_of_ble_eq_true rfl, Nat.le_of_ble_eq_true rfl⟩ dX1_about_56 ?_
    rintro z_56 _ ⟨rfl, hz_56⟩
    refine z_ws (ws' := (cw cI h σ LT γ φ)) rfl ?_
    have r_56 := smB_r (fun c => decide (LT c = 2 ^ k.toNat)) (144)
    rw [← hz_56] at r_56
    have hz_56 : z_56 = sm (fun c => bI (decide (LT c = 2 ^ k.toNat))) 144 := hz_56
    exact hret _ _ _ _ dX1_about_59 ⟨rfl, by first | (simp [aboV, k_11]; done) | (simp [aboV, k_11, hz_50]; done) | (simp [aboV, k_11, hz_56]; done)⟩

abbrev rm_X1_seat : Room := { frames := 7, cells := 0, slots := 0, locals := 121 }
set_option maxHeartbeats 4000000 in
set_option maxRecDepth 100000 in
theorem c_X1_seat (l : Launch) (D : va_G) (cI cJ : ClassId) (h : Nat → Nat) (σ : YS) (LT : Nat → Int) (γ : YS) (φ : Nat → Int) (w wh : Int) (hw : 0 ≤ w ∧ w < σ 4 1) (hwh : 0 ≤ wh ∧ wh < 5) (hO : Ok σ) (hL : LR LT) : Ci l yX1_seat wsX1_seat rm_X1_seat D [(cI, .int), (cJ, .long)] [.ref (h 0), vI w, vI wh] (cw cI h σ LT γ φ) (fun z u => ∃ φ' : Nat → Int, u = (cw cI h σ LT γ φ') ∧ z = seaV σ LT w.toNat wh) := by
  refine z_ofi (own := RX1) (cc := cX1_seat) (maxL := 3) (lv := [(0, .ref (h 0)), (1, vI w), (2, vI wh)]) (by decide) rfl rfl (Nat.le_of_ble_eq_true rfl) rfl ?_
  intro p e s m args below meth cd Q A C hret
  have hn := hO.1
  have hm := hO.2.1
  have en := nLa_e hO
  have em := nWa_e hO
  have h1 := hO.2.2.2.1 w.toNat (by omega)
  refine z_aload_n C 0 dX1_seat_0 rfl ?_
  refine z_iload_n C 1 dX1_seat_1 rfl ?_
  refine z_callVv C (As := [vI w]) (st := []) (y := yX1_requireWatcher) (w := wsX1_requireWatcher) (rm := rm_X1_requireWatcher) (wr := []) (k' := 0) (n' := 0) [0, 1, 2, 3, 4, 5, 6, 7, 8] [] 0 (c_X1_requireWatcher l D cI cJ h σ LT γ φ w (by omega)) (cwV 1 C.1.2.2.2.2 gX1_seat_X1_requireWatcher rfl rfl rfl (by decide +kernel) ⟨Nat.le_of_ble_eq_true rfl, Nat.le_of_ble_eq_true rfl⟩) rfl rfl rfl rfl rfl (by decide) rfl rfl rfl rfl (Nat.le_of_ble_eq_true rfl) rfl rfl ⟨Nat.le_of_ble_eq_true rfl, Nat.le_of_ble_eq_true rfl⟩ dX1_seat_2 ?_
  rintro _ rfl
  refine z_ws (ws' := (cw cI h σ LT γ φ)) rfl ?_
  refine z_iload_n C 2 dX1_seat_5 rfl ?_
  refine z_iconst C dX1_seat_6 ?_
  refine z_callSv C (As := [vI wh, vI 4]) (st := []) (y := yX1_requireWhat) (w := wsX1_requireWhat) (rm := rm_X1_requireWhat) (wr := (cw cI h σ LT γ φ)) (k' := 0) (n' := 0) [] [0, 1, 2, 3, 4, 5, 6, 7, 8] (c_X1_requireWhat l D cI cJ  wh 4 (by omega)) (va_cwS 2 C.1.2.2.2.2 gX1_seat_X1_requireWhat rfl rfl rfl (by decide +kernel) ⟨Nat.le_of_ble_eq_true rfl, Nat.le_of_ble_eq_true rfl⟩) rfl rfl rfl rfl rfl (by decide) rfl rfl (Nat.le_of_ble_eq_true rfl) rfl rfl ⟨Nat.le_of_ble_eq_true rfl, Nat.le_of_ble_eq_true rfl⟩ dX1_seat_7 ?_
  rintro _ rfl
  refine z_ws (ws' := (cw cI h σ LT γ φ)) rfl ?_
  refine z_iload_n C 2 dX1_seat_10 rfl ?_
  rcases (show wh = 0 ∨ wh = 1 ∨ wh = 2 ∨ wh = 3 ∨ (wh ≠ 0 ∧ wh ≠ 1 ∧ wh ≠ 2 ∧ wh ≠ 3) by omega) with k_11 | k_11 | k_11 | k_11 | k_11
  ·
    refine z_tabIn C (off := 29) (tgt := 40) dX1_seat_11 (by omega) (by omega) (by omega) (by rw [k_11]; rfl) (by decide) ?_
    refine z_aload_n C 0 dX1_seat_40 rfl ?_
    refine z_iload_n C 1 dX1_seat_41 rfl ?_
    refine z_callVi C (As := [vI w]) (st := []) (y := yX1_cellOfWatcher) (w := wsX1_cellOfWatcher) (rm := rm_X1_cellOfWatcher) (wr := []) (k' := 0) (n' := 0) [0, 1, 2, 3, 4, 5, 6, 7, 8] [] 0 (c_X1_cellOfWatcher l D cI cJ h σ LT γ φ w (by omega)) (cwV 1 C.1.2.2.2.2 gX1_seat_X1_cellOfWatcher rfl rfl rfl (by decide +kernel) ⟨Nat.le_of_ble_eq_true rfl, Nat.le_of_ble_eq_true rfl⟩) rfl rfl rfl rfl rfl (by decide) rfl rfl rfl rfl (Nat.le_of_ble_eq_true rfl) rfl rfl ⟨Nat.le_of_ble_eq_true rfl, Nat.le_of_ble_eq_true rfl⟩ dX1_seat_42 ?_
    rintro z_42 _ ⟨rfl, rfl⟩
    refine z_ws (ws' := (cw cI h σ LT γ φ)) rfl ?_
    refine z_st (v' := (σ 3 w.toNat)) rfl ?_
    exact hret _ _ _ _ dX1_seat_45 ⟨_, rfl, by first | (simp [seaV, k_11]; done) | (simp [seaV, k_11, hz_48]; done) | (simp only [seaV, k_11]; rw [bz_t hz_54 c_57]; rfl) | (simp only [seaV, k_11]; rw [bz_f hz_54 c_57]; rfl) | (simp only [seaV, k_11]; rw [bz_t hz_72 c_75]; rfl) | (simp only [seaV, k_11]; rw [bz_f hz_72 c_75]; rfl) | (simp [seaV, k_11, hz_86]; done)⟩
  ·
    refine z_tabIn C (off := 35) (tgt := 46) dX1_seat_11 (by omega) (by omega) (by omega) (by rw [k_11]; rfl) (by decide) ?_
    refine z_aload_n C 0 dX1_seat_46 rfl ?_
    refine z_iload_n C 1 dX1_seat_47 rfl ?_
    refine z_callVi C (As := [vI w]) (st := []) (y := yX1_cellsSeenBy) (w := wsX1_cellsSeenBy) (rm := rm_X1_cellsSeenBy) (wr := []) (k' := 0) (n' := 0) [0, 1, 2, 3, 4, 5, 6, 7, 8] [] 0 (c_X1_cellsSeenBy l D cI cJ h σ LT γ φ w (by omega) hO hL) (cwV 1 C.1.2.2.2.2 gX1_seat_X1_cellsSeenBy rfl rfl rfl (by decide +kernel) ⟨Nat.le_of_ble_eq_true rfl, Nat.le_of_ble_eq_true rfl⟩) rfl rfl rfl rfl rfl (by decide) rfl rfl rfl rfl (Nat.le_of_ble_eq_true rfl) rfl rfl ⟨Nat.le_of_ble_eq_true rfl, Nat.le_of_ble_eq_true rfl⟩ dX1_seat_48 ?_
    rintro z_48 _ ⟨φ'_48, rfl, hz_48⟩
    refine z_ws (ws' := (cw cI h σ LT γ φ'_48)) rfl ?_
    have r_48 := smB_r (fun o => seeB σ LT w.toNat o) (144)
    rw [← hz_48] at r_48
    have hz_48 : z_48 = sm (fun o => bI (seeB σ LT w.toNat o)) 144 := hz_48
    exact hret _ _ _ _ dX1_seat_51 ⟨_, rfl, by first | (simp [seaV, k_11]; done) | (simp [seaV, k_11, hz_48]; done) | (simp only [seaV, k_11]; rw [bz_t hz_54 c_57]; rfl) | (simp only [seaV, k_11]; rw [bz_f hz_54 c_57]; rfl) | (simp only [seaV, k_11]; rw [bz_t hz_72 c_75]; rfl) | (simp only [seaV, k_11]; rw [bz_f hz_72 c_75]; rfl) | (simp [seaV, k_11, hz_86]; done)⟩
  ·
    refine z_tabIn C (off := 41) (tgt := 52) dX1_seat_11 (by omega) (by omega) (by omega) (by rw [k_11]; rfl) (by decide) ?_
    refine z_aload_n C 0 dX1_seat_52 rfl ?_
    refine z_iload_n C 1 dX1_seat_53 rfl ?_
    refine z_callVi C (As := [vI w]) (st := []) (y := yX1_isHidden) (w := wsX1_isHidden) (rm := rm_X1_isHidden) (wr := []) (k' := 0) (n' := 0) [0, 1, 2, 3, 4, 5, 6, 7, 8] [] 0 (c_X1_isHidden l D cI cJ h σ LT γ φ w (by omega) hO hL) (cwV 1 C.1.2.2.2.2 gX1_seat_X1_isHidden rfl rfl rfl (by decide +kernel) ⟨Nat.le_of_ble_eq_true rfl, Nat.le_of_ble_eq_true rfl⟩) rfl rfl rfl rfl rfl (by decide) rfl rfl rfl rfl (Nat.le_of_ble_eq_true rfl) rfl rfl ⟨Nat.le_of_ble_eq_true rfl, Nat.le_of_ble_eq_true rfl⟩ dX1_seat_54 ?_
    rintro z_54 _ ⟨φ'_54, rfl, hz_54⟩
    refine z_ws (ws' := (cw cI h σ LT γ φ'_54)) rfl ?_
    have r_54 : z_54 = 0 ∨ z_54 = 1 := by rw [hz_54]; exact bI_01 _
    have hz_54 : z_54 = bI (hidB σ LT w.toNat) := hz_54
    refine z_if_eq C (tgt := 64) dX1_seat_57 (by decide) (by omega) (fun c_57 => ?_) (fun c_57 => ?_)
    ·
      refine z_iconst C dX1_seat_64 ?_
      exact hret _ _ _ _ dX1_seat_65 ⟨_, rfl, by first | (simp [seaV, k_11]; done) | (simp [seaV, k_11, hz_48]; done) | (simp only [seaV, k_11]; rw [bz_t hz_54 c_57]; rfl) | (simp only [seaV, k_11]; rw [bz_f hz_54 c_57]; rfl) | (simp only [seaV, k_11]; rw [bz_t hz_72 c_75]; rfl) | (simp only [seaV, k_11]; rw [bz_f hz_72 c_75]; rfl) | (simp [seaV, k_11, hz_86]; done)⟩
    ·
      refine z_iconst C dX1_seat_60 ?_
      refine z_goto C (tgt := 65) dX1_seat_61 (by decide) ?_
      exact hret _ _ _ _ dX1_seat_65 ⟨_, rfl, by first | (simp [seaV, k_11]; done) | (simp [seaV, k_11, hz_48]; done) | (simp only [seaV, k_11]; rw [bz_t hz_54 c_57]; rfl) | (simp only [seaV, k_11]; rw [bz_f hz_54 c_57]; rfl) | (simp only [seaV, k_11]; rw [bz_t hz_72 c_75]; rfl) | (simp only [seaV, k_11]; rw [bz_f hz_72 c_75]; rfl) | (simp [seaV, k_11, hz_86]; done)⟩
  ·
    refine z_tabIn C (off := 55) (tgt := 66) dX1_seat_11 (by omega) (by omega) (by omega) (by rw [k_11]; rfl) (by decide) ?_
    refine z_aload_n C 0 dX1_seat_66 rfl ?_
    refine z_aload_n C 0 dX1_seat_67 rfl ?_
    refine z_iload_n C 1 dX1_seat_68 rfl ?_
    refine z_callVi C (As := [vI w]) (st := [.ref (h 0)]) (y := yX1_cellOfWatcher) (w := wsX1_cellOfWatcher) (rm := rm_X1_cellOfWatcher) (wr := []) (k' := 0) (n' := 0) [0, 1, 2, 3, 4, 5, 6, 7, 8] [] 0 (c_X1_cellOfWatcher l D cI cJ h σ LT γ φ w (by omega)) (cwV 1 C.1.2.2.2.2 gX1_seat_X1_cellOfWatcher rfl rfl rfl (by decide +kernel) ⟨Nat.le_of_ble_eq_true rfl, Nat.le_of_ble_eq_true rfl⟩) rfl rfl rfl rfl rfl (by decide) rfl rfl rfl rfl (Nat.le_of_ble_eq_true rfl) rfl rfl ⟨Nat.le_of_ble_eq_true rfl, Nat.le_of_ble_eq_true rfl⟩ dX1_seat_69 ?_
    rintro z_69 _ ⟨rfl, rfl⟩
    refine z_ws (ws' := (cw cI h σ LT γ φ)) rfl ?_
    refine z_st (v' := (σ 3 w.toNat)) rfl ?_
    refine z_callVi C (As := [vI (σ 3 w.toNat)]) (st := []) (y := yX1_isLit) (w := wsX1_isLit) (rm := rm_X1_isLit) (wr := []) (k' := 0) (n' := 0) [0, 1, 2, 3, 4, 5, 6, 7, 8] [] 0 (c_X1_isLit l D cI cJ h σ LT γ φ (σ 3 w.toNat) (by omega) hL) (cwV 1 C.1.2.2.2.2 gX1_seat_X1_isLit rfl rfl rfl (by decide +kernel) ⟨Nat.le_of_ble_eq_true rfl, Nat.le_of_ble_eq_true rfl⟩) rfl rfl rfl rfl rfl (by decide) rfl rfl rfl rfl (Nat.le_of_ble_eq_true rfl) rfl rfl ⟨Nat.le_of_ble_eq_true rfl, Nat.le_of_ble_eq_true rfl⟩ dX1_seat_72 ?_
    rintro z_72 _ ⟨rfl, hz_72⟩
    refine z_ws (ws' := (cw cI h σ LT γ φ)) rfl ?_
    have r_72 : z_72 = 0 ∨ z_72 = 1 := by rw [hz_72]; exact bI_01 _
    have hz_72 : z_72 = bI (decide (LT (σ 3 w.toNat).toNat ≠ 0)) := hz_72
    refine z_if_eq C (tgt := 82) dX1_seat_75 (by decide) (by omega) (fun c_75 => ?_) (fun c_75 => ?_)
    ·
      refine z_iconst C dX1_seat_82 ?_
      exact hret _ _ _ _ dX1_seat_83 ⟨_, rfl, by first | (simp [seaV, k_11]; done) | (simp [seaV, k_11, hz_48]; done) | (simp only [seaV, k_11]; rw [bz_t hz_54 c_57]; rfl) | (simp only [seaV, k_11]; rw [bz_f hz_54 c_57]; rfl) | (simp only [seaV, k_11]; rw [bz_t hz_72 c_75]; rfl) | (simp only [seaV, k_11]; rw [bz_f hz_72 c_75]; rfl) | (simp [seaV, k_11, hz_86]; done)⟩
    ·
      refine z_iconst C dX1_seat_78 ?_
      refine z_goto C (tgt := 83) dX1_seat_79 (by decide) ?_
      exact hret _ _ _ _ dX1_seat_83 ⟨_, rfl, by first | (simp [seaV, k_11]; done) | (simp [seaV, k_11, hz_48]; done) | (simp only [seaV, k_11]; rw [bz_t hz_54 c_57]; rfl) | (simp only [seaV, k_11]; rw [bz_f hz_54 c_57]; rfl) | (simp only [seaV, k_11]; rw [bz_t hz_72 c_75]; rfl) | (simp only [seaV, k_11]; rw [bz_f hz_72 c_75]; rfl) | (simp [seaV, k_11, hz_86]; done)⟩
  ·
    refine z_tabOut C (tgt := 84) dX1_seat_11 (by omega) (by omega) (by decide) ?_
    refine z_aload_n C 0 dX1_seat_84 rfl ?_
    refine z_iload_n C 1 dX1_seat_85 rfl ?_
    refine z_callVi C (As := [vI w]) (st := []) (y := yX1_othersSeenBy) (w := wsX1_othersSeenBy) (rm := rm_X1_othersSeenBy) (wr := []) (k' := 0) (n' := 0) [0, 1, 2, 3, 4, 5, 6, 7, 8] [] 0 (c_X1_othersSeenBy l D cI cJ h σ LT γ φ w (by omega) hO hL) (cwV 1 C.1.2.2.2.2 gX1_seat_X1_othersSeenBy rfl rfl rfl (by decide +kernel) ⟨Nat.le_of_ble_eq_true rfl, Nat.le_of_ble_eq_true rfl⟩) rfl rfl rfl rfl rfl (by decide) rfl rfl rfl rfl (Nat.le_of_ble_eq_true rfl) rfl rfl ⟨Nat.le_of_ble_eq_true rfl, Nat.le_of_ble_eq_true rfl⟩ dX1_seat_86 ?_
    rintro z_86 _ ⟨φ'_86, rfl, hz_86⟩
    refine z_ws (ws' := (cw cI h σ LT γ φ'_86)) rfl ?_
    have r_86 := smB_r (fun o => decide (o ≠ w.toNat) && seeB σ LT w.toNat (σ 3 o).toNat) ((nWa σ))
    rw [← hz_86] at r_86
    have hz_86 : z_86 = sm (fun o => bI (decide (o ≠ w.toNat) && seeB σ LT w.toNat (σ 3 o).toNat)) (nWa σ) := hz_86
    exact hret _ _ _ _ dX1_seat_89 ⟨_, rfl, by first | (simp [seaV, k_11]; done) | (simp [seaV, k_11, hz_48]; done) | (simp only [seaV, k_11]; rw [bz_t hz_54 c_57]; rfl) | (simp only [seaV, k_11]; rw [bz_f hz_54 c_57]; rfl) | (simp only [seaV, k_11]; rw [bz_t hz_72 c_75]; rfl) | (simp only [seaV, k_11]; rw [bz_f hz_72 c_75]; rfl) | (simp [seaV, k_11, hz_86]; done)⟩

abbrev rm_X1_sees : Room := { frames := 7, cells := 0, slots := 0, locals := 121 }
set_option maxHeartbeats 4000000 in
set_option maxRecDepth 100000 in
theorem c_X1_sees (l : Launch) (D : va_G) (cI cJ : ClassId) (h : Nat → Nat) (σ : YS) (LT : Nat → Int) (γ : YS) (φ : Nat → Int) (w o : Int) (hw : 0 ≤ w ∧ w < σ 4 1) (ho : 0 ≤ o ∧ o < σ 4 1) (hO : Ok σ) (hL : LR LT) : Ci l yX1_sees wsX1_sees rm_X1_sees D [(cI, .int), (cJ, .long)] [.ref (h 0), vI w, vI o] (cw cI h σ LT γ φ) (fun z u => ∃ φ' : Nat → Int, u = (cw cI h σ LT γ φ') ∧ z = bI (seeB σ LT w.toNat (σ 3 o.toNat).toNat)) := by
  refine z_ofz (own := RX1) (cc := cX1_sees) (maxL := 3) (lv := [(0, .ref (h 0)), (1, vI w), (2, vI o)]) (by decide) rfl rfl (Nat.le_of_ble_eq_true rfl) rfl ?_
  intro p e s m args below meth cd Q A C hret
  have hn := hO.1
  have hm := hO.2.1
  have en := nLa_e hO
  have em := nWa_e hO
  have h1 := hO.2.2.2.1 o.toNat (by omega)
  refine z_aload_n C 0 dX1_sees_0 rfl ?_
  refine z_iload_n C 1 dX1_sees_1 rfl ?_
  refine z_callVv C (As := [vI w]) (st := []) (y := yX1_requireWatcher) (w := wsX1_requireWatcher) (rm := rm_X1_requireWatcher) (wr := []) (k' := 0) (n' := 0) [0, 1, 2, 3, 4, 5, 6, 7, 8] [] 0 (c_X1_requireWatcher l D cI cJ h σ LT γ φ w (by omega)) (cwV 1 C.1.2.2.2.2 gX1_sees_X1_requireWatcher rfl rfl rfl (by decide +kernel) ⟨Nat.le_of_ble_eq_true rfl, Nat.le_of_ble_eq_true rfl⟩) rfl rfl rfl rfl rfl (by decide) rfl rfl rfl rfl (Nat.le_of_ble_eq_true rfl) rfl rfl ⟨Nat.le_of_ble_eq_true rfl, Nat.le_of_ble_eq_true rfl⟩ dX1_sees_2 ?_
  rintro _ rfl
  refine z_ws (ws' := (cw cI h σ LT γ φ)) rfl ?_
  refine z_aload_n C 0 dX1_sees_5 rfl ?_
  refine z_iload_n C 2 dX1_sees_6 rfl ?_
  refine z_callVv C (As := [vI o]) (st := []) (y := yX1_requireWatcher) (w := wsX1_requireWatcher) (rm := rm_X1_requireWatcher) (wr := []) (k' := 0) (n' := 0) [0, 1, 2, 3, 4, 5, 6, 7, 8] [] 0 (c_X1_requireWatcher l D cI cJ h σ LT γ φ o (by omega)) (cwV 1 C.1.2.2.2.2 gX1_sees_X1_requireWatcher rfl rfl rfl (by decide +kernel) ⟨Nat.le_of_ble_eq_true rfl, Nat.le_of_ble_eq_true rfl⟩) rfl rfl rfl rfl rfl (by decide) rfl rfl rfl rfl (Nat.le_of_ble_eq_true rfl) rfl rfl ⟨Nat.le_of_ble_eq_true rfl, Nat.le_of_ble_eq_true rfl⟩ dX1_sees_7 ?_
  rintro _ rfl
  refine z_ws (ws' := (cw cI h σ LT γ φ)) rfl ?_
  refine z_aload_n C 0 dX1_sees_10 rfl ?_
  refine z_iload_n C 1 dX1_sees_11 rfl ?_
  refine z_aload_n C 0 dX1_sees_12 rfl ?_
  refine z_iload_n C 2 dX1_sees_13 rfl ?_
  refine z_callVi C (As := [vI o]) (st := [vI w, .ref (h 0)]) (y := yX1_cellOfWatcher) (w := wsX1_cellOfWatcher) (rm := rm_X1_cellOfWatcher) (wr := []) (k' := 0) (n' := 0) [0, 1, 2, 3, 4, 5, 6, 7, 8] [] 0 (c_X1_cellOfWatcher l D cI cJ h σ LT γ φ o (by omega)) (cwV 1 C.1.2.2.2.2 gX1_sees_X1_cellOfWatcher rfl rfl rfl (by decide +kernel) ⟨Nat.le_of_ble_eq_true rfl, Nat.le_of_ble_eq_true rfl⟩) rfl rfl rfl rfl rfl (by decide) rfl rfl rfl rfl (Nat.le_of_ble_eq_true rfl) rfl rfl ⟨Nat.le_of_ble_eq_true rfl, Nat.le_of_ble_eq_true rfl⟩ dX1_sees_14 ?_
  rintro z_14 _ ⟨rfl, rfl⟩
  refine z_ws (ws' := (cw cI h σ LT γ φ)) rfl ?_
  refine z_st (v' := (σ 3 o.toNat)) rfl ?_
  refine z_callVi C (As := [vI w, vI (σ 3 o.toNat)]) (st := []) (y := yX1_isSeenBy) (w := wsX1_isSeenBy) (rm := rm_X1_isSeenBy) (wr := []) (k' := 0) (n' := 0) [0, 1, 2, 3, 4, 5, 6, 7, 8] [] 0 (c_X1_isSeenBy l D cI cJ h σ LT γ φ w (σ 3 o.toNat) (by omega) (by omega) hO hL) (cwV 2 C.1.2.2.2.2 gX1_sees_X1_isSeenBy rfl rfl rfl (by decide +kernel) ⟨Nat.le_of_ble_eq_true rfl, Nat.le_of_ble_eq_true rfl⟩) rfl rfl rfl rfl rfl (by decide) rfl rfl rfl rfl (Nat.le_of_ble_eq_true rfl) rfl rfl ⟨Nat.le_of_ble_eq_true rfl, Nat.le_of_ble_eq_true rfl⟩ dX1_sees_17 ?_
  rintro z_17 _ ⟨φ'_17, rfl, hz_17⟩
  refine z_ws (ws' := (cw cI h σ LT γ φ'_17)) rfl ?_
  have r_17 : z_17 = 0 ∨ z_17 = 1 := by rw [hz_17]; exact bI_01 _
  have hz_17 : z_17 = bI (seeB σ LT w.toNat (σ 3 o.toNat).toNat) := hz_17
  exact hret _ _ _ _ dX1_sees_20 (by omega) ⟨_, rfl, by exact hz_17⟩

set_option maxRecDepth 100000 in
theorem inU_X1_X1_count : ∀ w ∈ u_ws RX1 TX1 11, w ∈ wsX1_count := by decide +kernel
abbrev rm_X1_count : Room := { frames := 7, cells := 0, slots := 0, locals := 136 }
set_option maxHeartbeats 4000000 in
set_option maxRecDepth 100000 in
theorem c_X1_count (l : Launch) (D : va_G) (cI cJ : ClassId) (h : Nat → Nat) (σ : YS) (LT : Nat → Int) (γ : YS) (φ : Nat → Int) (wh : Int) (hwh : 0 ≤ wh ∧ wh < 8) (hO : Ok σ) (hL : LR LT) : Ci l yX1_count wsX1_count rm_X1_count D [(cI, .int), (cJ, .long)] [.ref (h 0), vI wh] (cw cI h σ LT γ φ) (fun z u => ∃ φ' : Nat → Int, u = (cw cI h σ LT γ φ') ∧ z = couV σ LT wh) := by
  refine z_ofi (own := RX1) (cc := cX1_count) (maxL := 2) (lv := [(0, .ref (h 0)), (1, vI wh)]) (by decide) rfl rfl (Nat.le_of_ble_eq_true rfl) rfl ?_
  intro p e s m args below meth cd Q A C hret
  have hn := hO.1
  have hm := hO.2.1
  have en := nLa_e hO
  have em := nWa_e hO
  refine z_iload_n C 1 dX1_count_0 rfl ?_
  refine z_bipush C dX1_count_1 (by decide) ?_
  refine z_callSv C (As := [vI wh, vI 7]) (st := []) (y := yX1_requireWhat) (w := wsX1_requireWhat) (rm := rm_X1_requireWhat) (wr := (cw cI h σ LT γ φ)) (k' := 0) (n' := 0) [] [0, 1, 2, 3, 4, 5, 6, 7, 8] (c_X1_requireWhat l D cI cJ  wh 7 (by omega)) (va_cwS 2 C.1.2.2.2.2 gX1_count_X1_requireWhat rfl rfl rfl (by decide +kernel) ⟨Nat.le_of_ble_eq_true rfl, Nat.le_of_ble_eq_true rfl⟩) rfl rfl rfl rfl rfl (by decide) rfl rfl (Nat.le_of_ble_eq_true rfl) rfl rfl ⟨Nat.le_of_ble_eq_true rfl, Nat.le_of_ble_eq_true rfl⟩ dX1_count_3 ?_
  rintro _ rfl
  refine z_ws (ws' := (cw cI h σ LT γ φ)) rfl ?_
  refine z_iload_n C 1 dX1_count_6 rfl ?_
  rcases (show wh = 0 ∨ wh = 1 ∨ wh = 2 ∨ wh = 3 ∨ wh = 4 ∨ wh = 5 ∨ wh = 6 ∨ (wh ≠ 0 ∧ wh ≠ 1 ∧ wh ≠ 2 ∧ wh ≠ 3 ∧ wh ≠ 4 ∧ wh ≠ 5 ∧ wh ≠ 6) by omega) with k_7 | k_7 | k_7 | k_7 | k_7 | k_7 | k_7 | k_7
  ·
    refine z_tabIn C (off := 41) (tgt := 48) dX1_count_7 (by omega) (by omega) (by omega) (by rw [k_7]; rfl) (by decide) ?_
    refine z_aload_n C 0 dX1_count_48 rfl ?_
    refine z_get C (v := vI (σ 4 0)) (ref := "ShadowWalls") (T := TX1) (N := 11) (ci := 1) 0 8 inU_X1_X1_count rfl rfl (by decide) (by decide +kernel) (fun _ h9 => h9) rfl dX1_count_49 ?_
    exact hret _ _ _ _ dX1_count_52 ⟨_, rfl, by first | (simp [couV, k_7]; done) | (simp [couV, k_7, hz_59]; done) | (simp [couV, k_7, hz_64, litC]; done) | (simp [couV, k_7, hz_69]; done) | (simp [couV, k_7, hz_74]; done) | (simp [couV, k_7, hz_79]; done)⟩
  ·
    refine z_tabIn C (off := 46) (tgt := 53) dX1_count_7 (by omega) (by omega) (by omega) (by rw [k_7]; rfl) (by decide) ?_
    refine z_aload_n C 0 dX1_count_53 rfl ?_
    refine z_get C (v := vI (σ 4 1)) (ref := "ShadowWalls") (T := TX1) (N := 11) (ci := 1) 0 9 inU_X1_X1_count rfl rfl (by decide) (by decide +kernel) (fun _ h9 => h9) rfl dX1_count_54 ?_
    exact hret _ _ _ _ dX1_count_57 ⟨_, rfl, by first | (simp [couV, k_7]; done) | (simp [couV, k_7, hz_59]; done) | (simp [couV, k_7, hz_64, litC]; done) | (simp [couV, k_7, hz_69]; done) | (simp [couV, k_7, hz_74]; done) | (simp [couV, k_7, hz_79]; done)⟩
  ·
    refine z_tabIn C (off := 51) (tgt := 58) dX1_count_7 (by omega) (by omega) (by omega) (by rw [k_7]; rfl) (by decide) ?_
    refine z_aload_n C 0 dX1_count_58 rfl ?_
    refine z_callVi C (As := []) (st := []) (y := yX1_cellsNotOpen) (w := wsX1_cellsNotOpen) (rm := rm_X1_cellsNotOpen) (wr := []) (k' := 0) (n' := 0) [0, 1, 2, 3, 4, 5, 6, 7, 8] [] 0 (c_X1_cellsNotOpen l D cI cJ h σ LT γ φ  hO) (cwV 0 C.1.2.2.2.2 gX1_count_X1_cellsNotOpen rfl rfl rfl (by decide +kernel) ⟨Nat.le_of_ble_eq_true rfl, Nat.le_of_ble_eq_true rfl⟩) rfl rfl rfl rfl rfl (by decide) rfl rfl rfl rfl (Nat.le_of_ble_eq_true rfl) rfl rfl ⟨Nat.le_of_ble_eq_true rfl, Nat.le_of_ble_eq_true rfl⟩ dX1_count_59 ?_
    rintro z_59 _ ⟨rfl, hz_59⟩
    refine z_ws (ws' := (cw cI h σ LT γ φ)) rfl ?_
    have r_59 := smB_r (fun c => decide (σ 0 c ≠ 0)) (144)
    rw [← hz_59] at r_59
    have hz_59 : z_59 = sm (fun c => bI (decide (σ 0 c ≠ 0))) 144 := hz_59
    exact hret _ _ _ _ dX1_count_62 ⟨_, rfl, by first | (simp [couV, k_7]; done) | (simp [couV, k_7, hz_59]; done) | (simp [couV, k_7, hz_64, litC]; done) | (simp [couV, k_7, hz_69]; done) | (simp [couV, k_7, hz_74]; done) | (simp [couV, k_7, hz_79]; done)⟩
  ·
    refine z_tabIn C (off := 56) (tgt := 63) dX1_count_7 (by omega) (by omega) (by omega) (by rw [k_7]; rfl) (by decide) ?_
    refine z_aload_n C 0 dX1_count_63 rfl ?_
    refine z_callVi C (As := []) (st := []) (y := yX1_litCells) (w := wsX1_litCells) (rm := rm_X1_litCells) (wr := []) (k' := 0) (n' := 0) [0, 1, 2, 3, 4, 5, 6, 7, 8] [] 0 (c_X1_litCells l D cI cJ h σ LT γ φ  hL) (cwV 0 C.1.2.2.2.2 gX1_count_X1_litCells rfl rfl rfl (by decide +kernel) ⟨Nat.le_of_ble_eq_true rfl, Nat.le_of_ble_eq_true rfl⟩) rfl rfl rfl rfl rfl (by decide) rfl rfl rfl rfl (Nat.le_of_ble_eq_true rfl) rfl rfl ⟨Nat.le_of_ble_eq_true rfl, Nat.le_of_ble_eq_true rfl⟩ dX1_count_64 ?_
    rintro z_64 _ ⟨rfl, hz_64⟩
    refine z_ws (ws' := (cw cI h σ LT γ φ)) rfl ?_
    have r_64 := smB_r (fun c => decide (LT c ≠ 0)) 144
    rw [← hz_64] at r_64
    have hz_64 : z_64 = sm (fun c => bI (decide (LT c ≠ 0))) 144 := hz_64
    exact hret _ _ _ _ dX1_count_67 ⟨_, rfl, by first | (simp [couV, k_7]; done) | (simp [couV, k_7, hz_59]; done) | (simp [couV, k_7, hz_64, litC]; done) | (simp [couV, k_7, hz_69]; done) | (simp [couV, k_7, hz_74]; done) | (simp [couV, k_7, hz_79]; done)⟩
  ·
    refine z_tabIn C (off := 61) (tgt := 68) dX1_count_7 (by omega) (by omega) (by omega) (by rw [k_7]; rfl) (by decide) ?_
    refine z_aload_n C 0 dX1_count_68 rfl ?_
    refine z_callVi C (As := []) (st := []) (y := yX1_edgesOfLight) (w := wsX1_edgesOfLight) (rm := rm_X1_edgesOfLight) (wr := []) (k' := 0) (n' := 0) [0, 1, 2, 3, 4, 5, 6, 7, 8] [] 0 (c_X1_edgesOfLight l D cI cJ h σ LT γ φ  hL) (cwV 0 C.1.2.2.2.2 gX1_count_X1_edgesOfLight rfl rfl rfl (by decide +kernel) ⟨Nat.le_of_ble_eq_true rfl, Nat.le_of_ble_eq_true rfl⟩) rfl rfl rfl rfl rfl (by decide) rfl rfl rfl rfl (Nat.le_of_ble_eq_true rfl) rfl rfl ⟨Nat.le_of_ble_eq_true rfl, Nat.le_of_ble_eq_true rfl⟩ dX1_count_69 ?_
    rintro z_69 _ ⟨rfl, hz_69⟩
    refine z_ws (ws' := (cw cI h σ LT γ φ)) rfl ?_
    have hz_69 : z_69 = sm (fun c => bI (edF LT c 2) + bI (edF LT c 3)) 144 := hz_69
    exact hret _ _ _ _ dX1_count_72 ⟨_, rfl, by first | (simp [couV, k_7]; done) | (simp [couV, k_7, hz_59]; done) | (simp [couV, k_7, hz_64, litC]; done) | (simp [couV, k_7, hz_69]; done) | (simp [couV, k_7, hz_74]; done) | (simp [couV, k_7, hz_79]; done)⟩
  ·
    refine z_tabIn C (off := 66) (tgt := 73) dX1_count_7 (by omega) (by omega) (by omega) (by rw [k_7]; rfl) (by decide) ?_
    refine z_aload_n C 0 dX1_count_73 rfl ?_
    refine z_callVi C (As := []) (st := []) (y := yX1_hiddenWatchers) (w := wsX1_hiddenWatchers) (rm := rm_X1_hiddenWatchers) (wr := []) (k' := 0) (n' := 0) [0, 1, 2, 3, 4, 5, 6, 7, 8] [] 0 (c_X1_hiddenWatchers l D cI cJ h σ LT γ φ  hO hL) (cwV 0 C.1.2.2.2.2 gX1_count_X1_hiddenWatchers rfl rfl rfl (by decide +kernel) ⟨Nat.le_of_ble_eq_true rfl, Nat.le_of_ble_eq_true rfl⟩) rfl rfl rfl rfl rfl (by decide) rfl rfl rfl rfl (Nat.le_of_ble_eq_true rfl) rfl rfl ⟨Nat.le_of_ble_eq_true rfl, Nat.le_of_ble_eq_true rfl⟩ dX1_count_74 ?_
    rintro z_74 _ ⟨φ'_74, rfl, hz_74⟩
    refine z_ws (ws' := (cw cI h σ LT γ φ'_74)) rfl ?_
    have r_74 := smB_r (fun o => hidB σ LT o) ((nWa σ))
    rw [← hz_74] at r_74
    have hz_74 : z_74 = sm (fun o => bI (hidB σ LT o)) (nWa σ) := hz_74
    exact hret _ _ _ _ dX1_count_77 ⟨_, rfl, by first | (simp [couV, k_7]; done) | (simp [couV, k_7, hz_59]; done) | (simp [couV, k_7, hz_64, litC]; done) | (simp [couV, k_7, hz_69]; done) | (simp [couV, k_7, hz_74]; done) | (simp [couV, k_7, hz_79]; done)⟩
  ·
    refine z_tabIn C (off := 71) (tgt := 78) dX1_count_7 (by omega) (by omega) (by omega) (by rw [k_7]; rfl) (by decide) ?_
    refine z_aload_n C 0 dX1_count_78 rfl ?_
    refine z_callVi C (As := []) (st := []) (y := yX1_brightnessOfAll) (w := wsX1_brightnessOfAll) (rm := rm_X1_brightnessOfAll) (wr := []) (k' := 0) (n' := 0) [0, 1, 2, 3, 4, 5, 6, 7, 8] [] 0 (c_X1_brightnessOfAll l D cI cJ h σ LT γ φ  hO hL) (cwV 0 C.1.2.2.2.2 gX1_count_X1_brightnessOfAll rfl rfl rfl (by decide +kernel) ⟨Nat.le_of_ble_eq_true rfl, Nat.le_of_ble_eq_true rfl⟩) rfl rfl rfl rfl rfl (by decide) rfl rfl rfl rfl (Nat.le_of_ble_eq_true rfl) rfl rfl ⟨Nat.le_of_ble_eq_true rfl, Nat.le_of_ble_eq_true rfl⟩ dX1_count_79 ?_
    rintro z_79 _ ⟨rfl, hz_79⟩
    refine z_ws (ws' := (cw cI h σ LT γ φ)) rfl ?_
    have hz_79 : z_79 = sm (brC σ LT) 144 := hz_79
    exact hret _ _ _ _ dX1_count_82 ⟨_, rfl, by first | (simp [couV, k_7]; done) | (simp [couV, k_7, hz_59]; done) | (simp [couV, k_7, hz_64, litC]; done) | (simp [couV, k_7, hz_69]; done) | (simp [couV, k_7, hz_74]; done) | (simp [couV, k_7, hz_79]; done)⟩
  ·
    refine z_tabOut C (tgt := 83) dX1_count_7 (by omega) (by omega) (by decide) ?_
    refine z_aload_n C 0 dX1_count_83 rfl ?_
    refine z_get C (v := vI (σ 4 2)) (ref := "ShadowWalls") (T := TX1) (N := 11) (ci := 1) 0 10 inU_X1_X1_count rfl rfl (by decide) (by decide +kernel) (fun _ h9 => h9) rfl dX1_count_84 ?_
    exact hret _ _ _ _ dX1_count_87 ⟨_, rfl, by first | (simp [couV, k_7]; done) | (simp [couV, k_7, hz_59]; done) | (simp [couV, k_7, hz_64, litC]; done) | (simp [couV, k_7, hz_69]; done) | (simp [couV, k_7, hz_74]; done) | (simp [couV, k_7, hz_79]; done)⟩

abbrev rm_X1_stops : Room := { frames := 7, cells := 0, slots := 0, locals := 120 }
set_option maxHeartbeats 4000000 in
set_option maxRecDepth 100000 in
theorem c_X1_stops (l : Launch) (D : va_G) (cI cJ : ClassId) (h : Nat → Nat) (σ : YS) (LT : Nat → Int) (γ : YS) (φ : Nat → Int) (f t : Int) (hf : 0 ≤ f ∧ f < 144) (ht : 0 ≤ t ∧ t < 144) (hO : Ok σ) : Ci l yX1_stops wsX1_stops rm_X1_stops D [(cI, .int), (cJ, .long)] [.ref (h 0), vI f, vI t] (cw cI h σ LT γ φ) (fun z u => ∃ φ' : Nat → Int, u = (cw cI h σ LT γ φ') ∧ z = (ray (σ 0) f t).1) := by
  refine z_ofi (own := RX1) (cc := cX1_stops) (maxL := 3) (lv := [(0, .ref (h 0)), (1, vI f), (2, vI t)]) (by decide) rfl rfl (Nat.le_of_ble_eq_true rfl) rfl ?_
  intro p e s m args below meth cd Q A C hret
  refine z_iload_n C 1 dX1_stops_0 rfl ?_
  refine z_callSv C (As := [vI f]) (st := []) (y := yX1_requireCell) (w := wsX1_requireCell) (rm := rm_X1_requireCell) (wr := (cw cI h σ LT γ φ)) (k' := 0) (n' := 0) [] [0, 1, 2, 3, 4, 5, 6, 7, 8] (c_X1_requireCell l D cI cJ  f (by omega)) (va_cwS 1 C.1.2.2.2.2 gX1_stops_X1_requireCell rfl rfl rfl (by decide +kernel) ⟨Nat.le_of_ble_eq_true rfl, Nat.le_of_ble_eq_true rfl⟩) rfl rfl rfl rfl rfl (by decide) rfl rfl (Nat.le_of_ble_eq_true rfl) rfl rfl ⟨Nat.le_of_ble_eq_true rfl, Nat.le_of_ble_eq_true rfl⟩ dX1_stops_1 ?_
  rintro _ rfl
  refine z_ws (ws' := (cw cI h σ LT γ φ)) rfl ?_
  refine z_iload_n C 2 dX1_stops_4 rfl ?_
  refine z_callSv C (As := [vI t]) (st := []) (y := yX1_requireCell) (w := wsX1_requireCell) (rm := rm_X1_requireCell) (wr := (cw cI h σ LT γ φ)) (k' := 0) (n' := 0) [] [0, 1, 2, 3, 4, 5, 6, 7, 8] (c_X1_requireCell l D cI cJ  t (by omega)) (va_cwS 1 C.1.2.2.2.2 gX1_stops_X1_requireCell rfl rfl rfl (by decide +kernel) ⟨Nat.le_of_ble_eq_true rfl, Nat.le_of_ble_eq_true rfl⟩) rfl rfl rfl rfl rfl (by decide) rfl rfl (Nat.le_of_ble_eq_true rfl) rfl rfl ⟨Nat.le_of_ble_eq_true rfl, Nat.le_of_ble_eq_true rfl⟩ dX1_stops_5 ?_
  rintro _ rfl
  refine z_ws (ws' := (cw cI h σ LT γ φ)) rfl ?_
  refine z_aload_n C 0 dX1_stops_8 rfl ?_
  refine z_iload_n C 1 dX1_stops_9 rfl ?_
  refine z_iload_n C 2 dX1_stops_10 rfl ?_
  refine z_callVi C (As := [vI f, vI t]) (st := []) (y := yX1_stoppedBetween) (w := wsX1_stoppedBetween) (rm := rm_X1_stoppedBetween) (wr := []) (k' := 0) (n' := 0) [0, 1, 2, 3, 4, 5, 6, 7, 8] [] 0 (c_X1_stoppedBetween l D cI cJ h σ LT γ φ f t (by omega) (by omega) hO) (cwV 2 C.1.2.2.2.2 gX1_stops_X1_stoppedBetween rfl rfl rfl (by decide +kernel) ⟨Nat.le_of_ble_eq_true rfl, Nat.le_of_ble_eq_true rfl⟩) rfl rfl rfl rfl rfl (by decide) rfl rfl rfl rfl (Nat.le_of_ble_eq_true rfl) rfl rfl ⟨Nat.le_of_ble_eq_true rfl, Nat.le_of_ble_eq_true rfl⟩ dX1_stops_11 ?_
  rintro z_11 _ ⟨φ'_11, rfl, hz_11⟩
  refine z_ws (ws' := (cw cI h σ LT γ φ'_11)) rfl ?_
  have r_11 := (ray_r (σ 0) (f) (t)).1
  rw [← hz_11] at r_11
  have hz_11 : z_11 = (ray (σ 0) f t).1 := hz_11
  exact hret _ _ _ _ dX1_stops_14 ⟨_, rfl, by exact hz_11⟩

abbrev rm_X1_would : Room := { frames := 7, cells := 0, slots := 0, locals := 140 }
set_option maxHeartbeats 4000000 in
set_option maxRecDepth 100000 in
theorem c_X1_would (l : Launch) (D : va_G) (cI cJ : ClassId) (h : Nat → Nat) (σ : YS) (LT : Nat → Int) (γ : YS) (φ : Nat → Int) (x y kd : Int) (hx : 0 ≤ x ∧ x < 12) (hy : 0 ≤ y ∧ y < 12) (hk : 0 ≤ kd ∧ kd < 4) (hO : Ok σ) (hL : LR LT) : Ci l yX1_would wsX1_would rm_X1_would D [(cI, .int), (cJ, .long)] [.ref (h 0), vI x, vI y, vI kd] (cw cI h σ LT γ φ) (fun z u => ∃ φ' : Nat → Int, u = (cw cI h σ LT γ φ') ∧ z = woV σ LT (12 * y + x).toNat kd) := by
  refine z_ofi (own := RX1) (cc := cX1_would) (maxL := 7) (lv := [(0, .ref (h 0)), (1, vI x), (2, vI y), (3, vI kd)]) (by decide) rfl rfl (Nat.le_of_ble_eq_true rfl) rfl ?_
  intro p e s m args below meth cd Q A C hret
  have hn := hO.1
  have hm := hO.2.1
  have en := nLa_e hO
  have em := nWa_e hO
  have hcc : 0 ≤ 12 * y + x ∧ 12 * y + x < 144 := by omega
  have ecc : (((12 * y + x).toNat : Nat) : Int) = 12 * y + x := Int.toNat_of_nonneg hcc.1
  refine z_iload_n C 1 dX1_would_0 rfl ?_
  refine z_iload_n C 2 dX1_would_1 rfl ?_
  refine z_callSv C (As := [vI x, vI y]) (st := []) (y := yX1_requirePlace) (w := wsX1_requirePlace) (rm := rm_X1_requirePlace) (wr := (cw cI h σ LT γ φ)) (k' := 0) (n' := 0) [] [0, 1, 2, 3, 4, 5, 6, 7, 8] (c_X1_requirePlace l D cI cJ  x y (by omega)) (va_cwS 2 C.1.2.2.2.2 gX1_would_X1_requirePlace rfl rfl rfl (by decide +kernel) ⟨Nat.le_of_ble_eq_true rfl, Nat.le_of_ble_eq_true rfl⟩) rfl rfl rfl rfl rfl (by decide) rfl rfl (Nat.le_of_ble_eq_true rfl) rfl rfl ⟨Nat.le_of_ble_eq_true rfl, Nat.le_of_ble_eq_true rfl⟩ dX1_would_2 ?_
  rintro _ rfl
  refine z_ws (ws' := (cw cI h σ LT γ φ)) rfl ?_
  refine z_iload_n C 3 dX1_would_5 rfl ?_
  refine z_callSv C (As := [vI kd]) (st := []) (y := yX1_requireKind) (w := wsX1_requireKind) (rm := rm_X1_requireKind) (wr := (cw cI h σ LT γ φ)) (k' := 0) (n' := 0) [] [0, 1, 2, 3, 4, 5, 6, 7, 8] (c_X1_requireKind l D cI cJ  kd (by omega)) (va_cwS 1 C.1.2.2.2.2 gX1_would_X1_requireKind rfl rfl rfl (by decide +kernel) ⟨Nat.le_of_ble_eq_true rfl, Nat.le_of_ble_eq_true rfl⟩) rfl rfl rfl rfl rfl (by decide) rfl rfl (Nat.le_of_ble_eq_true rfl) rfl rfl ⟨Nat.le_of_ble_eq_true rfl, Nat.le_of_ble_eq_true rfl⟩ dX1_would_6 ?_
  rintro _ rfl
  refine z_ws (ws' := (cw cI h σ LT γ φ)) rfl ?_
  refine z_iload_n C 1 dX1_would_9 rfl ?_
  refine z_iload_n C 2 dX1_would_10 rfl ?_
  refine z_callSi C (As := [vI x, vI y]) (st := []) (y := yX1_cellAt) (w := wsX1_cellAt) (rm := rm_X1_cellAt) (wr := (cw cI h σ LT γ φ)) (k' := 0) (n' := 0) [] [0, 1, 2, 3, 4, 5, 6, 7, 8] (c_X1_cellAt l D cI cJ  x y ) (va_cwS 2 C.1.2.2.2.2 gX1_would_X1_cellAt rfl rfl rfl (by decide +kernel) ⟨Nat.le_of_ble_eq_true rfl, Nat.le_of_ble_eq_true rfl⟩) rfl rfl rfl rfl rfl (by decide) rfl rfl (Nat.le_of_ble_eq_true rfl) rfl rfl ⟨Nat.le_of_ble_eq_true rfl, Nat.le_of_ble_eq_true rfl⟩ dX1_would_11 ?_
  rintro z_11 _ ⟨rfl, rfl⟩
  refine z_ws (ws' := (cw cI h σ LT γ φ)) rfl ?_
  refine z_st (v' := (12 * y + x)) rfl ?_
  refine z_istore C [(4, vI (12 * y + x)), (0, .ref (h 0)), (1, vI x), (2, vI y), (3, vI kd)] dX1_would_14 (by decide) rfl ?_
  refine z_aload_n C 1 dX1_would_16 rfl ?_
  refine z_iload C 0 dX1_would_17 rfl ?_
  refine z_callVi C (As := [vI (12 * y + x)]) (st := []) (y := yX1_kindOf) (w := wsX1_kindOf) (rm := rm_X1_kindOf) (wr := []) (k' := 0) (n' := 0) [0, 1, 2, 3, 4, 5, 6, 7, 8] [] 0 (c_X1_kindOf l D cI cJ h σ LT γ φ (12 * y + x) (by omega)) (cwV 1 C.1.2.2.2.2 gX1_would_X1_kindOf rfl rfl rfl (by decide +kernel) ⟨Nat.le_of_ble_eq_true rfl, Nat.le_of_ble_eq_true rfl⟩) rfl rfl rfl rfl rfl (by decide) rfl rfl rfl rfl (Nat.le_of_ble_eq_true rfl) rfl rfl ⟨Nat.le_of_ble_eq_true rfl, Nat.le_of_ble_eq_true rfl⟩ dX1_would_19 ?_
  rintro z_19 _ ⟨rfl, rfl⟩
  refine z_ws (ws' := (cw cI h σ LT γ φ)) rfl ?_
  refine z_st (v' := (σ 0 (12 * y + x).toNat)) rfl ?_
  refine z_istore C [(5, vI (σ 0 (12 * y + x).toNat)), (4, vI (12 * y + x)), (0, .ref (h 0)), (1, vI x), (2, vI y), (3, vI kd)] dX1_would_22 (by decide) rfl ?_
  refine z_aload_n C 2 dX1_would_24 rfl ?_
  refine z_iload C 1 dX1_would_25 rfl ?_
  refine z_iload_n C 5 dX1_would_27 rfl ?_
  refine z_callVv C (As := [vI (12 * y + x), vI kd]) (st := []) (y := yX1_putKind) (w := wsX1_putKind) (rm := rm_X1_putKind) (wr := []) (k' := 0) (n' := 0) [0, 1, 2, 3, 4, 5, 6, 7, 8] [] 0 (c_X1_putKind l D cI cJ h σ LT γ φ (12 * y + x) kd (by omega)) (cwV 2 C.1.2.2.2.2 gX1_would_X1_putKind rfl rfl rfl (by decide +kernel) ⟨Nat.le_of_ble_eq_true rfl, Nat.le_of_ble_eq_true rfl⟩) rfl rfl rfl rfl rfl (by decide) rfl rfl rfl rfl (Nat.le_of_ble_eq_true rfl) rfl rfl ⟨Nat.le_of_ble_eq_true rfl, Nat.le_of_ble_eq_true rfl⟩ dX1_would_28 ?_
  rintro _ rfl
  refine z_ws (ws' := (cw cI h (sU σ 0 (12 * y + x).toNat kd) LT γ φ)) rfl ?_
  refine z_aload_n C 2 dX1_would_31 rfl ?_
  refine z_callVi C (As := []) (st := []) (y := yX1_litCellsAnew) (w := wsX1_litCellsAnew) (rm := rm_X1_litCellsAnew) (wr := []) (k' := 0) (n' := 0) [0, 1, 2, 3, 4, 5, 6, 7, 8] [] 0 (c_X1_litCellsAnew l D cI cJ h (sU σ 0 (12 * y + x).toNat kd) LT γ φ  (Ok_kind hO hk)) (cwV 0 C.1.2.2.2.2 gX1_would_X1_litCellsAnew rfl rfl rfl (by decide +kernel) ⟨Nat.le_of_ble_eq_true rfl, Nat.le_of_ble_eq_true rfl⟩) rfl rfl rfl rfl rfl (by decide) rfl rfl rfl rfl (Nat.le_of_ble_eq_true rfl) rfl rfl ⟨Nat.le_of_ble_eq_true rfl, Nat.le_of_ble_eq_true rfl⟩ dX1_would_32 ?_
  rintro z_32 _ ⟨φ'_32, rfl, hz_32⟩
  refine z_ws (ws' := (cw cI h ((sU σ 0 (12 * y + x).toNat kd)) LT γ φ'_32)) rfl ?_
  have r_32 := smB_r (fun c => anyB (fun k => litB (sU σ 0 (12 * y + x).toNat kd) k c) (nLa (sU σ 0 (12 * y + x).toNat kd))) (144)
  rw [← hz_32] at r_32
  have hz_32 : z_32 = sm (fun c => bI (anyB (fun k => litB (sU σ 0 (12 * y + x).toNat kd) k c) (nLa (sU σ 0 (12 * y + x).toNat kd)))) 144 := hz_32
  refine z_istore C [(6, vI z_32), (5, vI (σ 0 (12 * y + x).toNat)), (4, vI (12 * y + x)), (0, .ref (h 0)), (1, vI x), (2, vI y), (3, vI kd)] dX1_would_35 (by decide) rfl ?_
  refine z_aload_n C 3 dX1_would_37 rfl ?_
  refine z_iload C 2 dX1_would_38 rfl ?_
  refine z_iload C 1 dX1_would_40 rfl ?_
  refine z_callVv C (As := [vI (12 * y + x), vI (σ 0 (12 * y + x).toNat)]) (st := []) (y := yX1_putKind) (w := wsX1_putKind) (rm := rm_X1_putKind) (wr := []) (k' := 0) (n' := 0) [0, 1, 2, 3, 4, 5, 6, 7, 8] [] 0 (c_X1_putKind l D cI cJ h (sU σ 0 (12 * y + x).toNat kd) LT γ φ'_32 (12 * y + x) (σ 0 (12 * y + x).toNat) (by omega)) (cwV 2 C.1.2.2.2.2 gX1_would_X1_putKind rfl rfl rfl (by decide +kernel) ⟨Nat.le_of_ble_eq_true rfl, Nat.le_of_ble_eq_true rfl⟩) rfl rfl rfl rfl rfl (by decide) rfl rfl rfl rfl (Nat.le_of_ble_eq_true rfl) rfl rfl ⟨Nat.le_of_ble_eq_true rfl, Nat.le_of_ble_eq_true rfl⟩ dX1_would_42 ?_
  rintro _ rfl
  refine z_ws (ws' := (cw cI h (sU (sU σ 0 (12 * y + x).toNat kd) 0 (12 * y + x).toNat (σ 0 (12 * y + x).toNat)) LT γ φ'_32)) rfl ?_
  refine z_ws (ws' := (cw cI h σ LT γ φ'_32)) (by rw [sU_b]) ?_
  refine z_iload C 0 dX1_would_45 rfl ?_
  refine z_aload_n C 3 dX1_would_47 rfl ?_
  refine z_callVi C (As := []) (st := [vI z_32]) (y := yX1_litCells) (w := wsX1_litCells) (rm := rm_X1_litCells) (wr := []) (k' := 0) (n' := 0) [0, 1, 2, 3, 4, 5, 6, 7, 8] [] 0 (c_X1_litCells l D cI cJ h σ LT γ φ'_32  hL) (cwV 0 C.1.2.2.2.2 gX1_would_X1_litCells rfl rfl rfl (by decide +kernel) ⟨Nat.le_of_ble_eq_true rfl, Nat.le_of_ble_eq_true rfl⟩) rfl rfl rfl rfl rfl (by decide) rfl rfl rfl rfl (Nat.le_of_ble_eq_true rfl) rfl rfl ⟨Nat.le_of_ble_eq_true rfl, Nat.le_of_ble_eq_true rfl⟩ dX1_would_48 ?_
  rintro z_48 _ ⟨rfl, hz_48⟩
  refine z_ws (ws' := (cw cI h σ LT γ φ'_32)) rfl ?_
  have r_48 := smB_r (fun c => decide (LT c ≠ 0)) 144
  rw [← hz_48] at r_48
  have hz_48 : z_48 = sm (fun c => bI (decide (LT c ≠ 0))) 144 := hz_48
  refine z_isub C dX1_would_51 ?_
  exact hret _ _ _ _ dX1_would_52 ⟨_, rfl, by rw [hz_32, hz_48]; rfl⟩

abbrev rm_X1_advise : Room := { frames := 7, cells := 0, slots := 0, locals := 121 }
set_option maxHeartbeats 4000000 in
set_option maxRecDepth 100000 in
theorem c_X1_advise (l : Launch) (D : va_G) (cI cJ : ClassId) (h : Nat → Nat) (σ : YS) (LT : Nat → Int) (γ : YS) (φ : Nat → Int) (k : Int) (hk : 0 ≤ k ∧ k < σ 4 0) (hO : Ok σ) (hL : LR LT) : Ci l yX1_advise wsX1_advise rm_X1_advise D [(cI, .int), (cJ, .long)] [.ref (h 0), vI k] (cw cI h σ LT γ φ) (fun z u => ∃ φ' : Nat → Int, u = (cw cI h σ LT γ φ') ∧ z = (adS σ LT k.toNat 4).1) := by
  refine z_ofi (own := RX1) (cc := cX1_advise) (maxL := 8) (lv := [(0, .ref (h 0)), (1, vI k)]) (by decide) rfl rfl (Nat.le_of_ble_eq_true rfl) rfl ?_
  intro p e s m args below meth cd Q A C hret
  have hn := hO.1
  have hm := hO.2.1
  have en := nLa_e hO
  have em := nWa_e hO
  have h1 := hO.2.2.1 k.toNat (by omega)
  refine z_aload_n C 0 dX1_advise_0 rfl ?_
  refine z_iload_n C 1 dX1_advise_1 rfl ?_
  refine z_callVv C (As := [vI k]) (st := []) (y := yX1_requireLamp) (w := wsX1_requireLamp) (rm := rm_X1_requireLamp) (wr := []) (k' := 0) (n' := 0) [0, 1, 2, 3, 4, 5, 6, 7, 8] [] 0 (c_X1_requireLamp l D cI cJ h σ LT γ φ k (by omega)) (cwV 1 C.1.2.2.2.2 gX1_advise_X1_requireLamp rfl rfl rfl (by decide +kernel) ⟨Nat.le_of_ble_eq_true rfl, Nat.le_of_ble_eq_true rfl⟩) rfl rfl rfl rfl rfl (by decide) rfl rfl rfl rfl (Nat.le_of_ble_eq_true rfl) rfl rfl ⟨Nat.le_of_ble_eq_true rfl, Nat.le_of_ble_eq_true rfl⟩ dX1_advise_2 ?_
  rintro _ rfl
  refine z_ws (ws' := (cw cI h σ LT γ φ)) rfl ?_
  refine z_aload_n C 0 dX1_advise_5 rfl ?_
  refine z_iload_n C 1 dX1_advise_6 rfl ?_
  refine z_callVi C (As := [vI k]) (st := []) (y := yX1_cellOfLamp) (w := wsX1_cellOfLamp) (rm := rm_X1_cellOfLamp) (wr := []) (k' := 0) (n' := 0) [0, 1, 2, 3, 4, 5, 6, 7, 8] [] 0 (c_X1_cellOfLamp l D cI cJ h σ LT γ φ k (by omega)) (cwV 1 C.1.2.2.2.2 gX1_advise_X1_cellOfLamp rfl rfl rfl (by decide +kernel) ⟨Nat.le_of_ble_eq_true rfl, Nat.le_of_ble_eq_true rfl⟩) rfl rfl rfl rfl rfl (by decide) rfl rfl rfl rfl (Nat.le_of_ble_eq_true rfl) rfl rfl ⟨Nat.le_of_ble_eq_true rfl, Nat.le_of_ble_eq_true rfl⟩ dX1_advise_7 ?_
  rintro z_7 _ ⟨rfl, rfl⟩
  refine z_ws (ws' := (cw cI h σ LT γ φ)) rfl ?_
  refine z_st (v' := (σ 1 k.toNat)) rfl ?_
  refine z_istore_n C [(2, vI (σ 1 k.toNat)), (0, .ref (h 0)), (1, vI k)] dX1_advise_10 (by decide) rfl ?_
  refine z_iconst C dX1_advise_11 ?_
  refine z_istore_n C [(3, vI (-1)), (2, vI (σ 1 k.toNat)), (0, .ref (h 0)), (1, vI k)] dX1_advise_12 (by decide) rfl ?_
  refine z_aload_n C 2 dX1_advise_13 rfl ?_
  refine z_callVi C (As := []) (st := []) (y := yX1_litCells) (w := wsX1_litCells) (rm := rm_X1_litCells) (wr := []) (k' := 0) (n' := 0) [0, 1, 2, 3, 4, 5, 6, 7, 8] [] 0 (c_X1_litCells l D cI cJ h σ LT γ φ  hL) (cwV 0 C.1.2.2.2.2 gX1_advise_X1_litCells rfl rfl rfl (by decide +kernel) ⟨Nat.le_of_ble_eq_true rfl, Nat.le_of_ble_eq_true rfl⟩) rfl rfl rfl rfl rfl (by decide) rfl rfl rfl rfl (Nat.le_of_ble_eq_true rfl) rfl rfl ⟨Nat.le_of_ble_eq_true rfl, Nat.le_of_ble_eq_true rfl⟩ dX1_advise_14 ?_
  rintro z_14 _ ⟨rfl, hz_14⟩
  refine z_ws (ws' := (cw cI h σ LT γ φ)) rfl ?_
  have r_14 := smB_r (fun c => decide (LT c ≠ 0)) 144
  rw [← hz_14] at r_14
  have hz_14 : z_14 = sm (fun c => bI (decide (LT c ≠ 0))) 144 := hz_14
  refine z_istore C [(4, vI z_14), (3, vI (-1)), (2, vI (σ 1 k.toNat)), (0, .ref (h 0)), (1, vI k)] dX1_advise_17 (by decide) rfl ?_
  refine z_iconst C dX1_advise_19 ?_
  refine z_istore C [(5, vI 0), (4, vI z_14), (3, vI (-1)), (2, vI (σ 1 k.toNat)), (0, .ref (h 0)), (1, vI k)] dX1_advise_20 (by decide) rfl ?_
  have L_22 : ∀ (d9 i : Nat) (φ1 : Nat → Int) (hi : i ≤ 4) (hd : 5 ≤ i + d9), Zs p l e rm_X1_advise s m args below meth cd Q A D 8 22 [(0, .ref (h 0)), (1, vI k), (2, vI (σ 1 k.toNat)), (3, vI ((adS σ LT k.toNat i).1)), (4, vI ((adS σ LT k.toNat i).2)), (5, vI (i : Int))] [] (cw cI h σ LT γ φ1) 0 0 := by
    intro d9
    induction d9 with
    | zero =>
      intro i φ1 hi hd
      exfalso; omega
    | succ d9 ih9 =>
      intro i φ1 hi hd
      have hr := adS_r σ LT k.toNat i
      refine z_iload C 5 dX1_advise_22 rfl ?_
      refine z_iconst C dX1_advise_24 ?_
      refine z_icmp_ge C (tgt := 80) dX1_advise_25 (by decide) (by omega) (by omega) (fun c_25 => ?_) (fun c_25 => ?_)
      ·
        obtain rfl : i = 4 := by omega
        refine z_iload_n C 3 dX1_advise_80 rfl ?_
        exact hret _ _ _ _ dX1_advise_81 ⟨_, rfl, by rfl⟩
      ·
        refine z_iload_n C 2 dX1_advise_28 rfl ?_
        refine z_iload C 5 dX1_advise_29 rfl ?_
        refine z_callSi C (As := [vI (σ 1 k.toNat), vI (i : Int)]) (st := []) (y := yX1_neighbour) (w := wsX1_neighbour) (rm := rm_X1_neighbour) (wr := (cw cI h σ LT γ φ1)) (k' := 0) (n' := 0) [] [0, 1, 2, 3, 4, 5, 6, 7, 8] (c_X1_neighbour l D cI cJ  (σ 1 k.toNat) (i : Int) (by omega) (by omega)) (va_cwS 2 C.1.2.2.2.2 gX1_advise_X1_neighbour rfl rfl rfl (by decide +kernel) ⟨Nat.le_of_ble_eq_true rfl, Nat.le_of_ble_eq_true rfl⟩) rfl rfl rfl rfl rfl (by decide) rfl rfl (Nat.le_of_ble_eq_true rfl) rfl rfl ⟨Nat.le_of_ble_eq_true rfl, Nat.le_of_ble_eq_true rfl⟩ dX1_advise_31 ?_
        rintro z_31 _ ⟨rfl, hz_31⟩
        refine z_ws (ws' := (cw cI h σ LT γ φ1)) rfl ?_
        have hz_31 : z_31 = nb (σ 1 k.toNat) (i : Int) := hz_31
        have r_31 := nb_r (c := σ 1 k.toNat) (s := (i : Int)) (by omega)
        rw [← hz_31] at r_31
        refine z_istore C [(6, vI z_31), (0, .ref (h 0)), (1, vI k), (2, vI (σ 1 k.toNat)), (3, vI ((adS σ LT k.toNat i).1)), (4, vI ((adS σ LT k.toNat i).2)), (5, vI (i : Int))] dX1_advise_34 (by decide) rfl ?_
        refine z_iload C 0 dX1_advise_36 rfl ?_
        refine z_iconst C dX1_advise_38 ?_
        refine z_icmp_eq C (tgt := 74) dX1_advise_39 (by decide) (by omega) (by omega) (fun c_39 => ?_) (fun c_39 => ?_)
        ·
          have hA : adS σ LT k.toNat (i + 1) = adS σ LT k.toNat i := by simp only [adS]; rw [← hz_31, if_neg (by omega)]
          refine z_iinc C 6 [(5, vI ((i : Int) + 1)), (6, vI z_31), (0, .ref (h 0)), (1, vI k), (2, vI (σ 1 k.toNat)), (3, vI ((adS σ LT k.toNat i).1)), (4, vI ((adS σ LT k.toNat i).2))] dX1_advise_74 rfl (by decide) rfl ?_
          refine z_goto C (tgt := 22) dX1_advise_77 (by decide) ?_
          refine z_chg 5 (x' := (adS σ LT k.toNat (i + 1)).1) (lv' := [(5, vI ((i : Int) + 1)), (6, vI z_31), (0, .ref (h 0)), (1, vI k), (2, vI (σ 1 k.toNat)), (3, vI ((adS σ LT k.toNat (i + 1)).1)), (4, vI ((adS σ LT k.toNat i).2))]) rfl (by rw [hA]) rfl ?_
          refine z_chg 6 (x' := (adS σ LT k.toNat (i + 1)).2) (lv' := [(5, vI ((i : Int) + 1)), (6, vI z_31), (0, .ref (h 0)), (1, vI k), (2, vI (σ 1 k.toNat)), (3, vI ((adS σ LT k.toNat (i + 1)).1)), (4, vI ((adS σ LT k.toNat (i + 1)).2))]) rfl (by rw [hA]) rfl ?_
          refine z_chg 0 (x' := ((i + 1 : Nat) : Int)) (lv' := [(5, vI ((i + 1 : Nat) : Int)), (6, vI z_31), (0, .ref (h 0)), (1, vI k), (2, vI (σ 1 k.toNat)), (3, vI ((adS σ LT k.toNat (i + 1)).1)), (4, vI ((adS σ LT k.toNat (i + 1)).2))]) rfl (by omega) rfl ?_
          refine z_sub (lv' := [(0, .ref (h 0)), (1, vI k), (2, vI (σ 1 k.toNat)), (3, vI ((adS σ LT k.toNat (i + 1)).1)), (4, vI ((adS σ LT k.toNat (i + 1)).2)), (5, vI ((i + 1 : Nat) : Int))]) [2, 3, 4, 5, 6, 0] rfl ?_
          exact ih9 (i + 1) φ1 (by omega) (by omega)
        ·
          refine z_aload_n C 1 dX1_advise_42 rfl ?_
          refine z_iload C 0 dX1_advise_43 rfl ?_
          refine z_callVi C (As := [vI z_31]) (st := []) (y := yX1_isLampAt) (w := wsX1_isLampAt) (rm := rm_X1_isLampAt) (wr := []) (k' := 0) (n' := 0) [0, 1, 2, 3, 4, 5, 6, 7, 8] [] 0 (c_X1_isLampAt l D cI cJ h σ LT γ φ1 z_31 (by omega) hO) (cwV 1 C.1.2.2.2.2 gX1_advise_X1_isLampAt rfl rfl rfl (by decide +kernel) ⟨Nat.le_of_ble_eq_true rfl, Nat.le_of_ble_eq_true rfl⟩) rfl rfl rfl rfl rfl (by decide) rfl rfl rfl rfl (Nat.le_of_ble_eq_true rfl) rfl rfl ⟨Nat.le_of_ble_eq_true rfl, Nat.le_of_ble_eq_true rfl⟩ dX1_advise_45 ?_
          rintro z_45 _ ⟨rfl, hz_45⟩
          refine z_ws (ws' := (cw cI h σ LT γ φ1)) rfl ?_
          have r_45 : z_45 = 0 ∨ z_45 = 1 := by rw [hz_45]; exact bI_01 _
          have hz_45 : z_45 = bI (anyB (fun k => decide (σ 1 k = z_31)) (nLa σ)) := hz_45
          refine z_if_ne C (tgt := 74) dX1_advise_48 (by decide) (by omega) (fun c_48 => ?_) (fun c_48 => ?_)
          ·
            have hB : lampB σ z_31 = true := bz_t hz_45 c_48
            have hA : adS σ LT k.toNat (i + 1) = adS σ LT k.toNat i := by simp only [adS]; rw [← hz_31, if_neg (by rw [hB]; simp)]
            refine z_iinc C 6 [(5, vI ((i : Int) + 1)), (6, vI z_31), (0, .ref (h 0)), (1, vI k), (2, vI (σ 1 k.toNat)), (3, vI ((adS σ LT k.toNat i).1)), (4, vI ((adS σ LT k.toNat i).2))] dX1_advise_74 rfl (by decide) rfl ?_
            refine z_goto C (tgt := 22) dX1_advise_77 (by decide) ?_
            refine z_chg 5 (x' := (adS σ LT k.toNat (i + 1)).1) (lv' := [(5, vI ((i : Int) + 1)), (6, vI z_31), (0, .ref (h 0)), (1, vI k), (2, vI (σ 1 k.toNat)), (3, vI ((adS σ LT k.toNat (i + 1)).1)), (4, vI ((adS σ LT k.toNat i).2))]) rfl (by rw [hA]) rfl ?_
            refine z_chg 6 (x' := (adS σ LT k.toNat (i + 1)).2) (lv' := [(5, vI ((i : Int) + 1)), (6, vI z_31), (0, .ref (h 0)), (1, vI k), (2, vI (σ 1 k.toNat)), (3, vI ((adS σ LT k.toNat (i + 1)).1)), (4, vI ((adS σ LT k.toNat (i + 1)).2))]) rfl (by rw [hA]) rfl ?_
            refine z_chg 0 (x' := ((i + 1 : Nat) : Int)) (lv' := [(5, vI ((i + 1 : Nat) : Int)), (6, vI z_31), (0, .ref (h 0)), (1, vI k), (2, vI (σ 1 k.toNat)), (3, vI ((adS σ LT k.toNat (i + 1)).1)), (4, vI ((adS σ LT k.toNat (i + 1)).2))]) rfl (by omega) rfl ?_
            refine z_sub (lv' := [(0, .ref (h 0)), (1, vI k), (2, vI (σ 1 k.toNat)), (3, vI ((adS σ LT k.toNat (i + 1)).1)), (4, vI ((adS σ LT k.toNat (i + 1)).2)), (5, vI ((i + 1 : Nat) : Int))]) [2, 3, 4, 5, 6, 0] rfl ?_
            exact ih9 (i + 1) φ1 (by omega) (by omega)
          ·
            have hB : lampB σ z_31 = false := bz_f hz_45 c_48
            refine z_aload_n C 1 dX1_advise_51 rfl ?_
            refine z_iload_n C 2 dX1_advise_52 rfl ?_
            refine z_iload C 0 dX1_advise_53 rfl ?_
            refine z_callVi C (As := [vI k, vI z_31]) (st := []) (y := yX1_litIfCarried) (w := wsX1_litIfCarried) (rm := rm_X1_litIfCarried) (wr := []) (k' := 0) (n' := 0) [0, 1, 2, 3, 4, 5, 6, 7, 8] [] 0 (c_X1_litIfCarried l D cI cJ h σ LT γ φ1 k z_31 (by omega) (by omega) hO hL) (cwV 2 C.1.2.2.2.2 gX1_advise_X1_litIfCarried rfl rfl rfl (by decide +kernel) ⟨Nat.le_of_ble_eq_true rfl, Nat.le_of_ble_eq_true rfl⟩) rfl rfl rfl rfl rfl (by decide) rfl rfl rfl rfl (Nat.le_of_ble_eq_true rfl) rfl rfl ⟨Nat.le_of_ble_eq_true rfl, Nat.le_of_ble_eq_true rfl⟩ dX1_advise_55 ?_
            rintro z_55 _ ⟨φ'_55, rfl, hz_55⟩
            refine z_ws (ws' := (cw cI h σ LT γ φ'_55)) rfl ?_
            have r_55 := smB_r (fun c => decide (bcl (LT c) (2 ^ (k).toNat) ≠ 0) || litB (sU σ 1 (k).toNat z_31) (k).toNat c) 144
            rw [← hz_55] at r_55
            have hz_55 : z_55 = sm (fun c => bI (decide (bcl (LT c) (2 ^ k.toNat) ≠ 0) || litB (sU σ 1 k.toNat z_31) k.toNat c)) 144 := hz_55
            have hC : z_55 = licV σ LT k.toNat z_31 := hz_55
            refine z_istore C [(7, vI z_55), (6, vI z_31), (0, .ref (h 0)), (1, vI k), (2, vI (σ 1 k.toNat)), (3, vI ((adS σ LT k.toNat i).1)), (4, vI ((adS σ LT k.toNat i).2)), (5, vI (i : Int))] dX1_advise_58 (by decide) rfl ?_
            refine z_iload C 0 dX1_advise_60 rfl ?_
            refine z_iload C 6 dX1_advise_62 rfl ?_
            refine z_icmp_le C (tgt := 74) dX1_advise_64 (by decide) (by omega) (by omega) (fun c_64 => ?_) (fun c_64 => ?_)
            ·
              have hA : adS σ LT k.toNat (i + 1) = adS σ LT k.toNat i := by simp only [adS]; rw [← hz_31, if_neg (by rw [← hC]; omega)]
              refine z_iinc C 7 [(5, vI ((i : Int) + 1)), (7, vI z_55), (6, vI z_31), (0, .ref (h 0)), (1, vI k), (2, vI (σ 1 k.toNat)), (3, vI ((adS σ LT k.toNat i).1)), (4, vI ((adS σ LT k.toNat i).2))] dX1_advise_74 rfl (by decide) rfl ?_
              refine z_goto C (tgt := 22) dX1_advise_77 (by decide) ?_
              refine z_chg 6 (x' := (adS σ LT k.toNat (i + 1)).1) (lv' := [(5, vI ((i : Int) + 1)), (7, vI z_55), (6, vI z_31), (0, .ref (h 0)), (1, vI k), (2, vI (σ 1 k.toNat)), (3, vI ((adS σ LT k.toNat (i + 1)).1)), (4, vI ((adS σ LT k.toNat i).2))]) rfl (by rw [hA]) rfl ?_
              refine z_chg 7 (x' := (adS σ LT k.toNat (i + 1)).2) (lv' := [(5, vI ((i : Int) + 1)), (7, vI z_55), (6, vI z_31), (0, .ref (h 0)), (1, vI k), (2, vI (σ 1 k.toNat)), (3, vI ((adS σ LT k.toNat (i + 1)).1)), (4, vI ((adS σ LT k.toNat (i + 1)).2))]) rfl (by rw [hA]) rfl ?_
              refine z_chg 0 (x' := ((i + 1 : Nat) : Int)) (lv' := [(5, vI ((i + 1 : Nat) : Int)), (7, vI z_55), (6, vI z_31), (0, .ref (h 0)), (1, vI k), (2, vI (σ 1 k.toNat)), (3, vI ((adS σ LT k.toNat (i + 1)).1)), (4, vI ((adS σ LT k.toNat (i + 1)).2))]) rfl (by omega) rfl ?_
              refine z_sub (lv' := [(0, .ref (h 0)), (1, vI k), (2, vI (σ 1 k.toNat)), (3, vI ((adS σ LT k.toNat (i + 1)).1)), (4, vI ((adS σ LT k.toNat (i + 1)).2)), (5, vI ((i + 1 : Nat) : Int))]) [3, 4, 5, 6, 7, 0] rfl ?_
              exact ih9 (i + 1) φ'_55 (by omega) (by omega)
            ·
              have hA : adS σ LT k.toNat (i + 1) = (z_31, z_55) := by simp only [adS]; rw [← hz_31, if_pos ⟨by omega, hB, by rw [← hC]; omega⟩, hC]
              refine z_iload C 0 dX1_advise_67 rfl ?_
              refine z_istore C [(4, vI z_55), (7, vI z_55), (6, vI z_31), (0, .ref (h 0)), (1, vI k), (2, vI (σ 1 k.toNat)), (3, vI ((adS σ LT k.toNat i).1)), (5, vI (i : Int))] dX1_advise_69 (by decide) rfl ?_
              refine z_iload C 2 dX1_advise_71 rfl ?_
              refine z_istore_n C [(3, vI z_31), (4, vI z_55), (7, vI z_55), (6, vI z_31), (0, .ref (h 0)), (1, vI k), (2, vI (σ 1 k.toNat)), (5, vI (i : Int))] dX1_advise_73 (by decide) rfl ?_
              refine z_iinc C 7 [(5, vI ((i : Int) + 1)), (3, vI z_31), (4, vI z_55), (7, vI z_55), (6, vI z_31), (0, .ref (h 0)), (1, vI k), (2, vI (σ 1 k.toNat))] dX1_advise_74 rfl (by decide) rfl ?_
              refine z_goto C (tgt := 22) dX1_advise_77 (by decide) ?_
              refine z_chg 1 (x' := (adS σ LT k.toNat (i + 1)).1) (lv' := [(5, vI ((i : Int) + 1)), (3, vI ((adS σ LT k.toNat (i + 1)).1)), (4, vI z_55), (7, vI z_55), (6, vI z_31), (0, .ref (h 0)), (1, vI k), (2, vI (σ 1 k.toNat))]) rfl (by rw [hA]) rfl ?_
              refine z_chg 2 (x' := (adS σ LT k.toNat (i + 1)).2) (lv' := [(5, vI ((i : Int) + 1)), (3, vI ((adS σ LT k.toNat (i + 1)).1)), (4, vI ((adS σ LT k.toNat (i + 1)).2)), (7, vI z_55), (6, vI z_31), (0, .ref (h 0)), (1, vI k), (2, vI (σ 1 k.toNat))]) rfl (by rw [hA]) rfl ?_
              refine z_chg 0 (x' := ((i + 1 : Nat) : Int)) (lv' := [(5, vI ((i + 1 : Nat) : Int)), (3, vI ((adS σ LT k.toNat (i + 1)).1)), (4, vI ((adS σ LT k.toNat (i + 1)).2)), (7, vI z_55), (6, vI z_31), (0, .ref (h 0)), (1, vI k), (2, vI (σ 1 k.toNat))]) rfl (by omega) rfl ?_
              refine z_sub (lv' := [(0, .ref (h 0)), (1, vI k), (2, vI (σ 1 k.toNat)), (3, vI ((adS σ LT k.toNat (i + 1)).1)), (4, vI ((adS σ LT k.toNat (i + 1)).2)), (5, vI ((i + 1 : Nat) : Int))]) [5, 6, 7, 1, 2, 0] rfl ?_
              exact ih9 (i + 1) φ'_55 (by omega) (by omega)
  refine z_chg 1 (x' := litC LT) (lv' := [(5, vI 0), (4, vI (litC LT)), (3, vI (-1)), (2, vI (σ 1 k.toNat)), (0, .ref (h 0)), (1, vI k)]) rfl (by rw [hz_14]; rfl) rfl ?_
  refine z_sub (lv' := [(0, .ref (h 0)), (1, vI k), (2, vI (σ 1 k.toNat)), (3, vI (-1)), (4, vI (litC LT)), (5, vI 0)]) [4, 5, 3, 2, 1, 0] rfl ?_
  exact L_22 5 0 φ (by omega) (by omega)

abbrev rm_X1_darkest : Room := { frames := 3, cells := 0, slots := 0, locals := 72 }
set_option maxHeartbeats 4000000 in
set_option maxRecDepth 100000 in
theorem c_X1_darkest (l : Launch) (D : va_G) (cI cJ : ClassId) (h : Nat → Nat) (σ : YS) (LT : Nat → Int) (γ : YS) (φ : Nat → Int)  (hO : Ok σ) (hL : LR LT) : Ci l yX1_darkest wsX1_darkest rm_X1_darkest D [(cI, .int), (cJ, .long)] [.ref (h 0)] (cw cI h σ LT γ φ) (fun z u => u = (cw cI h σ LT γ φ) ∧ z = dkS σ LT 144) := by
  refine z_ofi (own := RX1) (cc := cX1_darkest) (maxL := 3) (lv := [(0, .ref (h 0))]) (by decide) rfl rfl (Nat.le_of_ble_eq_true rfl) rfl ?_
  intro p e s m args below meth cd Q A C hret
  have hn := hO.1
  have hm := hO.2.1
  have en := nLa_e hO
  have em := nWa_e hO
  refine z_iconst C dX1_darkest_0 ?_
  refine z_istore_n C [(1, vI (-1)), (0, .ref (h 0))] dX1_darkest_1 (by decide) rfl ?_
  refine z_iconst C dX1_darkest_2 ?_
  refine z_istore_n C [(2, vI 0), (1, vI (-1)), (0, .ref (h 0))] dX1_darkest_3 (by decide) rfl ?_
  have L_4 : ∀ (d9 i : Nat) (hi : i ≤ 144) (hd : 145 ≤ i + d9), Zs p l e rm_X1_darkest s m args below meth cd Q A D 3 4 [(0, .ref (h 0)), (1, vI (dkS σ LT i)), (2, vI (i : Int))] [] (cw cI h σ LT γ φ) 0 0 := by
    intro d9
    induction d9 with
    | zero =>
      intro i hi hd
      exfalso; omega
    | succ d9 ih9 =>
      intro i hi hd
      have hr := dkS_r σ LT i hi
      refine z_iload_n C 2 dX1_darkest_4 rfl ?_
      refine z_sipush C dX1_darkest_5 (by decide) ?_
      refine z_icmp_ge C (tgt := 41) dX1_darkest_8 (by decide) (by omega) (by omega) (fun c_8 => ?_) (fun c_8 => ?_)
      ·
        obtain rfl : i = 144 := by omega
        refine z_iload_n C 1 dX1_darkest_41 rfl ?_
        exact hret _ _ _ _ dX1_darkest_42 ⟨rfl, by rfl⟩
      ·
        refine z_aload_n C 0 dX1_darkest_11 rfl ?_
        refine z_iload_n C 2 dX1_darkest_12 rfl ?_
        refine z_callVi C (As := [vI (i : Int)]) (st := []) (y := yX1_kindOf) (w := wsX1_kindOf) (rm := rm_X1_kindOf) (wr := []) (k' := 0) (n' := 0) [0, 1, 2, 3, 4, 5, 6, 7, 8] [] 0 (c_X1_kindOf l D cI cJ h σ LT γ φ (i : Int) (by omega)) (cwV 1 C.1.2.2.2.2 gX1_darkest_X1_kindOf rfl rfl rfl (by decide +kernel) ⟨Nat.le_of_ble_eq_true rfl, Nat.le_of_ble_eq_true rfl⟩) rfl rfl rfl rfl rfl (by decide) rfl rfl rfl rfl (Nat.le_of_ble_eq_true rfl) rfl rfl ⟨Nat.le_of_ble_eq_true rfl, Nat.le_of_ble_eq_true rfl⟩ dX1_darkest_13 ?_
        rintro z_13 _ ⟨rfl, rfl⟩
        refine z_ws (ws' := (cw cI h σ LT γ φ)) rfl ?_
        refine z_st (v' := (σ 0 i)) rfl ?_
        have rk := hO.2.2.2.2 i
        refine z_if_ne C (tgt := 35) dX1_darkest_16 (by decide) (by omega) (fun c_16 => ?_) (fun c_16 => ?_)
        ·
          refine z_iinc C 2 [(2, vI ((i : Int) + 1)), (0, .ref (h 0)), (1, vI (dkS σ LT i))] dX1_darkest_35 rfl (by decide) rfl ?_
          refine z_goto C (tgt := 4) dX1_darkest_38 (by decide) ?_
          refine z_chg 2 (x' := dkS σ LT (i + 1)) (lv' := [(2, vI ((i : Int) + 1)), (0, .ref (h 0)), (1, vI (dkS σ LT (i + 1)))]) rfl (by first | exact dk_n c_16 | exact dk_0 c_16 c_21 | exact dk_t c_16 hz_27 c_30 | exact dk_f c_16 c_21 hz_27 c_30) rfl ?_
          refine z_chg 0 (x' := ((i + 1 : Nat) : Int)) (lv' := [(2, vI ((i + 1 : Nat) : Int)), (0, .ref (h 0)), (1, vI (dkS σ LT (i + 1)))]) rfl (by omega) rfl ?_
          refine z_sub (lv' := [(0, .ref (h 0)), (1, vI (dkS σ LT (i + 1))), (2, vI ((i + 1 : Nat) : Int))]) [1, 2, 0] rfl ?_
          exact ih9 (i + 1) (by omega) (by omega)
        ·
          refine z_iload_n C 1 dX1_darkest_19 rfl ?_
          refine z_iconst C dX1_darkest_20 ?_
          refine z_icmp_eq C (tgt := 33) dX1_darkest_21 (by decide) (by omega) (by omega) (fun c_21 => ?_) (fun c_21 => ?_)
          ·
            refine z_iload_n C 2 dX1_darkest_33 rfl ?_
            refine z_istore_n C [(1, vI (i : Int)), (0, .ref (h 0)), (2, vI (i : Int))] dX1_darkest_34 (by decide) rfl ?_
            refine z_iinc C 2 [(2, vI ((i : Int) + 1)), (1, vI (i : Int)), (0, .ref (h 0))] dX1_darkest_35 rfl (by decide) rfl ?_
            refine z_goto C (tgt := 4) dX1_darkest_38 (by decide) ?_
            refine z_chg 1 (x' := dkS σ LT (i + 1)) (lv' := [(2, vI ((i : Int) + 1)), (1, vI (dkS σ LT (i + 1))), (0, .ref (h 0))]) rfl (by first | exact dk_n c_16 | exact dk_0 c_16 c_21 | exact dk_t c_16 hz_27 c_30 | exact dk_f c_16 c_21 hz_27 c_30) rfl ?_
            refine z_chg 0 (x' := ((i + 1 : Nat) : Int)) (lv' := [(2, vI ((i + 1 : Nat) : Int)), (1, vI (dkS σ LT (i + 1))), (0, .ref (h 0))]) rfl (by omega) rfl ?_
            refine z_sub (lv' := [(0, .ref (h 0)), (1, vI (dkS σ LT (i + 1))), (2, vI ((i + 1 : Nat) : Int))]) [2, 1, 0] rfl ?_
            exact ih9 (i + 1) (by omega) (by omega)
          ·
            refine z_aload_n C 0 dX1_darkest_24 rfl ?_
            refine z_iload_n C 2 dX1_darkest_25 rfl ?_
            refine z_iload_n C 1 dX1_darkest_26 rfl ?_
            refine z_callVi C (As := [vI (i : Int), vI (dkS σ LT i)]) (st := []) (y := yX1_isDarkerThan) (w := wsX1_isDarkerThan) (rm := rm_X1_isDarkerThan) (wr := []) (k' := 0) (n' := 0) [0, 1, 2, 3, 4, 5, 6, 7, 8] [] 0 (c_X1_isDarkerThan l D cI cJ h σ LT γ φ (i : Int) (dkS σ LT i) (by omega) (by omega) hO hL) (cwV 2 C.1.2.2.2.2 gX1_darkest_X1_isDarkerThan rfl rfl rfl (by decide +kernel) ⟨Nat.le_of_ble_eq_true rfl, Nat.le_of_ble_eq_true rfl⟩) rfl rfl rfl rfl rfl (by decide) rfl rfl rfl rfl (Nat.le_of_ble_eq_true rfl) rfl rfl ⟨Nat.le_of_ble_eq_true rfl, Nat.le_of_ble_eq_true rfl⟩ dX1_darkest_27 ?_
            rintro z_27 _ ⟨rfl, hz_27⟩
            refine z_ws (ws' := (cw cI h σ LT γ φ)) rfl ?_
            have r_27 : z_27 = 0 ∨ z_27 = 1 := by rw [hz_27]; exact bI_01 _
            have hz_27 : z_27 = bI (drk σ LT i (dkS σ LT i).toNat) := hz_27
            refine z_if_eq C (tgt := 35) dX1_darkest_30 (by decide) (by omega) (fun c_30 => ?_) (fun c_30 => ?_)
            ·
              refine z_iinc C 2 [(2, vI ((i : Int) + 1)), (0, .ref (h 0)), (1, vI (dkS σ LT i))] dX1_darkest_35 rfl (by decide) rfl ?_
              refine z_goto C (tgt := 4) dX1_darkest_38 (by decide) ?_
              refine z_chg 2 (x' := dkS σ LT (i + 1)) (lv' := [(2, vI ((i : Int) + 1)), (0, .ref (h 0)), (1, vI (dkS σ LT (i + 1)))]) rfl (by first | exact dk_n c_16 | exact dk_0 c_16 c_21 | exact dk_t c_16 hz_27 c_30 | exact dk_f c_16 c_21 hz_27 c_30) rfl ?_
              refine z_chg 0 (x' := ((i + 1 : Nat) : Int)) (lv' := [(2, vI ((i + 1 : Nat) : Int)), (0, .ref (h 0)), (1, vI (dkS σ LT (i + 1)))]) rfl (by omega) rfl ?_
              refine z_sub (lv' := [(0, .ref (h 0)), (1, vI (dkS σ LT (i + 1))), (2, vI ((i + 1 : Nat) : Int))]) [1, 2, 0] rfl ?_
              exact ih9 (i + 1) (by omega) (by omega)
            ·
              refine z_iload_n C 2 dX1_darkest_33 rfl ?_
              refine z_istore_n C [(1, vI (i : Int)), (0, .ref (h 0)), (2, vI (i : Int))] dX1_darkest_34 (by decide) rfl ?_
              refine z_iinc C 2 [(2, vI ((i : Int) + 1)), (1, vI (i : Int)), (0, .ref (h 0))] dX1_darkest_35 rfl (by decide) rfl ?_
              refine z_goto C (tgt := 4) dX1_darkest_38 (by decide) ?_
              refine z_chg 1 (x' := dkS σ LT (i + 1)) (lv' := [(2, vI ((i : Int) + 1)), (1, vI (dkS σ LT (i + 1))), (0, .ref (h 0))]) rfl (by first | exact dk_n c_16 | exact dk_0 c_16 c_21 | exact dk_t c_16 hz_27 c_30 | exact dk_f c_16 c_21 hz_27 c_30) rfl ?_
              refine z_chg 0 (x' := ((i + 1 : Nat) : Int)) (lv' := [(2, vI ((i + 1 : Nat) : Int)), (1, vI (dkS σ LT (i + 1))), (0, .ref (h 0))]) rfl (by omega) rfl ?_
              refine z_sub (lv' := [(0, .ref (h 0)), (1, vI (dkS σ LT (i + 1))), (2, vI ((i + 1 : Nat) : Int))]) [2, 1, 0] rfl ?_
              exact ih9 (i + 1) (by omega) (by omega)
  refine z_sub (lv' := [(0, .ref (h 0)), (1, vI (-1)), (2, vI 0)]) [2, 1, 0] rfl ?_
  exact L_4 145 0 (by omega) (by omega)
