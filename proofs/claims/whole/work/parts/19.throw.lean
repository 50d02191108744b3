abbrev rx_X1_set : Room := { frames := 7, cells := 1, slots := 6, locals := 140 }
set_option maxHeartbeats 4000000 in
set_option maxRecDepth 100000 in
theorem x_X1_set (l : Launch) (D : va_G) (cI cJ : ClassId) (h : Nat → Nat) (σ : YS) (LT : Nat → Int) (γ : YS) (φ : Nat → Int) (x y kd : Int) (hr : rng x ∧ rng y ∧ rng kd) (hb : ¬ ((0 ≤ x ∧ x < 12) ∧ 0 ≤ y ∧ y < 12)) : Xt l yX1_set wsX1_set rx_X1_set D [(cI, .int), (cJ, .long)] [.ref (h 0), vI x, vI y, vI kd] (cw cI h σ LT γ φ) xIO (fun u : va_W => u = (cw cI h σ LT γ φ)) := by
  refine x_of (cc := cX1_set) (maxL := 6) (lv := [(0, .ref (h 0)), (1, vI x), (2, vI y), (3, vI kd)]) (by decide) rfl rfl (Nat.le_of_ble_eq_true rfl) rfl ?_
  intro p e s m args below meth cd Q A C hX hZo hthr
  refine z_iload_n C 1 dX1_set_0 rfl ?_
  refine z_iload_n C 2 dX1_set_1 rfl ?_
  refine x_callS C hX (As := [vI x, vI y]) (st := []) (y := yX1_requirePlace) (w := wsX1_requirePlace) (rm := rx_X1_requirePlace) (wr := (cw cI h σ LT γ φ)) (k' := 1) (n' := 6) [] [0, 1, 2, 3, 4, 5, 6, 7, 8] (x_X1_requirePlace l D cI cJ  x y (by omega) (by omega)) (va_cwS 2 C.1.2.2.2.2 gX1_set_X1_requirePlace rfl rfl rfl (by decide +kernel) ⟨Nat.le_of_ble_eq_true rfl, Nat.le_of_ble_eq_true rfl⟩) rfl rfl rfl rfl rfl (by decide) rfl rfl (Nat.le_of_ble_eq_true rfl) rfl rfl ⟨Nat.le_of_ble_eq_true rfl, Nat.le_of_ble_eq_true rfl⟩ dX1_set_2 (fun u hu => ?_)
  obtain rfl := hu
  exact hZo _ _ _ _ _ rfl (by decide) (by decide)

abbrev rxb_X1_set : Room := { frames := 7, cells := 1, slots := 6, locals := 140 }
set_option maxHeartbeats 4000000 in
set_option maxRecDepth 100000 in
theorem xb_X1_set (l : Launch) (D : va_G) (cI cJ : ClassId) (h : Nat → Nat) (σ : YS) (LT : Nat → Int) (γ : YS) (φ : Nat → Int) (x y kd : Int) (hr : rng x ∧ rng y ∧ rng kd) (hp : ((0 ≤ x ∧ x < 12) ∧ 0 ≤ y ∧ y < 12)) (hb : ¬ (0 ≤ kd ∧ kd < 4)) : Xt l yX1_set wsX1_set rxb_X1_set D [(cI, .int), (cJ, .long)] [.ref (h 0), vI x, vI y, vI kd] (cw cI h σ LT γ φ) xIA (fun u : va_W => u = (cw cI h σ LT γ φ)) := by
  refine x_of (cc := cX1_set) (maxL := 6) (lv := [(0, .ref (h 0)), (1, vI x), (2, vI y), (3, vI kd)]) (by decide) rfl rfl (Nat.le_of_ble_eq_true rfl) rfl ?_
  intro p e s m args below meth cd Q A C hX hZo hthr
  refine z_iload_n C 1 dX1_set_0 rfl ?_
  refine z_iload_n C 2 dX1_set_1 rfl ?_
  refine z_callSv C (As := [vI x, vI y]) (st := []) (y := yX1_requirePlace) (w := wsX1_requirePlace) (rm := rm_X1_requirePlace) (wr := (cw cI h σ LT γ φ)) (k' := 0) (n' := 0) [] [0, 1, 2, 3, 4, 5, 6, 7, 8] (c_X1_requirePlace l D cI cJ  x y (by omega)) (va_cwS 2 C.1.2.2.2.2 gX1_set_X1_requirePlace rfl rfl rfl (by decide +kernel) ⟨Nat.le_of_ble_eq_true rfl, Nat.le_of_ble_eq_true rfl⟩) rfl rfl rfl rfl rfl (by decide) rfl rfl (Nat.le_of_ble_eq_true rfl) rfl rfl ⟨Nat.le_of_ble_eq_true rfl, Nat.le_of_ble_eq_true rfl⟩ dX1_set_2 ?_
  rintro _ rfl
  refine z_ws (ws' := (cw cI h σ LT γ φ)) rfl ?_
  refine z_iload_n C 3 dX1_set_5 rfl ?_
  refine x_callS C hX (As := [vI kd]) (st := []) (y := yX1_requireKind) (w := wsX1_requireKind) (rm := rx_X1_requireKind) (wr := (cw cI h σ LT γ φ)) (k' := 1) (n' := 6) [] [0, 1, 2, 3, 4, 5, 6, 7, 8] (x_X1_requireKind l D cI cJ  kd (by omega) (by omega)) (va_cwS 1 C.1.2.2.2.2 gX1_set_X1_requireKind rfl rfl rfl (by decide +kernel) ⟨Nat.le_of_ble_eq_true rfl, Nat.le_of_ble_eq_true rfl⟩) rfl rfl rfl rfl rfl (by decide) rfl rfl (Nat.le_of_ble_eq_true rfl) rfl rfl ⟨Nat.le_of_ble_eq_true rfl, Nat.le_of_ble_eq_true rfl⟩ dX1_set_6 (fun u hu => ?_)
  obtain rfl := hu
  exact hZo _ _ _ _ _ rfl (by decide) (by decide)

abbrev rx_X1_lamp : Room := { frames := 7, cells := 1, slots := 6, locals := 121 }
set_option maxHeartbeats 4000000 in
set_option maxRecDepth 100000 in
theorem x_X1_lamp (l : Launch) (D : va_G) (cI cJ : ClassId) (h : Nat → Nat) (σ : YS) (LT : Nat → Int) (γ : YS) (φ : Nat → Int) (x y r : Int) (hr : rng x ∧ rng y ∧ rng r) (hb : ¬ ((0 ≤ x ∧ x < 12) ∧ 0 ≤ y ∧ y < 12)) : Xt l yX1_lamp wsX1_lamp rx_X1_lamp D [(cI, .int), (cJ, .long)] [.ref (h 0), vI x, vI y, vI r] (cw cI h σ LT γ φ) xIO (fun u : va_W => u = (cw cI h σ LT γ φ)) := by
  refine x_of (cc := cX1_lamp) (maxL := 6) (lv := [(0, .ref (h 0)), (1, vI x), (2, vI y), (3, vI r)]) (by decide) rfl rfl (Nat.le_of_ble_eq_true rfl) rfl ?_
  intro p e s m args below meth cd Q A C hX hZo hthr
  refine z_iload_n C 1 dX1_lamp_0 rfl ?_
  refine z_iload_n C 2 dX1_lamp_1 rfl ?_
  refine x_callS C hX (As := [vI x, vI y]) (st := []) (y := yX1_requirePlace) (w := wsX1_requirePlace) (rm := rx_X1_requirePlace) (wr := (cw cI h σ LT γ φ)) (k' := 1) (n' := 6) [] [0, 1, 2, 3, 4, 5, 6, 7, 8] (x_X1_requirePlace l D cI cJ  x y (by omega) (by omega)) (va_cwS 2 C.1.2.2.2.2 gX1_lamp_X1_requirePlace rfl rfl rfl (by decide +kernel) ⟨Nat.le_of_ble_eq_true rfl, Nat.le_of_ble_eq_true rfl⟩) rfl rfl rfl rfl rfl (by decide) rfl rfl (Nat.le_of_ble_eq_true rfl) rfl rfl ⟨Nat.le_of_ble_eq_true rfl, Nat.le_of_ble_eq_true rfl⟩ dX1_lamp_2 (fun u hu => ?_)
  obtain rfl := hu
  exact hZo _ _ _ _ _ rfl (by decide) (by decide)

abbrev rxb_X1_lamp : Room := { frames := 7, cells := 1, slots := 6, locals := 121 }
set_option maxHeartbeats 4000000 in
set_option maxRecDepth 100000 in
theorem xb_X1_lamp (l : Launch) (D : va_G) (cI cJ : ClassId) (h : Nat → Nat) (σ : YS) (LT : Nat → Int) (γ : YS) (φ : Nat → Int) (x y r : Int) (hr : rng x ∧ rng y ∧ rng r) (hp : ((0 ≤ x ∧ x < 12) ∧ 0 ≤ y ∧ y < 12)) (hb : ¬ (1 ≤ r ∧ r < 13)) : Xt l yX1_lamp wsX1_lamp rxb_X1_lamp D [(cI, .int), (cJ, .long)] [.ref (h 0), vI x, vI y, vI r] (cw cI h σ LT γ φ) xIA (fun u : va_W => u = (cw cI h σ LT γ φ)) := by
  refine x_of (cc := cX1_lamp) (maxL := 6) (lv := [(0, .ref (h 0)), (1, vI x), (2, vI y), (3, vI r)]) (by decide) rfl rfl (Nat.le_of_ble_eq_true rfl) rfl ?_
  intro p e s m args below meth cd Q A C hX hZo hthr
  refine z_iload_n C 1 dX1_lamp_0 rfl ?_
  refine z_iload_n C 2 dX1_lamp_1 rfl ?_
  refine z_callSv C (As := [vI x, vI y]) (st := []) (y := yX1_requirePlace) (w := wsX1_requirePlace) (rm := rm_X1_requirePlace) (wr := (cw cI h σ LT γ φ)) (k' := 0) (n' := 0) [] [0, 1, 2, 3, 4, 5, 6, 7, 8] (c_X1_requirePlace l D cI cJ  x y (by omega)) (va_cwS 2 C.1.2.2.2.2 gX1_lamp_X1_requirePlace rfl rfl rfl (by decide +kernel) ⟨Nat.le_of_ble_eq_true rfl, Nat.le_of_ble_eq_true rfl⟩) rfl rfl rfl rfl rfl (by decide) rfl rfl (Nat.le_of_ble_eq_true rfl) rfl rfl ⟨Nat.le_of_ble_eq_true rfl, Nat.le_of_ble_eq_true rfl⟩ dX1_lamp_2 ?_
  rintro _ rfl
  refine z_ws (ws' := (cw cI h σ LT γ φ)) rfl ?_
  refine z_iload_n C 3 dX1_lamp_5 rfl ?_
  refine x_callS C hX (As := [vI r]) (st := []) (y := yX1_requireReach) (w := wsX1_requireReach) (rm := rx_X1_requireReach) (wr := (cw cI h σ LT γ φ)) (k' := 1) (n' := 6) [] [0, 1, 2, 3, 4, 5, 6, 7, 8] (x_X1_requireReach l D cI cJ  r (by omega) (by omega)) (va_cwS 1 C.1.2.2.2.2 gX1_lamp_X1_requireReach rfl rfl rfl (by decide +kernel) ⟨Nat.le_of_ble_eq_true rfl, Nat.le_of_ble_eq_true rfl⟩) rfl rfl rfl rfl rfl (by decide) rfl rfl (Nat.le_of_ble_eq_true rfl) rfl rfl ⟨Nat.le_of_ble_eq_true rfl, Nat.le_of_ble_eq_true rfl⟩ dX1_lamp_6 (fun u hu => ?_)
  obtain rfl := hu
  exact hZo _ _ _ _ _ rfl (by decide) (by decide)

abbrev rxc_X1_lamp : Room := { frames := 7, cells := 1, slots := 6, locals := 121 }
set_option maxHeartbeats 4000000 in
set_option maxRecDepth 100000 in
theorem xc_X1_lamp (l : Launch) (D : va_G) (cI cJ : ClassId) (h : Nat → Nat) (σ : YS) (LT : Nat → Int) (γ : YS) (φ : Nat → Int) (x y r : Int) (hr : rng x ∧ rng y ∧ rng r) (hp : ((0 ≤ x ∧ x < 12) ∧ 0 ≤ y ∧ y < 12)) (hp2 : 1 ≤ r ∧ r < 13) (hO : Ok σ) (hb : σ 4 0 = 4) : Xt l yX1_lamp wsX1_lamp rxc_X1_lamp D [(cI, .int), (cJ, .long)] [.ref (h 0), vI x, vI y, vI r] (cw cI h σ LT γ φ) xIS (fun u : va_W => u = (cw cI h σ LT γ φ)) := by
  refine x_of (cc := cX1_lamp) (maxL := 6) (lv := [(0, .ref (h 0)), (1, vI x), (2, vI y), (3, vI r)]) (by decide) rfl rfl (Nat.le_of_ble_eq_true rfl) rfl ?_
  intro p e s m args below meth cd Q A C hX hZo hthr
  have hn := hO.1
  have hm := hO.2.1
  have en := nLa_e hO
  have em := nWa_e hO
  refine z_iload_n C 1 dX1_lamp_0 rfl ?_
  refine z_iload_n C 2 dX1_lamp_1 rfl ?_
  refine z_callSv C (As := [vI x, vI y]) (st := []) (y := yX1_requirePlace) (w := wsX1_requirePlace) (rm := rm_X1_requirePlace) (wr := (cw cI h σ LT γ φ)) (k' := 0) (n' := 0) [] [0, 1, 2, 3, 4, 5, 6, 7, 8] (c_X1_requirePlace l D cI cJ  x y (by omega)) (va_cwS 2 C.1.2.2.2.2 gX1_lamp_X1_requirePlace rfl rfl rfl (by decide +kernel) ⟨Nat.le_of_ble_eq_true rfl, Nat.le_of_ble_eq_true rfl⟩) rfl rfl rfl rfl rfl (by decide) rfl rfl (Nat.le_of_ble_eq_true rfl) rfl rfl ⟨Nat.le_of_ble_eq_true rfl, Nat.le_of_ble_eq_true rfl⟩ dX1_lamp_2 ?_
  rintro _ rfl
  refine z_ws (ws' := (cw cI h σ LT γ φ)) rfl ?_
  refine z_iload_n C 3 dX1_lamp_5 rfl ?_
  refine z_callSv C (As := [vI r]) (st := []) (y := yX1_requireReach) (w := wsX1_requireReach) (rm := rm_X1_requireReach) (wr := (cw cI h σ LT γ φ)) (k' := 0) (n' := 0) [] [0, 1, 2, 3, 4, 5, 6, 7, 8] (c_X1_requireReach l D cI cJ  r (by omega)) (va_cwS 1 C.1.2.2.2.2 gX1_lamp_X1_requireReach rfl rfl rfl (by decide +kernel) ⟨Nat.le_of_ble_eq_true rfl, Nat.le_of_ble_eq_true rfl⟩) rfl rfl rfl rfl rfl (by decide) rfl rfl (Nat.le_of_ble_eq_true rfl) rfl rfl ⟨Nat.le_of_ble_eq_true rfl, Nat.le_of_ble_eq_true rfl⟩ dX1_lamp_6 ?_
  rintro _ rfl
  refine z_ws (ws' := (cw cI h σ LT γ φ)) rfl ?_
  refine z_iload_n C 1 dX1_lamp_9 rfl ?_
  refine z_iload_n C 2 dX1_lamp_10 rfl ?_
  refine z_callSi C (As := [vI x, vI y]) (st := []) (y := yX1_cellAt) (w := wsX1_cellAt) (rm := rm_X1_cellAt) (wr := (cw cI h σ LT γ φ)) (k' := 0) (n' := 0) [] [0, 1, 2, 3, 4, 5, 6, 7, 8] (c_X1_cellAt l D cI cJ  x y ) (va_cwS 2 C.1.2.2.2.2 gX1_lamp_X1_cellAt rfl rfl rfl (by decide +kernel) ⟨Nat.le_of_ble_eq_true rfl, Nat.le_of_ble_eq_true rfl⟩) rfl rfl rfl rfl rfl (by decide) rfl rfl (Nat.le_of_ble_eq_true rfl) rfl rfl ⟨Nat.le_of_ble_eq_true rfl, Nat.le_of_ble_eq_true rfl⟩ dX1_lamp_11 ?_
  rintro z_11 _ ⟨rfl, rfl⟩
  refine z_ws (ws' := (cw cI h σ LT γ φ)) rfl ?_
  refine z_st (v' := (12 * y + x)) rfl ?_
  refine z_istore C [(4, vI (12 * y + x)), (0, .ref (h 0)), (1, vI x), (2, vI y), (3, vI r)] dX1_lamp_14 (by decide) rfl ?_
  refine z_aload_n C 1 dX1_lamp_16 rfl ?_
  refine z_get C (v := vI (σ 4 0)) (ref := "ShadowWalls") (T := TX1) (N := 11) (ci := 1) 0 8 inU_X1_X1_lamp rfl rfl (by decide) (by decide +kernel) (fun _ h9 => h9) rfl dX1_lamp_17 ?_
  refine z_istore C [(5, vI (σ 4 0)), (4, vI (12 * y + x)), (0, .ref (h 0)), (1, vI x), (2, vI y), (3, vI r)] dX1_lamp_20 (by decide) rfl ?_
  refine z_iload C 0 dX1_lamp_22 rfl ?_
  refine z_if_lt C (tgt := 47) dX1_lamp_24 (by decide) (by omega) (fun c_24 => ?_) (fun c_24 => ?_)
  ·
    exact hthr _ _ _ _ _ _ 67 69 71 "there are 4 lamps" rfl (by decide) (by decide) (by decide +kernel) (by decide +kernel) (by decide +kernel) hb_xIS (by decide +kernel) (by decide +kernel) og_xIS dX1_lamp_47 dX1_lamp_50 dX1_lamp_51 dX1_lamp_53 dX1_lamp_56 (by decide) (by decide) (by decide) (by decide)
  ·
    refine z_iload C 0 dX1_lamp_27 rfl ?_
    refine z_aload_n C 2 dX1_lamp_29 rfl ?_
    refine z_get C (v := .ref (h 2)) (ref := "ShadowWalls") (T := TX1) (N := 11) (ci := 1) 0 1 inU_X1_X1_lamp rfl rfl (by decide) (by decide +kernel) (fun _ h9 => h9) rfl dX1_lamp_30 ?_
    refine z_alen C (v := 4) (cA := cI) (ty := .int) 2 0 rfl rfl rfl dX1_lamp_33 ?_
    refine z_icmp_ge C (tgt := 47) dX1_lamp_34 (by decide) (by omega) (by omega) (fun c_34 => ?_) (fun c_34 => ?_)
    ·
      exact hthr _ _ _ _ _ _ 67 69 71 "there are 4 lamps" rfl (by decide) (by decide) (by decide +kernel) (by decide +kernel) (by decide +kernel) hb_xIS (by decide +kernel) (by decide +kernel) og_xIS dX1_lamp_47 dX1_lamp_50 dX1_lamp_51 dX1_lamp_53 dX1_lamp_56 (by decide) (by decide) (by decide) (by decide)
    ·
      refine z_iload C 0 dX1_lamp_37 rfl ?_
      refine z_aload_n C 2 dX1_lamp_39 rfl ?_
      refine z_get C (v := .ref (h 3)) (ref := "ShadowWalls") (T := TX1) (N := 11) (ci := 1) 0 2 inU_X1_X1_lamp rfl rfl (by decide) (by decide +kernel) (fun _ h9 => h9) rfl dX1_lamp_40 ?_
      refine z_alen C (v := 4) (cA := cI) (ty := .int) 3 0 rfl rfl rfl dX1_lamp_43 ?_
      refine z_icmp_lt C (tgt := 57) dX1_lamp_44 (by decide) (by omega) (by omega) (fun c_44 => ?_) (fun c_44 => ?_)
      ·
        exfalso; omega
      ·
        exact hthr _ _ _ _ _ _ 67 69 71 "there are 4 lamps" rfl (by decide) (by decide) (by decide +kernel) (by decide +kernel) (by decide +kernel) hb_xIS (by decide +kernel) (by decide +kernel) og_xIS dX1_lamp_47 dX1_lamp_50 dX1_lamp_51 dX1_lamp_53 dX1_lamp_56 (by decide) (by decide) (by decide) (by decide)

abbrev rxd_X1_lamp : Room := { frames := 7, cells := 1, slots := 6, locals := 121 }
set_option maxHeartbeats 4000000 in
set_option maxRecDepth 100000 in
theorem xd_X1_lamp (l : Launch) (D : va_G) (cI cJ : ClassId) (h : Nat → Nat) (σ : YS) (LT : Nat → Int) (γ : YS) (φ : Nat → Int) (x y r : Int) (hr : rng x ∧ rng y ∧ rng r) (hp : ((0 ≤ x ∧ x < 12) ∧ 0 ≤ y ∧ y < 12)) (hp2 : 1 ≤ r ∧ r < 13) (hO : Ok σ) (h4 : σ 4 0 < 4) (hb : lampB σ (12 * y + x) = true) : Xt l yX1_lamp wsX1_lamp rxd_X1_lamp D [(cI, .int), (cJ, .long)] [.ref (h 0), vI x, vI y, vI r] (cw cI h σ LT γ φ) xIS (fun u : va_W => u = (cw cI h σ LT γ φ)) := by
  refine x_of (cc := cX1_lamp) (maxL := 6) (lv := [(0, .ref (h 0)), (1, vI x), (2, vI y), (3, vI r)]) (by decide) rfl rfl (Nat.le_of_ble_eq_true rfl) rfl ?_
  intro p e s m args below meth cd Q A C hX hZo hthr
  have hn := hO.1
  have hm := hO.2.1
  have en := nLa_e hO
  have em := nWa_e hO
  refine z_iload_n C 1 dX1_lamp_0 rfl ?_
  refine z_iload_n C 2 dX1_lamp_1 rfl ?_
  refine z_callSv C (As := [vI x, vI y]) (st := []) (y := yX1_requirePlace) (w := wsX1_requirePlace) (rm := rm_X1_requirePlace) (wr := (cw cI h σ LT γ φ)) (k' := 0) (n' := 0) [] [0, 1, 2, 3, 4, 5, 6, 7, 8] (c_X1_requirePlace l D cI cJ  x y (by omega)) (va_cwS 2 C.1.2.2.2.2 gX1_lamp_X1_requirePlace rfl rfl rfl (by decide +kernel) ⟨Nat.le_of_ble_eq_true rfl, Nat.le_of_ble_eq_true rfl⟩) rfl rfl rfl rfl rfl (by decide) rfl rfl (Nat.le_of_ble_eq_true rfl) rfl rfl ⟨Nat.le_of_ble_eq_true rfl, Nat.le_of_ble_eq_true rfl⟩ dX1_lamp_2 ?_
  rintro _ rfl
  refine z_ws (ws' := (cw cI h σ LT γ φ)) rfl ?_
  refine z_iload_n C 3 dX1_lamp_5 rfl ?_
  refine z_callSv C (As := [vI r]) (st := []) (y := yX1_requireReach) (w := wsX1_requireReach) (rm := rm_X1_requireReach) (wr := (cw cI h σ LT γ φ)) (k' := 0) (n' := 0) [] [0, 1, 2, 3, 4, 5, 6, 7, 8] (c_X1_requireReach l D cI cJ  r (by omega)) (va_cwS 1 C.1.2.2.2.2 gX1_lamp_X1_requireReach rfl rfl rfl (by decide +kernel) ⟨Nat.le_of_ble_eq_true rfl, Nat.le_of_ble_eq_true rfl⟩) rfl rfl rfl rfl rfl (by decide) rfl rfl (Nat.le_of_ble_eq_true rfl) rfl rfl ⟨Nat.le_of_ble_eq_true rfl, Nat.le_of_ble_eq_true rfl⟩ dX1_lamp_6 ?_
  rintro _ rfl
  refine z_ws (ws' := (cw cI h σ LT γ φ)) rfl ?_
  refine z_iload_n C 1 dX1_lamp_9 rfl ?_
  refine z_iload_n C 2 dX1_lamp_10 rfl ?_
  refine z_callSi C (As := [vI x, vI y]) (st := []) (y := yX1_cellAt) (w := wsX1_cellAt) (rm := rm_X1_cellAt) (wr := (cw cI h σ LT γ φ)) (k' := 0) (n' := 0) [] [0, 1, 2, 3, 4, 5, 6, 7, 8] (c_X1_cellAt l D cI cJ  x y ) (va_cwS 2 C.1.2.2.2.2 gX1_lamp_X1_cellAt rfl rfl rfl (by decide +kernel) ⟨Nat.le_of_ble_eq_true rfl, Nat.le_of_ble_eq_true rfl⟩) rfl rfl rfl rfl rfl (by decide) rfl rfl (Nat.le_of_ble_eq_true rfl) rfl rfl ⟨Nat.le_of_ble_eq_true rfl, Nat.le_of_ble_eq_true rfl⟩ dX1_lamp_11 ?_
  rintro z_11 _ ⟨rfl, rfl⟩
  refine z_ws (ws' := (cw cI h σ LT γ φ)) rfl ?_
  refine z_st (v' := (12 * y + x)) rfl ?_
  refine z_istore C [(4, vI (12 * y + x)), (0, .ref (h 0)), (1, vI x), (2, vI y), (3, vI r)] dX1_lamp_14 (by decide) rfl ?_
  refine z_aload_n C 1 dX1_lamp_16 rfl ?_
  refine z_get C (v := vI (σ 4 0)) (ref := "ShadowWalls") (T := TX1) (N := 11) (ci := 1) 0 8 inU_X1_X1_lamp rfl rfl (by decide) (by decide +kernel) (fun _ h9 => h9) rfl dX1_lamp_17 ?_
  refine z_istore C [(5, vI (σ 4 0)), (4, vI (12 * y + x)), (0, .ref (h 0)), (1, vI x), (2, vI y), (3, vI r)] dX1_lamp_20 (by decide) rfl ?_
  refine z_iload C 0 dX1_lamp_22 rfl ?_
  refine z_if_lt C (tgt := 47) dX1_lamp_24 (by decide) (by omega) (fun c_24 => ?_) (fun c_24 => ?_)
  ·
    exact hthr _ _ _ _ _ _ 67 69 71 "there are 4 lamps" rfl (by decide) (by decide) (by decide +kernel) (by decide +kernel) (by decide +kernel) hb_xIS (by decide +kernel) (by decide +kernel) og_xIS dX1_lamp_47 dX1_lamp_50 dX1_lamp_51 dX1_lamp_53 dX1_lamp_56 (by decide) (by decide) (by decide) (by decide)
  ·
    refine z_iload C 0 dX1_lamp_27 rfl ?_
    refine z_aload_n C 2 dX1_lamp_29 rfl ?_
    refine z_get C (v := .ref (h 2)) (ref := "ShadowWalls") (T := TX1) (N := 11) (ci := 1) 0 1 inU_X1_X1_lamp rfl rfl (by decide) (by decide +kernel) (fun _ h9 => h9) rfl dX1_lamp_30 ?_
    refine z_alen C (v := 4) (cA := cI) (ty := .int) 2 0 rfl rfl rfl dX1_lamp_33 ?_
    refine z_icmp_ge C (tgt := 47) dX1_lamp_34 (by decide) (by omega) (by omega) (fun c_34 => ?_) (fun c_34 => ?_)
    ·
      exact hthr _ _ _ _ _ _ 67 69 71 "there are 4 lamps" rfl (by decide) (by decide) (by decide +kernel) (by decide +kernel) (by decide +kernel) hb_xIS (by decide +kernel) (by decide +kernel) og_xIS dX1_lamp_47 dX1_lamp_50 dX1_lamp_51 dX1_lamp_53 dX1_lamp_56 (by decide) (by decide) (by decide) (by decide)
    ·
      refine z_iload C 0 dX1_lamp_37 rfl ?_
      refine z_aload_n C 2 dX1_lamp_39 rfl ?_
      refine z_get C (v := .ref (h 3)) (ref := "ShadowWalls") (T := TX1) (N := 11) (ci := 1) 0 2 inU_X1_X1_lamp rfl rfl (by decide) (by decide +kernel) (fun _ h9 => h9) rfl dX1_lamp_40 ?_
      refine z_alen C (v := 4) (cA := cI) (ty := .int) 3 0 rfl rfl rfl dX1_lamp_43 ?_
      refine z_icmp_lt C (tgt := 57) dX1_lamp_44 (by decide) (by omega) (by omega) (fun c_44 => ?_) (fun c_44 => ?_)
      ·
        refine z_aload_n C 2 dX1_lamp_57 rfl ?_
        refine z_iload C 1 dX1_lamp_58 rfl ?_
        refine z_callVi C (As := [vI (12 * y + x)]) (st := []) (y := yX1_isLampAt) (w := wsX1_isLampAt) (rm := rm_X1_isLampAt) (wr := []) (k' := 0) (n' := 0) [0, 1, 2, 3, 4, 5, 6, 7, 8] [] 0 (c_X1_isLampAt l D cI cJ h σ LT γ φ (12 * y + x) (by omega) hO) (cwV 1 C.1.2.2.2.2 gX1_lamp_X1_isLampAt rfl rfl rfl (by decide +kernel) ⟨Nat.le_of_ble_eq_true rfl, Nat.le_of_ble_eq_true rfl⟩) rfl rfl rfl rfl rfl (by decide) rfl rfl rfl rfl (Nat.le_of_ble_eq_true rfl) rfl rfl ⟨Nat.le_of_ble_eq_true rfl, Nat.le_of_ble_eq_true rfl⟩ dX1_lamp_60 ?_
        rintro z_60 _ ⟨rfl, hz_60⟩
        refine z_ws (ws' := (cw cI h σ LT γ φ)) rfl ?_
        have r_60 : z_60 = 0 ∨ z_60 = 1 := by rw [hz_60]; exact bI_01 _
        have hz_60 : z_60 = bI (anyB (fun k => decide (σ 1 k = (12 * y + x))) (nLa σ)) := hz_60
        unfold lampB at hb
        rw [hb] at hz_60
        have hz0 : z_60 = 1 := hz_60
        refine z_if_eq C (tgt := 76) dX1_lamp_63 (by decide) (by omega) (fun c_63 => ?_) (fun c_63 => ?_)
        ·
          exfalso; omega
        ·
          exact hthr _ _ _ _ _ _ 67 78 71 "a lamp is there" rfl (by decide) (by decide) (by decide +kernel) (by decide +kernel) (by decide +kernel) hb_xIS (by decide +kernel) (by decide +kernel) og_xIS dX1_lamp_66 dX1_lamp_69 dX1_lamp_70 dX1_lamp_72 dX1_lamp_75 (by decide) (by decide) (by decide) (by decide)
      ·
        exact hthr _ _ _ _ _ _ 67 69 71 "there are 4 lamps" rfl (by decide) (by decide) (by decide +kernel) (by decide +kernel) (by decide +kernel) hb_xIS (by decide +kernel) (by decide +kernel) og_xIS dX1_lamp_47 dX1_lamp_50 dX1_lamp_51 dX1_lamp_53 dX1_lamp_56 (by decide) (by decide) (by decide) (by decide)

abbrev rx_X1_carry : Room := { frames := 7, cells := 1, slots := 6, locals := 121 }
set_option maxHeartbeats 4000000 in
set_option maxRecDepth 100000 in
theorem x_X1_carry (l : Launch) (D : va_G) (cI cJ : ClassId) (h : Nat → Nat) (σ : YS) (LT : Nat → Int) (γ : YS) (φ : Nat → Int) (k x y : Int) (hr : rng k ∧ rng x ∧ rng y) (hO : Ok σ) (hb : ¬ (0 ≤ k ∧ k < σ 4 0)) : Xt l yX1_carry wsX1_carry rx_X1_carry D [(cI, .int), (cJ, .long)] [.ref (h 0), vI k, vI x, vI y] (cw cI h σ LT γ φ) xIO (fun u : va_W => u = (cw cI h σ LT γ φ)) := by
  refine x_of (cc := cX1_carry) (maxL := 5) (lv := [(0, .ref (h 0)), (1, vI k), (2, vI x), (3, vI y)]) (by decide) rfl rfl (Nat.le_of_ble_eq_true rfl) rfl ?_
  intro p e s m args below meth cd Q A C hX hZo hthr
  have hn := hO.1
  have hm := hO.2.1
  have en := nLa_e hO
  have em := nWa_e hO
  refine z_aload_n C 0 dX1_carry_0 rfl ?_
  refine z_iload_n C 1 dX1_carry_1 rfl ?_
  refine x_callV C hX (As := [vI k]) (st := []) (y := yX1_requireLamp) (w := wsX1_requireLamp) (rm := rx_X1_requireLamp) (wr := []) (k' := 1) (n' := 6) [0, 1, 2, 3, 4, 5, 6, 7, 8] [] 0 (x_X1_requireLamp l D cI cJ h σ LT γ φ k (by omega) (by omega)) (cwV 1 C.1.2.2.2.2 gX1_carry_X1_requireLamp rfl rfl rfl (by decide +kernel) ⟨Nat.le_of_ble_eq_true rfl, Nat.le_of_ble_eq_true rfl⟩) rfl rfl rfl rfl rfl (by decide) rfl rfl rfl rfl (Nat.le_of_ble_eq_true rfl) rfl rfl ⟨Nat.le_of_ble_eq_true rfl, Nat.le_of_ble_eq_true rfl⟩ dX1_carry_2 (fun u hu => ?_)
  obtain rfl := hu
  exact hZo _ _ _ _ _ rfl (by decide) (by decide)

abbrev rxb_X1_carry : Room := { frames := 7, cells := 1, slots := 6, locals := 121 }
set_option maxHeartbeats 4000000 in
set_option maxRecDepth 100000 in
theorem xb_X1_carry (l : Launch) (D : va_G) (cI cJ : ClassId) (h : Nat → Nat) (σ : YS) (LT : Nat → Int) (γ : YS) (φ : Nat → Int) (k x y : Int) (hr : rng k ∧ rng x ∧ rng y) (hO : Ok σ) (hk : 0 ≤ k ∧ k < σ 4 0) (hb : ¬ ((0 ≤ x ∧ x < 12) ∧ 0 ≤ y ∧ y < 12)) : Xt l yX1_carry wsX1_carry rxb_X1_carry D [(cI, .int), (cJ, .long)] [.ref (h 0), vI k, vI x, vI y] (cw cI h σ LT γ φ) xIO (fun u : va_W => u = (cw cI h σ LT γ φ)) := by
  refine x_of (cc := cX1_carry) (maxL := 5) (lv := [(0, .ref (h 0)), (1, vI k), (2, vI x), (3, vI y)]) (by decide) rfl rfl (Nat.le_of_ble_eq_true rfl) rfl ?_
  intro p e s m args below meth cd Q A C hX hZo hthr
  have hn := hO.1
  have hm := hO.2.1
  have en := nLa_e hO
  have em := nWa_e hO
  refine z_aload_n C 0 dX1_carry_0 rfl ?_
  refine z_iload_n C 1 dX1_carry_1 rfl ?_
  refine z_callVv C (As := [vI k]) (st := []) (y := yX1_requireLamp) (w := wsX1_requireLamp) (rm := rm_X1_requireLamp) (wr := []) (k' := 0) (n' := 0) [0, 1, 2, 3, 4, 5, 6, 7, 8] [] 0 (c_X1_requireLamp l D cI cJ h σ LT γ φ k (by omega)) (cwV 1 C.1.2.2.2.2 gX1_carry_X1_requireLamp rfl rfl rfl (by decide +kernel) ⟨Nat.le_of_ble_eq_true rfl, Nat.le_of_ble_eq_true rfl⟩) rfl rfl rfl rfl rfl (by decide) rfl rfl rfl rfl (Nat.le_of_ble_eq_true rfl) rfl rfl ⟨Nat.le_of_ble_eq_true rfl, Nat.le_of_ble_eq_true rfl⟩ dX1_carry_2 ?_
  rintro _ rfl
  refine z_ws (ws' := (cw cI h σ LT γ φ)) rfl ?_
  refine z_iload_n C 2 dX1_carry_5 rfl ?_
  refine z_iload_n C 3 dX1_carry_6 rfl ?_
  refine x_callS C hX (As := [vI x, vI y]) (st := []) (y := yX1_requirePlace) (w := wsX1_requirePlace) (rm := rx_X1_requirePlace) (wr := (cw cI h σ LT γ φ)) (k' := 1) (n' := 6) [] [0, 1, 2, 3, 4, 5, 6, 7, 8] (x_X1_requirePlace l D cI cJ  x y (by omega) (by omega)) (va_cwS 2 C.1.2.2.2.2 gX1_carry_X1_requirePlace rfl rfl rfl (by decide +kernel) ⟨Nat.le_of_ble_eq_true rfl, Nat.le_of_ble_eq_true rfl⟩) rfl rfl rfl rfl rfl (by decide) rfl rfl (Nat.le_of_ble_eq_true rfl) rfl rfl ⟨Nat.le_of_ble_eq_true rfl, Nat.le_of_ble_eq_true rfl⟩ dX1_carry_7 (fun u hu => ?_)
  obtain rfl := hu
  exact hZo _ _ _ _ _ rfl (by decide) (by decide)

abbrev rxc_X1_carry : Room := { frames := 7, cells := 1, slots := 6, locals := 121 }
set_option maxHeartbeats 4000000 in
set_option maxRecDepth 100000 in
theorem xc_X1_carry (l : Launch) (D : va_G) (cI cJ : ClassId) (h : Nat → Nat) (σ : YS) (LT : Nat → Int) (γ : YS) (φ : Nat → Int) (k x y : Int) (hr : rng k ∧ rng x ∧ rng y) (hO : Ok σ) (hk : 0 ≤ k ∧ k < σ 4 0) (hp : ((0 ≤ x ∧ x < 12) ∧ 0 ≤ y ∧ y < 12)) (hb : lampB σ (12 * y + x) = true) : Xt l yX1_carry wsX1_carry rxc_X1_carry D [(cI, .int), (cJ, .long)] [.ref (h 0), vI k, vI x, vI y] (cw cI h σ LT γ φ) xIS (fun u : va_W => u = (cw cI h σ LT γ φ)) := by
  refine x_of (cc := cX1_carry) (maxL := 5) (lv := [(0, .ref (h 0)), (1, vI k), (2, vI x), (3, vI y)]) (by decide) rfl rfl (Nat.le_of_ble_eq_true rfl) rfl ?_
  intro p e s m args below meth cd Q A C hX hZo hthr
  have hn := hO.1
  have hm := hO.2.1
  have en := nLa_e hO
  have em := nWa_e hO
  refine z_aload_n C 0 dX1_carry_0 rfl ?_
  refine z_iload_n C 1 dX1_carry_1 rfl ?_
  refine z_callVv C (As := [vI k]) (st := []) (y := yX1_requireLamp) (w := wsX1_requireLamp) (rm := rm_X1_requireLamp) (wr := []) (k' := 0) (n' := 0) [0, 1, 2, 3, 4, 5, 6, 7, 8] [] 0 (c_X1_requireLamp l D cI cJ h σ LT γ φ k (by omega)) (cwV 1 C.1.2.2.2.2 gX1_carry_X1_requireLamp rfl rfl rfl (by decide +kernel) ⟨Nat.le_of_ble_eq_true rfl, Nat.le_of_ble_eq_true rfl⟩) rfl rfl rfl rfl rfl (by decide) rfl rfl rfl rfl (Nat.le_of_ble_eq_true rfl) rfl rfl ⟨Nat.le_of_ble_eq_true rfl, Nat.le_of_ble_eq_true rfl⟩ dX1_carry_2 ?_
  rintro _ rfl
  refine z_ws (ws' := (cw cI h σ LT γ φ)) rfl ?_
  refine z_iload_n C 2 dX1_carry_5 rfl ?_
  refine z_iload_n C 3 dX1_carry_6 rfl ?_
  refine z_callSv C (As := [vI x, vI y]) (st := []) (y := yX1_requirePlace) (w := wsX1_requirePlace) (rm := rm_X1_requirePlace) (wr := (cw cI h σ LT γ φ)) (k' := 0) (n' := 0) [] [0, 1, 2, 3, 4, 5, 6, 7, 8] (c_X1_requirePlace l D cI cJ  x y (by omega)) (va_cwS 2 C.1.2.2.2.2 gX1_carry_X1_requirePlace rfl rfl rfl (by decide +kernel) ⟨Nat.le_of_ble_eq_true rfl, Nat.le_of_ble_eq_true rfl⟩) rfl rfl rfl rfl rfl (by decide) rfl rfl (Nat.le_of_ble_eq_true rfl) rfl rfl ⟨Nat.le_of_ble_eq_true rfl, Nat.le_of_ble_eq_true rfl⟩ dX1_carry_7 ?_
  rintro _ rfl
  refine z_ws (ws' := (cw cI h σ LT γ φ)) rfl ?_
  refine z_iload_n C 2 dX1_carry_10 rfl ?_
  refine z_iload_n C 3 dX1_carry_11 rfl ?_
  refine z_callSi C (As := [vI x, vI y]) (st := []) (y := yX1_cellAt) (w := wsX1_cellAt) (rm := rm_X1_cellAt) (wr := (cw cI h σ LT γ φ)) (k' := 0) (n' := 0) [] [0, 1, 2, 3, 4, 5, 6, 7, 8] (c_X1_cellAt l D cI cJ  x y ) (va_cwS 2 C.1.2.2.2.2 gX1_carry_X1_cellAt rfl rfl rfl (by decide +kernel) ⟨Nat.le_of_ble_eq_true rfl, Nat.le_of_ble_eq_true rfl⟩) rfl rfl rfl rfl rfl (by decide) rfl rfl (Nat.le_of_ble_eq_true rfl) rfl rfl ⟨Nat.le_of_ble_eq_true rfl, Nat.le_of_ble_eq_true rfl⟩ dX1_carry_12 ?_
  rintro z_12 _ ⟨rfl, rfl⟩
  refine z_ws (ws' := (cw cI h σ LT γ φ)) rfl ?_
  refine z_st (v' := (12 * y + x)) rfl ?_
  refine z_istore C [(4, vI (12 * y + x)), (0, .ref (h 0)), (1, vI k), (2, vI x), (3, vI y)] dX1_carry_15 (by decide) rfl ?_
  refine z_aload_n C 1 dX1_carry_17 rfl ?_
  refine z_iload C 0 dX1_carry_18 rfl ?_
  refine z_callVi C (As := [vI (12 * y + x)]) (st := []) (y := yX1_isLampAt) (w := wsX1_isLampAt) (rm := rm_X1_isLampAt) (wr := []) (k' := 0) (n' := 0) [0, 1, 2, 3, 4, 5, 6, 7, 8] [] 0 (c_X1_isLampAt l D cI cJ h σ LT γ φ (12 * y + x) (by omega) hO) (cwV 1 C.1.2.2.2.2 gX1_carry_X1_isLampAt rfl rfl rfl (by decide +kernel) ⟨Nat.le_of_ble_eq_true rfl, Nat.le_of_ble_eq_true rfl⟩) rfl rfl rfl rfl rfl (by decide) rfl rfl rfl rfl (Nat.le_of_ble_eq_true rfl) rfl rfl ⟨Nat.le_of_ble_eq_true rfl, Nat.le_of_ble_eq_true rfl⟩ dX1_carry_20 ?_
  rintro z_20 _ ⟨rfl, hz_20⟩
  refine z_ws (ws' := (cw cI h σ LT γ φ)) rfl ?_
  have r_20 : z_20 = 0 ∨ z_20 = 1 := by rw [hz_20]; exact bI_01 _
  have hz_20 : z_20 = bI (anyB (fun k => decide (σ 1 k = (12 * y + x))) (nLa σ)) := hz_20
  unfold lampB at hb
  rw [hb] at hz_20
  have hz0 : z_20 = 1 := hz_20
  refine z_if_eq C (tgt := 36) dX1_carry_23 (by decide) (by omega) (fun c_23 => ?_) (fun c_23 => ?_)
  ·
    exfalso; omega
  ·
    exact hthr _ _ _ _ _ _ 67 78 71 "a lamp is there" rfl (by decide) (by decide) (by decide +kernel) (by decide +kernel) (by decide +kernel) hb_xIS (by decide +kernel) (by decide +kernel) og_xIS dX1_carry_26 dX1_carry_29 dX1_carry_30 dX1_carry_32 dX1_carry_35 (by decide) (by decide) (by decide) (by decide)

abbrev rx_X1_turn : Room := { frames := 7, cells := 1, slots := 6, locals := 121 }
set_option maxHeartbeats 4000000 in
set_option maxRecDepth 100000 in
theorem x_X1_turn (l : Launch) (D : va_G) (cI cJ : ClassId) (h : Nat → Nat) (σ : YS) (LT : Nat → Int) (γ : YS) (φ : Nat → Int) (k r : Int) (hr : rng k ∧ rng r) (hO : Ok σ) (hb : ¬ (0 ≤ k ∧ k < σ 4 0)) : Xt l yX1_turn wsX1_turn rx_X1_turn D [(cI, .int), (cJ, .long)] [.ref (h 0), vI k, vI r] (cw cI h σ LT γ φ) xIO (fun u : va_W => u = (cw cI h σ LT γ φ)) := by
  refine x_of (cc := cX1_turn) (maxL := 4) (lv := [(0, .ref (h 0)), (1, vI k), (2, vI r)]) (by decide) rfl rfl (Nat.le_of_ble_eq_true rfl) rfl ?_
  intro p e s m args below meth cd Q A C hX hZo hthr
  have hn := hO.1
  have hm := hO.2.1
  have en := nLa_e hO
  have em := nWa_e hO
  refine z_aload_n C 0 dX1_turn_0 rfl ?_
  refine z_iload_n C 1 dX1_turn_1 rfl ?_
  refine x_callV C hX (As := [vI k]) (st := []) (y := yX1_requireLamp) (w := wsX1_requireLamp) (rm := rx_X1_requireLamp) (wr := []) (k' := 1) (n' := 6) [0, 1, 2, 3, 4, 5, 6, 7, 8] [] 0 (x_X1_requireLamp l D cI cJ h σ LT γ φ k (by omega) (by omega)) (cwV 1 C.1.2.2.2.2 gX1_turn_X1_requireLamp rfl rfl rfl (by decide +kernel) ⟨Nat.le_of_ble_eq_true rfl, Nat.le_of_ble_eq_true rfl⟩) rfl rfl rfl rfl rfl (by decide) rfl rfl rfl rfl (Nat.le_of_ble_eq_true rfl) rfl rfl ⟨Nat.le_of_ble_eq_true rfl, Nat.le_of_ble_eq_true rfl⟩ dX1_turn_2 (fun u hu => ?_)
  obtain rfl := hu
  exact hZo _ _ _ _ _ rfl (by decide) (by decide)

abbrev rxb_X1_turn : Room := { frames := 7, cells := 1, slots := 6, locals := 121 }
set_option maxHeartbeats 4000000 in
set_option maxRecDepth 100000 in
theorem xb_X1_turn (l : Launch) (D : va_G) (cI cJ : ClassId) (h : Nat → Nat) (σ : YS) (LT : Nat → Int) (γ : YS) (φ : Nat → Int) (k r : Int) (hr : rng k ∧ rng r) (hO : Ok σ) (hk : 0 ≤ k ∧ k < σ 4 0) (hb : ¬ (1 ≤ r ∧ r < 13)) : Xt l yX1_turn wsX1_turn rxb_X1_turn D [(cI, .int), (cJ, .long)] [.ref (h 0), vI k, vI r] (cw cI h σ LT γ φ) xIA (fun u : va_W => u = (cw cI h σ LT γ φ)) := by
  refine x_of (cc := cX1_turn) (maxL := 4) (lv := [(0, .ref (h 0)), (1, vI k), (2, vI r)]) (by decide) rfl rfl (Nat.le_of_ble_eq_true rfl) rfl ?_
  intro p e s m args below meth cd Q A C hX hZo hthr
  have hn := hO.1
  have hm := hO.2.1
  have en := nLa_e hO
  have em := nWa_e hO
  refine z_aload_n C 0 dX1_turn_0 rfl ?_
  refine z_iload_n C 1 dX1_turn_1 rfl ?_
  refine z_callVv C (As := [vI k]) (st := []) (y := yX1_requireLamp) (w := wsX1_requireLamp) (rm := rm_X1_requireLamp) (wr := []) (k' := 0) (n' := 0) [0, 1, 2, 3, 4, 5, 6, 7, 8] [] 0 (c_X1_requireLamp l D cI cJ h σ LT γ φ k (by omega)) (cwV 1 C.1.2.2.2.2 gX1_turn_X1_requireLamp rfl rfl rfl (by decide +kernel) ⟨Nat.le_of_ble_eq_true rfl, Nat.le_of_ble_eq_true rfl⟩) rfl rfl rfl rfl rfl (by decide) rfl rfl rfl rfl (Nat.le_of_ble_eq_true rfl) rfl rfl ⟨Nat.le_of_ble_eq_true rfl, Nat.le_of_ble_eq_true rfl⟩ dX1_turn_2 ?_
  rintro _ rfl
  refine z_ws (ws' := (cw cI h σ LT γ φ)) rfl ?_
  refine z_iload_n C 2 dX1_turn_5 rfl ?_
  refine x_callS C hX (As := [vI r]) (st := []) (y := yX1_requireReach) (w := wsX1_requireReach) (rm := rx_X1_requireReach) (wr := (cw cI h σ LT γ φ)) (k' := 1) (n' := 6) [] [0, 1, 2, 3, 4, 5, 6, 7, 8] (x_X1_requireReach l D cI cJ  r (by omega) (by omega)) (va_cwS 1 C.1.2.2.2.2 gX1_turn_X1_requireReach rfl rfl rfl (by decide +kernel) ⟨Nat.le_of_ble_eq_true rfl, Nat.le_of_ble_eq_true rfl⟩) rfl rfl rfl rfl rfl (by decide) rfl rfl (Nat.le_of_ble_eq_true rfl) rfl rfl ⟨Nat.le_of_ble_eq_true rfl, Nat.le_of_ble_eq_true rfl⟩ dX1_turn_6 (fun u hu => ?_)
  obtain rfl := hu
  exact hZo _ _ _ _ _ rfl (by decide) (by decide)

abbrev rx_X1_watcher : Room := { frames := 7, cells := 1, slots := 6, locals := 121 }
set_option maxHeartbeats 4000000 in
set_option maxRecDepth 100000 in
theorem x_X1_watcher (l : Launch) (D : va_G) (cI cJ : ClassId) (h : Nat → Nat) (σ : YS) (LT : Nat → Int) (γ : YS) (φ : Nat → Int) (x y : Int) (hr : rng x ∧ rng y) (hb : ¬ ((0 ≤ x ∧ x < 12) ∧ 0 ≤ y ∧ y < 12)) : Xt l yX1_watcher wsX1_watcher rx_X1_watcher D [(cI, .int), (cJ, .long)] [.ref (h 0), vI x, vI y] (cw cI h σ LT γ φ) xIO (fun u : va_W => u = (cw cI h σ LT γ φ)) := by
  refine x_of (cc := cX1_watcher) (maxL := 5) (lv := [(0, .ref (h 0)), (1, vI x), (2, vI y)]) (by decide) rfl rfl (Nat.le_of_ble_eq_true rfl) rfl ?_
  intro p e s m args below meth cd Q A C hX hZo hthr
  refine z_iload_n C 1 dX1_watcher_0 rfl ?_
  refine z_iload_n C 2 dX1_watcher_1 rfl ?_
  refine x_callS C hX (As := [vI x, vI y]) (st := []) (y := yX1_requirePlace) (w := wsX1_requirePlace) (rm := rx_X1_requirePlace) (wr := (cw cI h σ LT γ φ)) (k' := 1) (n' := 6) [] [0, 1, 2, 3, 4, 5, 6, 7, 8] (x_X1_requirePlace l D cI cJ  x y (by omega) (by omega)) (va_cwS 2 C.1.2.2.2.2 gX1_watcher_X1_requirePlace rfl rfl rfl (by decide +kernel) ⟨Nat.le_of_ble_eq_true rfl, Nat.le_of_ble_eq_true rfl⟩) rfl rfl rfl rfl rfl (by decide) rfl rfl (Nat.le_of_ble_eq_true rfl) rfl rfl ⟨Nat.le_of_ble_eq_true rfl, Nat.le_of_ble_eq_true rfl⟩ dX1_watcher_2 (fun u hu => ?_)
  obtain rfl := hu
  exact hZo _ _ _ _ _ rfl (by decide) (by decide)

abbrev rxb_X1_watcher : Room := { frames := 7, cells := 1, slots := 6, locals := 121 }
set_option maxHeartbeats 4000000 in
set_option maxRecDepth 100000 in
theorem xb_X1_watcher (l : Launch) (D : va_G) (cI cJ : ClassId) (h : Nat → Nat) (σ : YS) (LT : Nat → Int) (γ : YS) (φ : Nat → Int) (x y : Int) (hr : rng x ∧ rng y) (hp : ((0 ≤ x ∧ x < 12) ∧ 0 ≤ y ∧ y < 12)) (hO : Ok σ) (hb : σ 4 1 = 6) : Xt l yX1_watcher wsX1_watcher rxb_X1_watcher D [(cI, .int), (cJ, .long)] [.ref (h 0), vI x, vI y] (cw cI h σ LT γ φ) xIS (fun u : va_W => u = (cw cI h σ LT γ φ)) := by
  refine x_of (cc := cX1_watcher) (maxL := 5) (lv := [(0, .ref (h 0)), (1, vI x), (2, vI y)]) (by decide) rfl rfl (Nat.le_of_ble_eq_true rfl) rfl ?_
  intro p e s m args below meth cd Q A C hX hZo hthr
  have hn := hO.1
  have hm := hO.2.1
  have en := nLa_e hO
  have em := nWa_e hO
  refine z_iload_n C 1 dX1_watcher_0 rfl ?_
  refine z_iload_n C 2 dX1_watcher_1 rfl ?_
  refine z_callSv C (As := [vI x, vI y]) (st := []) (y := yX1_requirePlace) (w := wsX1_requirePlace) (rm := rm_X1_requirePlace) (wr := (cw cI h σ LT γ φ)) (k' := 0) (n' := 0) [] [0, 1, 2, 3, 4, 5, 6, 7, 8] (c_X1_requirePlace l D cI cJ  x y (by omega)) (va_cwS 2 C.1.2.2.2.2 gX1_watcher_X1_requirePlace rfl rfl rfl (by decide +kernel) ⟨Nat.le_of_ble_eq_true rfl, Nat.le_of_ble_eq_true rfl⟩) rfl rfl rfl rfl rfl (by decide) rfl rfl (Nat.le_of_ble_eq_true rfl) rfl rfl ⟨Nat.le_of_ble_eq_true rfl, Nat.le_of_ble_eq_true rfl⟩ dX1_watcher_2 ?_
  rintro _ rfl
  refine z_ws (ws' := (cw cI h σ LT γ φ)) rfl ?_
  refine z_iload_n C 1 dX1_watcher_5 rfl ?_
  refine z_iload_n C 2 dX1_watcher_6 rfl ?_
  refine z_callSi C (As := [vI x, vI y]) (st := []) (y := yX1_cellAt) (w := wsX1_cellAt) (rm := rm_X1_cellAt) (wr := (cw cI h σ LT γ φ)) (k' := 0) (n' := 0) [] [0, 1, 2, 3, 4, 5, 6, 7, 8] (c_X1_cellAt l D cI cJ  x y ) (va_cwS 2 C.1.2.2.2.2 gX1_watcher_X1_cellAt rfl rfl rfl (by decide +kernel) ⟨Nat.le_of_ble_eq_true rfl, Nat.le_of_ble_eq_true rfl⟩) rfl rfl rfl rfl rfl (by decide) rfl rfl (Nat.le_of_ble_eq_true rfl) rfl rfl ⟨Nat.le_of_ble_eq_true rfl, Nat.le_of_ble_eq_true rfl⟩ dX1_watcher_7 ?_
  rintro z_7 _ ⟨rfl, rfl⟩
  refine z_ws (ws' := (cw cI h σ LT γ φ)) rfl ?_
  refine z_st (v' := (12 * y + x)) rfl ?_
  refine z_istore_n C [(3, vI (12 * y + x)), (0, .ref (h 0)), (1, vI x), (2, vI y)] dX1_watcher_10 (by decide) rfl ?_
  refine z_aload_n C 1 dX1_watcher_11 rfl ?_
  refine z_get C (v := vI (σ 4 1)) (ref := "ShadowWalls") (T := TX1) (N := 11) (ci := 1) 0 9 inU_X1_X1_watcher rfl rfl (by decide) (by decide +kernel) (fun _ h9 => h9) rfl dX1_watcher_12 ?_
  refine z_istore C [(4, vI (σ 4 1)), (3, vI (12 * y + x)), (0, .ref (h 0)), (1, vI x), (2, vI y)] dX1_watcher_15 (by decide) rfl ?_
  refine z_iload C 0 dX1_watcher_17 rfl ?_
  refine z_if_lt C (tgt := 32) dX1_watcher_19 (by decide) (by omega) (fun c_19 => ?_) (fun c_19 => ?_)
  ·
    exact hthr _ _ _ _ _ _ 67 102 71 "there are 6 watchers" rfl (by decide) (by decide) (by decide +kernel) (by decide +kernel) (by decide +kernel) hb_xIS (by decide +kernel) (by decide +kernel) og_xIS dX1_watcher_32 dX1_watcher_35 dX1_watcher_36 dX1_watcher_38 dX1_watcher_41 (by decide) (by decide) (by decide) (by decide)
  ·
    refine z_iload C 0 dX1_watcher_22 rfl ?_
    refine z_aload_n C 2 dX1_watcher_24 rfl ?_
    refine z_get C (v := .ref (h 4)) (ref := "ShadowWalls") (T := TX1) (N := 11) (ci := 1) 0 3 inU_X1_X1_watcher rfl rfl (by decide) (by decide +kernel) (fun _ h9 => h9) rfl dX1_watcher_25 ?_
    refine z_alen C (v := 6) (cA := cI) (ty := .int) 4 0 rfl rfl rfl dX1_watcher_28 ?_
    refine z_icmp_lt C (tgt := 42) dX1_watcher_29 (by decide) (by omega) (by omega) (fun c_29 => ?_) (fun c_29 => ?_)
    ·
      exfalso; omega
    ·
      exact hthr _ _ _ _ _ _ 67 102 71 "there are 6 watchers" rfl (by decide) (by decide) (by decide +kernel) (by decide +kernel) (by decide +kernel) hb_xIS (by decide +kernel) (by decide +kernel) og_xIS dX1_watcher_32 dX1_watcher_35 dX1_watcher_36 dX1_watcher_38 dX1_watcher_41 (by decide) (by decide) (by decide) (by decide)

abbrev rxc_X1_watcher : Room := { frames := 7, cells := 1, slots := 6, locals := 121 }
set_option maxHeartbeats 4000000 in
set_option maxRecDepth 100000 in
theorem xc_X1_watcher (l : Launch) (D : va_G) (cI cJ : ClassId) (h : Nat → Nat) (σ : YS) (LT : Nat → Int) (γ : YS) (φ : Nat → Int) (x y : Int) (hr : rng x ∧ rng y) (hp : ((0 ≤ x ∧ x < 12) ∧ 0 ≤ y ∧ y < 12)) (hO : Ok σ) (h6 : σ 4 1 < 6) (hb : σ 0 (12 * y + x).toNat ≠ 0) : Xt l yX1_watcher wsX1_watcher rxc_X1_watcher D [(cI, .int), (cJ, .long)] [.ref (h 0), vI x, vI y] (cw cI h σ LT γ φ) xIS (fun u : va_W => u = (cw cI h σ LT γ φ)) := by
  refine x_of (cc := cX1_watcher) (maxL := 5) (lv := [(0, .ref (h 0)), (1, vI x), (2, vI y)]) (by decide) rfl rfl (Nat.le_of_ble_eq_true rfl) rfl ?_
  intro p e s m args below meth cd Q A C hX hZo hthr
  have hn := hO.1
  have hm := hO.2.1
  have en := nLa_e hO
  have em := nWa_e hO
  have rk := hO.2.2.2.2 (12 * y + x).toNat
  refine z_iload_n C 1 dX1_watcher_0 rfl ?_
  refine z_iload_n C 2 dX1_watcher_1 rfl ?_
  refine z_callSv C (As := [vI x, vI y]) (st := []) (y := yX1_requirePlace) (w := wsX1_requirePlace) (rm := rm_X1_requirePlace) (wr := (cw cI h σ LT γ φ)) (k' := 0) (n' := 0) [] [0, 1, 2, 3, 4, 5, 6, 7, 8] (c_X1_requirePlace l D cI cJ  x y (by omega)) (va_cwS 2 C.1.2.2.2.2 gX1_watcher_X1_requirePlace rfl rfl rfl (by decide +kernel) ⟨Nat.le_of_ble_eq_true rfl, Nat.le_of_ble_eq_true rfl⟩) rfl rfl rfl rfl rfl (by decide) rfl rfl (Nat.le_of_ble_eq_true rfl) rfl rfl ⟨Nat.le_of_ble_eq_true rfl, Nat.le_of_ble_eq_true rfl⟩ dX1_watcher_2 ?_
  rintro _ rfl
  refine z_ws (ws' := (cw cI h σ LT γ φ)) rfl ?_
  refine z_iload_n C 1 dX1_watcher_5 rfl ?_
  refine z_iload_n C 2 dX1_watcher_6 rfl ?_
  refine z_callSi C (As := [vI x, vI y]) (st := []) (y := yX1_cellAt) (w := wsX1_cellAt) (rm := rm_X1_cellAt) (wr := (cw cI h σ LT γ φ)) (k' := 0) (n' := 0) [] [0, 1, 2, 3, 4, 5, 6, 7, 8] (c_X1_cellAt l D cI cJ  x y ) (va_cwS 2 C.1.2.2.2.2 gX1_watcher_X1_cellAt rfl rfl rfl (by decide +kernel) ⟨Nat.le_of_ble_eq_true rfl, Nat.le_of_ble_eq_true rfl⟩) rfl rfl rfl rfl rfl (by decide) rfl rfl (Nat.le_of_ble_eq_true rfl) rfl rfl ⟨Nat.le_of_ble_eq_true rfl, Nat.le_of_ble_eq_true rfl⟩ dX1_watcher_7 ?_
  rintro z_7 _ ⟨rfl, rfl⟩
  refine z_ws (ws' := (cw cI h σ LT γ φ)) rfl ?_
  refine z_st (v' := (12 * y + x)) rfl ?_
  refine z_istore_n C [(3, vI (12 * y + x)), (0, .ref (h 0)), (1, vI x), (2, vI y)] dX1_watcher_10 (by decide) rfl ?_
  refine z_aload_n C 1 dX1_watcher_11 rfl ?_
  refine z_get C (v := vI (σ 4 1)) (ref := "ShadowWalls") (T := TX1) (N := 11) (ci := 1) 0 9 inU_X1_X1_watcher rfl rfl (by decide) (by decide +kernel) (fun _ h9 => h9) rfl dX1_watcher_12 ?_
  refine z_istore C [(4, vI (σ 4 1)), (3, vI (12 * y + x)), (0, .ref (h 0)), (1, vI x), (2, vI y)] dX1_watcher_15 (by decide) rfl ?_
  refine z_iload C 0 dX1_watcher_17 rfl ?_
  refine z_if_lt C (tgt := 32) dX1_watcher_19 (by decide) (by omega) (fun c_19 => ?_) (fun c_19 => ?_)
  ·
    exact hthr _ _ _ _ _ _ 67 102 71 "there are 6 watchers" rfl (by decide) (by decide) (by decide +kernel) (by decide +kernel) (by decide +kernel) hb_xIS (by decide +kernel) (by decide +kernel) og_xIS dX1_watcher_32 dX1_watcher_35 dX1_watcher_36 dX1_watcher_38 dX1_watcher_41 (by decide) (by decide) (by decide) (by decide)
  ·
    refine z_iload C 0 dX1_watcher_22 rfl ?_
    refine z_aload_n C 2 dX1_watcher_24 rfl ?_
    refine z_get C (v := .ref (h 4)) (ref := "ShadowWalls") (T := TX1) (N := 11) (ci := 1) 0 3 inU_X1_X1_watcher rfl rfl (by decide) (by decide +kernel) (fun _ h9 => h9) rfl dX1_watcher_25 ?_
    refine z_alen C (v := 6) (cA := cI) (ty := .int) 4 0 rfl rfl rfl dX1_watcher_28 ?_
    refine z_icmp_lt C (tgt := 42) dX1_watcher_29 (by decide) (by omega) (by omega) (fun c_29 => ?_) (fun c_29 => ?_)
    ·
      refine z_aload_n C 2 dX1_watcher_42 rfl ?_
      refine z_iload_n C 1 dX1_watcher_43 rfl ?_
      refine z_callVi C (As := [vI (12 * y + x)]) (st := []) (y := yX1_kindOf) (w := wsX1_kindOf) (rm := rm_X1_kindOf) (wr := []) (k' := 0) (n' := 0) [0, 1, 2, 3, 4, 5, 6, 7, 8] [] 0 (c_X1_kindOf l D cI cJ h σ LT γ φ (12 * y + x) (by omega)) (cwV 1 C.1.2.2.2.2 gX1_watcher_X1_kindOf rfl rfl rfl (by decide +kernel) ⟨Nat.le_of_ble_eq_true rfl, Nat.le_of_ble_eq_true rfl⟩) rfl rfl rfl rfl rfl (by decide) rfl rfl rfl rfl (Nat.le_of_ble_eq_true rfl) rfl rfl ⟨Nat.le_of_ble_eq_true rfl, Nat.le_of_ble_eq_true rfl⟩ dX1_watcher_44 ?_
      rintro z_44 _ ⟨rfl, rfl⟩
      refine z_ws (ws' := (cw cI h σ LT γ φ)) rfl ?_
      refine z_st (v' := (σ 0 (12 * y + x).toNat)) rfl ?_
      refine z_if_eq C (tgt := 60) dX1_watcher_47 (by decide) (by omega) (fun c_47 => ?_) (fun c_47 => ?_)
      ·
        exfalso; omega
      ·
        exact hthr _ _ _ _ _ _ 67 104 71 "the cell is not open" rfl (by decide) (by decide) (by decide +kernel) (by decide +kernel) (by decide +kernel) hb_xIS (by decide +kernel) (by decide +kernel) og_xIS dX1_watcher_50 dX1_watcher_53 dX1_watcher_54 dX1_watcher_56 dX1_watcher_59 (by decide) (by decide) (by decide) (by decide)
    ·
      exact hthr _ _ _ _ _ _ 67 102 71 "there are 6 watchers" rfl (by decide) (by decide) (by decide +kernel) (by decide +kernel) (by decide +kernel) hb_xIS (by decide +kernel) (by decide +kernel) og_xIS dX1_watcher_32 dX1_watcher_35 dX1_watcher_36 dX1_watcher_38 dX1_watcher_41 (by decide) (by decide) (by decide) (by decide)

abbrev rx_X1_creep : Room := { frames := 7, cells := 1, slots := 6, locals := 121 }
set_option maxRecDepth 100000 in
theorem inU_X1_X1_creep : ∀ w ∈ u_ws RX1 TX1 11, w ∈ wsX1_creep := by decide +kernel
set_option maxHeartbeats 4000000 in
set_option maxRecDepth 100000 in
theorem x_X1_creep (l : Launch) (D : va_G) (cI cJ : ClassId) (h : Nat → Nat) (σ : YS) (LT : Nat → Int) (γ : YS) (φ : Nat → Int) (w x y : Int) (hr : rng w ∧ rng x ∧ rng y) (hO : Ok σ) (hb : ¬ (0 ≤ w ∧ w < σ 4 1)) : Xt l yX1_creep wsX1_creep rx_X1_creep D [(cI, .int), (cJ, .long)] [.ref (h 0), vI w, vI x, vI y] (cw cI h σ LT γ φ) xIO (fun u : va_W => u = (cw cI h σ LT γ φ)) := by
  refine x_of (cc := cX1_creep) (maxL := 6) (lv := [(0, .ref (h 0)), (1, vI w), (2, vI x), (3, vI y)]) (by decide) rfl rfl (Nat.le_of_ble_eq_true rfl) rfl ?_
  intro p e s m args below meth cd Q A C hX hZo hthr
  have hn := hO.1
  have hm := hO.2.1
  have en := nLa_e hO
  have em := nWa_e hO
  refine z_aload_n C 0 dX1_creep_0 rfl ?_
  refine z_iload_n C 1 dX1_creep_1 rfl ?_
  refine x_callV C hX (As := [vI w]) (st := []) (y := yX1_requireWatcher) (w := wsX1_requireWatcher) (rm := rx_X1_requireWatcher) (wr := []) (k' := 1) (n' := 6) [0, 1, 2, 3, 4, 5, 6, 7, 8] [] 0 (x_X1_requireWatcher l D cI cJ h σ LT γ φ w (by omega) (by omega)) (cwV 1 C.1.2.2.2.2 gX1_creep_X1_requireWatcher rfl rfl rfl (by decide +kernel) ⟨Nat.le_of_ble_eq_true rfl, Nat.le_of_ble_eq_true rfl⟩) rfl rfl rfl rfl rfl (by decide) rfl rfl rfl rfl (Nat.le_of_ble_eq_true rfl) rfl rfl ⟨Nat.le_of_ble_eq_true rfl, Nat.le_of_ble_eq_true rfl⟩ dX1_creep_2 (fun u hu => ?_)
  obtain rfl := hu
  exact hZo _ _ _ _ _ rfl (by decide) (by decide)

abbrev rxb_X1_creep : Room := { frames := 7, cells := 1, slots := 6, locals := 121 }
set_option maxHeartbeats 4000000 in
set_option maxRecDepth 100000 in
theorem xb_X1_creep (l : Launch) (D : va_G) (cI cJ : ClassId) (h : Nat → Nat) (σ : YS) (LT : Nat → Int) (γ : YS) (φ : Nat → Int) (w x y : Int) (hr : rng w ∧ rng x ∧ rng y) (hO : Ok σ) (hw : 0 ≤ w ∧ w < σ 4 1) (hb : ¬ ((0 ≤ x ∧ x < 12) ∧ 0 ≤ y ∧ y < 12)) : Xt l yX1_creep wsX1_creep rxb_X1_creep D [(cI, .int), (cJ, .long)] [.ref (h 0), vI w, vI x, vI y] (cw cI h σ LT γ φ) xIO (fun u : va_W => u = (cw cI h σ LT γ φ)) := by
  refine x_of (cc := cX1_creep) (maxL := 6) (lv := [(0, .ref (h 0)), (1, vI w), (2, vI x), (3, vI y)]) (by decide) rfl rfl (Nat.le_of_ble_eq_true rfl) rfl ?_
  intro p e s m args below meth cd Q A C hX hZo hthr
  have hn := hO.1
  have hm := hO.2.1
  have en := nLa_e hO
  have em := nWa_e hO
  refine z_aload_n C 0 dX1_creep_0 rfl ?_
  refine z_iload_n C 1 dX1_creep_1 rfl ?_
  refine z_callVv C (As := [vI w]) (st := []) (y := yX1_requireWatcher) (w := wsX1_requireWatcher) (rm := rm_X1_requireWatcher) (wr := []) (k' := 0) (n' := 0) [0, 1, 2, 3, 4, 5, 6, 7, 8] [] 0 (c_X1_requireWatcher l D cI cJ h σ LT γ φ w (by omega)) (cwV 1 C.1.2.2.2.2 gX1_creep_X1_requireWatcher rfl rfl rfl (by decide +kernel) ⟨Nat.le_of_ble_eq_true rfl, Nat.le_of_ble_eq_true rfl⟩) rfl rfl rfl rfl rfl (by decide) rfl rfl rfl rfl (Nat.le_of_ble_eq_true rfl) rfl rfl ⟨Nat.le_of_ble_eq_true rfl, Nat.le_of_ble_eq_true rfl⟩ dX1_creep_2 ?_
  rintro _ rfl
  refine z_ws (ws' := (cw cI h σ LT γ φ)) rfl ?_
  refine z_iload_n C 2 dX1_creep_5 rfl ?_
  refine z_iload_n C 3 dX1_creep_6 rfl ?_
  refine x_callS C hX (As := [vI x, vI y]) (st := []) (y := yX1_requirePlace) (w := wsX1_requirePlace) (rm := rx_X1_requirePlace) (wr := (cw cI h σ LT γ φ)) (k' := 1) (n' := 6) [] [0, 1, 2, 3, 4, 5, 6, 7, 8] (x_X1_requirePlace l D cI cJ  x y (by omega) (by omega)) (va_cwS 2 C.1.2.2.2.2 gX1_creep_X1_requirePlace rfl rfl rfl (by decide +kernel) ⟨Nat.le_of_ble_eq_true rfl, Nat.le_of_ble_eq_true rfl⟩) rfl rfl rfl rfl rfl (by decide) rfl rfl (Nat.le_of_ble_eq_true rfl) rfl rfl ⟨Nat.le_of_ble_eq_true rfl, Nat.le_of_ble_eq_true rfl⟩ dX1_creep_7 (fun u hu => ?_)
  obtain rfl := hu
  exact hZo _ _ _ _ _ rfl (by decide) (by decide)

abbrev rxc_X1_creep : Room := { frames := 7, cells := 1, slots := 6, locals := 121 }
set_option maxHeartbeats 4000000 in
set_option maxRecDepth 100000 in
theorem xc_X1_creep (l : Launch) (D : va_G) (cI cJ : ClassId) (h : Nat → Nat) (σ : YS) (LT : Nat → Int) (γ : YS) (φ : Nat → Int) (w x y : Int) (hr : rng w ∧ rng x ∧ rng y) (hO : Ok σ) (hw : 0 ≤ w ∧ w < σ 4 1) (hp9 : ((0 ≤ x ∧ x < 12) ∧ 0 ≤ y ∧ y < 12)) (hL : LR LT) (hb : dS nbN (frB σ LT) (σ 3 w.toNat).toNat (12 * y + x).toNat = -1) : Xt l yX1_creep wsX1_creep rxc_X1_creep D [(cI, .int), (cJ, .long)] [.ref (h 0), vI w, vI x, vI y] (cw cI h σ LT γ φ) xIS (fun u : va_W => ∃ γ' : YS, u = (cw cI h σ LT γ' φ)) := by
  refine x_of (cc := cX1_creep) (maxL := 6) (lv := [(0, .ref (h 0)), (1, vI w), (2, vI x), (3, vI y)]) (by decide) rfl rfl (Nat.le_of_ble_eq_true rfl) rfl ?_
  intro p e s m args below meth cd Q A C hX hZo hthr
  have hn := hO.1
  have hm := hO.2.1
  have en := nLa_e hO
  have em := nWa_e hO
  have h1 := hO.2.2.2.1 w.toNat (by omega)
  have hp := dS_p nbN (frB σ LT) (st := (σ 3 w.toNat).toNat) (by omega)
  refine z_aload_n C 0 dX1_creep_0 rfl ?_
  refine z_iload_n C 1 dX1_creep_1 rfl ?_
  refine z_callVv C (As := [vI w]) (st := []) (y := yX1_requireWatcher) (w := wsX1_requireWatcher) (rm := rm_X1_requireWatcher) (wr := []) (k' := 0) (n' := 0) [0, 1, 2, 3, 4, 5, 6, 7, 8] [] 0 (c_X1_requireWatcher l D cI cJ h σ LT γ φ w (by omega)) (cwV 1 C.1.2.2.2.2 gX1_creep_X1_requireWatcher rfl rfl rfl (by decide +kernel) ⟨Nat.le_of_ble_eq_true rfl, Nat.le_of_ble_eq_true rfl⟩) rfl rfl rfl rfl rfl (by decide) rfl rfl rfl rfl (Nat.le_of_ble_eq_true rfl) rfl rfl ⟨Nat.le_of_ble_eq_true rfl, Nat.le_of_ble_eq_true rfl⟩ dX1_creep_2 ?_
  rintro _ rfl
  refine z_ws (ws' := (cw cI h σ LT γ φ)) rfl ?_
  refine z_iload_n C 2 dX1_creep_5 rfl ?_
  refine z_iload_n C 3 dX1_creep_6 rfl ?_
  refine z_callSv C (As := [vI x, vI y]) (st := []) (y := yX1_requirePlace) (w := wsX1_requirePlace) (rm := rm_X1_requirePlace) (wr := (cw cI h σ LT γ φ)) (k' := 0) (n' := 0) [] [0, 1, 2, 3, 4, 5, 6, 7, 8] (c_X1_requirePlace l D cI cJ  x y (by omega)) (va_cwS 2 C.1.2.2.2.2 gX1_creep_X1_requirePlace rfl rfl rfl (by decide +kernel) ⟨Nat.le_of_ble_eq_true rfl, Nat.le_of_ble_eq_true rfl⟩) rfl rfl rfl rfl rfl (by decide) rfl rfl (Nat.le_of_ble_eq_true rfl) rfl rfl ⟨Nat.le_of_ble_eq_true rfl, Nat.le_of_ble_eq_true rfl⟩ dX1_creep_7 ?_
  rintro _ rfl
  refine z_ws (ws' := (cw cI h σ LT γ φ)) rfl ?_
  refine z_iload_n C 2 dX1_creep_10 rfl ?_
  refine z_iload_n C 3 dX1_creep_11 rfl ?_
  refine z_callSi C (As := [vI x, vI y]) (st := []) (y := yX1_cellAt) (w := wsX1_cellAt) (rm := rm_X1_cellAt) (wr := (cw cI h σ LT γ φ)) (k' := 0) (n' := 0) [] [0, 1, 2, 3, 4, 5, 6, 7, 8] (c_X1_cellAt l D cI cJ  x y ) (va_cwS 2 C.1.2.2.2.2 gX1_creep_X1_cellAt rfl rfl rfl (by decide +kernel) ⟨Nat.le_of_ble_eq_true rfl, Nat.le_of_ble_eq_true rfl⟩) rfl rfl rfl rfl rfl (by decide) rfl rfl (Nat.le_of_ble_eq_true rfl) rfl rfl ⟨Nat.le_of_ble_eq_true rfl, Nat.le_of_ble_eq_true rfl⟩ dX1_creep_12 ?_
  rintro z_12 _ ⟨rfl, rfl⟩
  refine z_ws (ws' := (cw cI h σ LT γ φ)) rfl ?_
  refine z_st (v' := (12 * y + x)) rfl ?_
  refine z_istore C [(4, vI (12 * y + x)), (0, .ref (h 0)), (1, vI w), (2, vI x), (3, vI y)] dX1_creep_15 (by decide) rfl ?_
  refine z_aload_n C 1 dX1_creep_17 rfl ?_
  refine z_iload_n C 2 dX1_creep_18 rfl ?_
  refine z_iload C 0 dX1_creep_19 rfl ?_
  refine z_callVi C (As := [vI w, vI (12 * y + x)]) (st := []) (y := yX1_stepsTo) (w := wsX1_stepsTo) (rm := rm_X1_stepsTo) (wr := []) (k' := 0) (n' := 0) [0, 1, 2, 3, 4, 5, 6, 7, 8] [] 0 (c_X1_stepsTo l D cI cJ h σ LT γ φ w (12 * y + x) (by omega) (by omega) hO hL) (cwV 2 C.1.2.2.2.2 gX1_creep_X1_stepsTo rfl rfl rfl (by decide +kernel) ⟨Nat.le_of_ble_eq_true rfl, Nat.le_of_ble_eq_true rfl⟩) rfl rfl rfl rfl rfl (by decide) rfl rfl rfl rfl (Nat.le_of_ble_eq_true rfl) rfl rfl ⟨Nat.le_of_ble_eq_true rfl, Nat.le_of_ble_eq_true rfl⟩ dX1_creep_21 ?_
  rintro z_21 _ ⟨γ'_21, rfl, f0_21, f1_21⟩
  refine z_ws (ws' := (cw cI h σ LT γ'_21 φ)) rfl ?_
  have hz_21 := f0_21 _ hp
  rw [hb] at hz_21
  refine z_istore C [(5, vI z_21), (4, vI (12 * y + x)), (0, .ref (h 0)), (1, vI w), (2, vI x), (3, vI y)] dX1_creep_24 (by decide) rfl ?_
  refine z_iload C 0 dX1_creep_26 rfl ?_
  refine z_iconst C dX1_creep_28 ?_
  refine z_icmp_ne C (tgt := 42) dX1_creep_29 (by decide) (by omega) (by omega) (fun c_29 => ?_) (fun c_29 => ?_)
  ·
    exfalso; omega
  ·
    exact hthr _ _ _ _ _ _ 67 112 71 "it cannot creep there" ⟨_, rfl⟩ (by decide) (by decide) (by decide +kernel) (by decide +kernel) (by decide +kernel) hb_xIS (by decide +kernel) (by decide +kernel) og_xIS dX1_creep_32 dX1_creep_35 dX1_creep_36 dX1_creep_38 dX1_creep_41 (by decide) (by decide) (by decide) (by decide)

abbrev rx_X1_told : Room := { frames := 7, cells := 1, slots := 6, locals := 121 }
set_option maxHeartbeats 4000000 in
set_option maxRecDepth 100000 in
theorem x_X1_told (l : Launch) (D : va_G) (cI cJ : ClassId) (h : Nat → Nat) (σ : YS) (LT : Nat → Int) (γ : YS) (φ : Nat → Int) (x y wh : Int) (hr : rng x ∧ rng y ∧ rng wh) (hb : ¬ ((0 ≤ x ∧ x < 12) ∧ 0 ≤ y ∧ y < 12)) : Xt l yX1_told wsX1_told rx_X1_told D [(cI, .int), (cJ, .long)] [.ref (h 0), vI x, vI y, vI wh] (cw cI h σ LT γ φ) xIO (fun u : va_W => u = (cw cI h σ LT γ φ)) := by
  refine x_of (cc := cX1_told) (maxL := 5) (lv := [(0, .ref (h 0)), (1, vI x), (2, vI y), (3, vI wh)]) (by decide) rfl rfl (Nat.le_of_ble_eq_true rfl) rfl ?_
  intro p e s m args below meth cd Q A C hX hZo hthr
  refine z_iload_n C 1 dX1_told_0 rfl ?_
  refine z_iload_n C 2 dX1_told_1 rfl ?_
  refine x_callS C hX (As := [vI x, vI y]) (st := []) (y := yX1_requirePlace) (w := wsX1_requirePlace) (rm := rx_X1_requirePlace) (wr := (cw cI h σ LT γ φ)) (k' := 1) (n' := 6) [] [0, 1, 2, 3, 4, 5, 6, 7, 8] (x_X1_requirePlace l D cI cJ  x y (by omega) (by omega)) (va_cwS 2 C.1.2.2.2.2 gX1_told_X1_requirePlace rfl rfl rfl (by decide +kernel) ⟨Nat.le_of_ble_eq_true rfl, Nat.le_of_ble_eq_true rfl⟩) rfl rfl rfl rfl rfl (by decide) rfl rfl (Nat.le_of_ble_eq_true rfl) rfl rfl ⟨Nat.le_of_ble_eq_true rfl, Nat.le_of_ble_eq_true rfl⟩ dX1_told_2 (fun u hu => ?_)
  obtain rfl := hu
  exact hZo _ _ _ _ _ rfl (by decide) (by decide)

abbrev rxb_X1_told : Room := { frames := 7, cells := 1, slots := 6, locals := 121 }
set_option maxHeartbeats 4000000 in
set_option maxRecDepth 100000 in
theorem xb_X1_told (l : Launch) (D : va_G) (cI cJ : ClassId) (h : Nat → Nat) (σ : YS) (LT : Nat → Int) (γ : YS) (φ : Nat → Int) (x y wh : Int) (hr : rng x ∧ rng y ∧ rng wh) (hp : ((0 ≤ x ∧ x < 12) ∧ 0 ≤ y ∧ y < 12)) (hb : ¬ (0 ≤ wh ∧ wh < 5)) : Xt l yX1_told wsX1_told rxb_X1_told D [(cI, .int), (cJ, .long)] [.ref (h 0), vI x, vI y, vI wh] (cw cI h σ LT γ φ) xIO (fun u : va_W => u = (cw cI h σ LT γ φ)) := by
  refine x_of (cc := cX1_told) (maxL := 5) (lv := [(0, .ref (h 0)), (1, vI x), (2, vI y), (3, vI wh)]) (by decide) rfl rfl (Nat.le_of_ble_eq_true rfl) rfl ?_
  intro p e s m args below meth cd Q A C hX hZo hthr
  refine z_iload_n C 1 dX1_told_0 rfl ?_
  refine z_iload_n C 2 dX1_told_1 rfl ?_
  refine z_callSv C (As := [vI x, vI y]) (st := []) (y := yX1_requirePlace) (w := wsX1_requirePlace) (rm := rm_X1_requirePlace) (wr := (cw cI h σ LT γ φ)) (k' := 0) (n' := 0) [] [0, 1, 2, 3, 4, 5, 6, 7, 8] (c_X1_requirePlace l D cI cJ  x y (by omega)) (va_cwS 2 C.1.2.2.2.2 gX1_told_X1_requirePlace rfl rfl rfl (by decide +kernel) ⟨Nat.le_of_ble_eq_true rfl, Nat.le_of_ble_eq_true rfl⟩) rfl rfl rfl rfl rfl (by decide) rfl rfl (Nat.le_of_ble_eq_true rfl) rfl rfl ⟨Nat.le_of_ble_eq_true rfl, Nat.le_of_ble_eq_true rfl⟩ dX1_told_2 ?_
  rintro _ rfl
  refine z_ws (ws' := (cw cI h σ LT γ φ)) rfl ?_
  refine z_iload_n C 3 dX1_told_5 rfl ?_
  refine z_iconst C dX1_told_6 ?_
  refine x_callS C hX (As := [vI wh, vI 4]) (st := []) (y := yX1_requireWhat) (w := wsX1_requireWhat) (rm := rx_X1_requireWhat) (wr := (cw cI h σ LT γ φ)) (k' := 1) (n' := 6) [] [0, 1, 2, 3, 4, 5, 6, 7, 8] (x_X1_requireWhat l D cI cJ  wh 4 (by omega) (by omega)) (va_cwS 2 C.1.2.2.2.2 gX1_told_X1_requireWhat rfl rfl rfl (by decide +kernel) ⟨Nat.le_of_ble_eq_true rfl, Nat.le_of_ble_eq_true rfl⟩) rfl rfl rfl rfl rfl (by decide) rfl rfl (Nat.le_of_ble_eq_true rfl) rfl rfl ⟨Nat.le_of_ble_eq_true rfl, Nat.le_of_ble_eq_true rfl⟩ dX1_told_7 (fun u hu => ?_)
  obtain rfl := hu
  exact hZo _ _ _ _ _ rfl (by decide) (by decide)

abbrev rx_X1_about : Room := { frames := 7, cells := 1, slots := 6, locals := 121 }
set_option maxHeartbeats 4000000 in
set_option maxRecDepth 100000 in
theorem x_X1_about (l : Launch) (D : va_G) (cI cJ : ClassId) (h : Nat → Nat) (σ : YS) (LT : Nat → Int) (γ : YS) (φ : Nat → Int) (k wh : Int) (hr : rng k ∧ rng wh) (hO : Ok σ) (hb : ¬ (0 ≤ k ∧ k < σ 4 0)) : Xt l yX1_about wsX1_about rx_X1_about D [(cI, .int), (cJ, .long)] [.ref (h 0), vI k, vI wh] (cw cI h σ LT γ φ) xIO (fun u : va_W => u = (cw cI h σ LT γ φ)) := by
  refine x_of (cc := cX1_about) (maxL := 3) (lv := [(0, .ref (h 0)), (1, vI k), (2, vI wh)]) (by decide) rfl rfl (Nat.le_of_ble_eq_true rfl) rfl ?_
  intro p e s m args below meth cd Q A C hX hZo hthr
  have hn := hO.1
  have hm := hO.2.1
  have en := nLa_e hO
  have em := nWa_e hO
  refine z_aload_n C 0 dX1_about_0 rfl ?_
  refine z_iload_n C 1 dX1_about_1 rfl ?_
  refine x_callV C hX (As := [vI k]) (st := []) (y := yX1_requireLamp) (w := wsX1_requireLamp) (rm := rx_X1_requireLamp) (wr := []) (k' := 1) (n' := 6) [0, 1, 2, 3, 4, 5, 6, 7, 8] [] 0 (x_X1_requireLamp l D cI cJ h σ LT γ φ k (by omega) (by omega)) (cwV 1 C.1.2.2.2.2 gX1_about_X1_requireLamp rfl rfl rfl (by decide +kernel) ⟨Nat.le_of_ble_eq_true rfl, Nat.le_of_ble_eq_true rfl⟩) rfl rfl rfl rfl rfl (by decide) rfl rfl rfl rfl (Nat.le_of_ble_eq_true rfl) rfl rfl ⟨Nat.le_of_ble_eq_true rfl, Nat.le_of_ble_eq_true rfl⟩ dX1_about_2 (fun u hu => ?_)
  obtain rfl := hu
  exact hZo _ _ _ _ _ rfl (by decide) (by decide)

abbrev rxb_X1_about : Room := { frames := 7, cells := 1, slots := 6, locals := 121 }
set_option maxHeartbeats 4000000 in
set_option maxRecDepth 100000 in
theorem xb_X1_about (l : Launch) (D : va_G) (cI cJ : ClassId) (h : Nat → Nat) (σ : YS) (LT : Nat → Int) (γ : YS) (φ : Nat → Int) (k wh : Int) (hr : rng k ∧ rng wh) (hO : Ok σ) (hk : 0 ≤ k ∧ k < σ 4 0) (hb : ¬ (0 ≤ wh ∧ wh < 4)) : Xt l yX1_about wsX1_about rxb_X1_about D [(cI, .int), (cJ, .long)] [.ref (h 0), vI k, vI wh] (cw cI h σ LT γ φ) xIO (fun u : va_W => u = (cw cI h σ LT γ φ)) := by
  refine x_of (cc := cX1_about) (maxL := 3) (lv := [(0, .ref (h 0)), (1, vI k), (2, vI wh)]) (by decide) rfl rfl (Nat.le_of_ble_eq_true rfl) rfl ?_
  intro p e s m args below meth cd Q A C hX hZo hthr
  have hn := hO.1
  have hm := hO.2.1
  have en := nLa_e hO
  have em := nWa_e hO
  refine z_aload_n C 0 dX1_about_0 rfl ?_
  refine z_iload_n C 1 dX1_about_1 rfl ?_
  refine z_callVv C (As := [vI k]) (st := []) (y := yX1_requireLamp) (w := wsX1_requireLamp) (rm := rm_X1_requireLamp) (wr := []) (k' := 0) (n' := 0) [0, 1, 2, 3, 4, 5, 6, 7, 8] [] 0 (c_X1_requireLamp l D cI cJ h σ LT γ φ k (by omega)) (cwV 1 C.1.2.2.2.2 gX1_about_X1_requireLamp rfl rfl rfl (by decide +kernel) ⟨Nat.le_of_ble_eq_true rfl, Nat.le_of_ble_eq_true rfl⟩) rfl rfl rfl rfl rfl (by decide) rfl rfl rfl rfl (Nat.le_of_ble_eq_true rfl) rfl rfl ⟨Nat.le_of_ble_eq_true rfl, Nat.le_of_ble_eq_true rfl⟩ dX1_about_2 ?_
  rintro _ rfl
  refine z_ws (ws' := (cw cI h σ LT γ φ)) rfl ?_
  refine z_iload_n C 2 dX1_about_5 rfl ?_
  refine z_iconst C dX1_about_6 ?_
  refine x_callS C hX (As := [vI wh, vI 3]) (st := []) (y := yX1_requireWhat) (w := wsX1_requireWhat) (rm := rx_X1_requireWhat) (wr := (cw cI h σ LT γ φ)) (k' := 1) (n' := 6) [] [0, 1, 2, 3, 4, 5, 6, 7, 8] (x_X1_requireWhat l D cI cJ  wh 3 (by omega) (by omega)) (va_cwS 2 C.1.2.2.2.2 gX1_about_X1_requireWhat rfl rfl rfl (by decide +kernel) ⟨Nat.le_of_ble_eq_true rfl, Nat.le_of_ble_eq_true rfl⟩) rfl rfl rfl rfl rfl (by decide) rfl rfl (Nat.le_of_ble_eq_true rfl) rfl rfl ⟨Nat.le_of_ble_eq_true rfl, Nat.le_of_ble_eq_true rfl⟩ dX1_about_7 (fun u hu => ?_)
  obtain rfl := hu
  exact hZo _ _ _ _ _ rfl (by decide) (by decide)

abbrev rx_X1_seat : Room := { frames := 7, cells := 1, slots := 6, locals := 121 }
set_option maxHeartbeats 4000000 in
set_option maxRecDepth 100000 in
theorem x_X1_seat (l : Launch) (D : va_G) (cI cJ : ClassId) (h : Nat → Nat) (σ : YS) (LT : Nat → Int) (γ : YS) (φ : Nat → Int) (w wh : Int) (hr : rng w ∧ rng wh) (hO : Ok σ) (hb : ¬ (0 ≤ w ∧ w < σ 4 1)) : Xt l yX1_seat wsX1_seat rx_X1_seat D [(cI, .int), (cJ, .long)] [.ref (h 0), vI w, vI wh] (cw cI h σ LT γ φ) xIO (fun u : va_W => u = (cw cI h σ LT γ φ)) := by
  refine x_of (cc := cX1_seat) (maxL := 3) (lv := [(0, .ref (h 0)), (1, vI w), (2, vI wh)]) (by decide) rfl rfl (Nat.le_of_ble_eq_true rfl) rfl ?_
  intro p e s m args below meth cd Q A C hX hZo hthr
  have hn := hO.1
  have hm := hO.2.1
  have en := nLa_e hO
  have em := nWa_e hO
  refine z_aload_n C 0 dX1_seat_0 rfl ?_
  refine z_iload_n C 1 dX1_seat_1 rfl ?_
  refine x_callV C hX (As := [vI w]) (st := []) (y := yX1_requireWatcher) (w := wsX1_requireWatcher) (rm := rx_X1_requireWatcher) (wr := []) (k' := 1) (n' := 6) [0, 1, 2, 3, 4, 5, 6, 7, 8] [] 0 (x_X1_requireWatcher l D cI cJ h σ LT γ φ w (by omega) (by omega)) (cwV 1 C.1.2.2.2.2 gX1_seat_X1_requireWatcher rfl rfl rfl (by decide +kernel) ⟨Nat.le_of_ble_eq_true rfl, Nat.le_of_ble_eq_true rfl⟩) rfl rfl rfl rfl rfl (by decide) rfl rfl rfl rfl (Nat.le_of_ble_eq_true rfl) rfl rfl ⟨Nat.le_of_ble_eq_true rfl, Nat.le_of_ble_eq_true rfl⟩ dX1_seat_2 (fun u hu => ?_)
  obtain rfl := hu
  exact hZo _ _ _ _ _ rfl (by decide) (by decide)

abbrev rxb_X1_seat : Room := { frames := 7, cells := 1, slots := 6, locals := 121 }
set_option maxHeartbeats 4000000 in
set_option maxRecDepth 100000 in
theorem xb_X1_seat (l : Launch) (D : va_G) (cI cJ : ClassId) (h : Nat → Nat) (σ : YS) (LT : Nat → Int) (γ : YS) (φ : Nat → Int) (w wh : Int) (hr : rng w ∧ rng wh) (hO : Ok σ) (hw : 0 ≤ w ∧ w < σ 4 1) (hb : ¬ (0 ≤ wh ∧ wh < 5)) : Xt l yX1_seat wsX1_seat rxb_X1_seat D [(cI, .int), (cJ, .long)] [.ref (h 0), vI w, vI wh] (cw cI h σ LT γ φ) xIO (fun u : va_W => u = (cw cI h σ LT γ φ)) := by
  refine x_of (cc := cX1_seat) (maxL := 3) (lv := [(0, .ref (h 0)), (1, vI w), (2, vI wh)]) (by decide) rfl rfl (Nat.le_of_ble_eq_true rfl) rfl ?_
  intro p e s m args below meth cd Q A C hX hZo hthr
  have hn := hO.1
  have hm := hO.2.1
  have en := nLa_e hO
  have em := nWa_e hO
  refine z_aload_n C 0 dX1_seat_0 rfl ?_
  refine z_iload_n C 1 dX1_seat_1 rfl ?_
  refine z_callVv C (As := [vI w]) (st := []) (y := yX1_requireWatcher) (w := wsX1_requireWatcher) (rm := rm_X1_requireWatcher) (wr := []) (k' := 0) (n' := 0) [0, 1, 2, 3, 4, 5, 6, 7, 8] [] 0 (c_X1_requireWatcher l D cI cJ h σ LT γ φ w (by omega)) (cwV 1 C.1.2.2.2.2 gX1_seat_X1_requireWatcher rfl rfl rfl (by decide +kernel) ⟨Nat.le_of_ble_eq_true rfl, Nat.le_of_ble_eq_true rfl⟩) rfl rfl rfl rfl rfl (by decide) rfl rfl rfl rfl (Nat.le_of_ble_eq_true rfl) rfl rfl ⟨Nat.le_of_ble_eq_true rfl, Nat.le_of_ble_eq_true rfl⟩ dX1_seat_2 ?_
  rintro _ rfl
  refine z_ws (ws' := (cw cI h σ LT γ φ)) rfl ?_
  refine z_iload_n C 2 dX1_seat_5 rfl ?_
  refine z_iconst C dX1_seat_6 ?_
  refine x_callS C hX (As := [vI wh, vI 4]) (st := []) (y := yX1_requireWhat) (w := wsX1_requireWhat) (rm := rx_X1_requireWhat) (wr := (cw cI h σ LT γ φ)) (k' := 1) (n' := 6) [] [0, 1, 2, 3, 4, 5, 6, 7, 8] (x_X1_requireWhat l D cI cJ  wh 4 (by omega) (by omega)) (va_cwS 2 C.1.2.2.2.2 gX1_seat_X1_requireWhat rfl rfl rfl (by decide +kernel) ⟨Nat.le_of_ble_eq_true rfl, Nat.le_of_ble_eq_true rfl⟩) rfl rfl rfl rfl rfl (by decide) rfl rfl (Nat.le_of_ble_eq_true rfl) rfl rfl ⟨Nat.le_of_ble_eq_true rfl, Nat.le_of_ble_eq_true rfl⟩ dX1_seat_7 (fun u hu => ?_)
  obtain rfl := hu
  exact hZo _ _ _ _ _ rfl (by decide) (by decide)

abbrev rx_X1_sees : Room := { frames := 7, cells := 1, slots := 6, locals := 121 }
set_option maxHeartbeats 4000000 in
set_option maxRecDepth 100000 in
theorem x_X1_sees (l : Launch) (D : va_G) (cI cJ : ClassId) (h : Nat → Nat) (σ : YS) (LT : Nat → Int) (γ : YS) (φ : Nat → Int) (w o : Int) (hr : rng w ∧ rng o) (hO : Ok σ) (hb : ¬ (0 ≤ w ∧ w < σ 4 1)) : Xt l yX1_sees wsX1_sees rx_X1_sees D [(cI, .int), (cJ, .long)] [.ref (h 0), vI w, vI o] (cw cI h σ LT γ φ) xIO (fun u : va_W => u = (cw cI h σ LT γ φ)) := by
  refine x_of (cc := cX1_sees) (maxL := 3) (lv := [(0, .ref (h 0)), (1, vI w), (2, vI o)]) (by decide) rfl rfl (Nat.le_of_ble_eq_true rfl) rfl ?_
  intro p e s m args below meth cd Q A C hX hZo hthr
  have hn := hO.1
  have hm := hO.2.1
  have en := nLa_e hO
  have em := nWa_e hO
  refine z_aload_n C 0 dX1_sees_0 rfl ?_
  refine z_iload_n C 1 dX1_sees_1 rfl ?_
  refine x_callV C hX (As := [vI w]) (st := []) (y := yX1_requireWatcher) (w := wsX1_requireWatcher) (rm := rx_X1_requireWatcher) (wr := []) (k' := 1) (n' := 6) [0, 1, 2, 3, 4, 5, 6, 7, 8] [] 0 (x_X1_requireWatcher l D cI cJ h σ LT γ φ w (by omega) (by omega)) (cwV 1 C.1.2.2.2.2 gX1_sees_X1_requireWatcher rfl rfl rfl (by decide +kernel) ⟨Nat.le_of_ble_eq_true rfl, Nat.le_of_ble_eq_true rfl⟩) rfl rfl rfl rfl rfl (by decide) rfl rfl rfl rfl (Nat.le_of_ble_eq_true rfl) rfl rfl ⟨Nat.le_of_ble_eq_true rfl, Nat.le_of_ble_eq_true rfl⟩ dX1_sees_2 (fun u hu => ?_)
  obtain rfl := hu
  exact hZo _ _ _ _ _ rfl (by decide) (by decide)

abbrev rxb_X1_sees : Room := { frames := 7, cells := 1, slots := 6, locals := 121 }
set_option maxHeartbeats 4000000 in
set_option maxRecDepth 100000 in
theorem xb_X1_sees (l : Launch) (D : va_G) (cI cJ : ClassId) (h : Nat → Nat) (σ : YS) (LT : Nat → Int) (γ : YS) (φ : Nat → Int) (w o : Int) (hr : rng w ∧ rng o) (hO : Ok σ) (hw : 0 ≤ w ∧ w < σ 4 1) (hb : ¬ (0 ≤ o ∧ o < σ 4 1)) : Xt l yX1_sees wsX1_sees rxb_X1_sees D [(cI, .int), (cJ, .long)] [.ref (h 0), vI w, vI o] (cw cI h σ LT γ φ) xIO (fun u : va_W => u = (cw cI h σ LT γ φ)) := by
  refine x_of (cc := cX1_sees) (maxL := 3) (lv := [(0, .ref (h 0)), (1, vI w), (2, vI o)]) (by decide) rfl rfl (Nat.le_of_ble_eq_true rfl) rfl ?_
  intro p e s m args below meth cd Q A C hX hZo hthr
  have hn := hO.1
  have hm := hO.2.1
  have en := nLa_e hO
  have em := nWa_e hO
  refine z_aload_n C 0 dX1_sees_0 rfl ?_
  refine z_iload_n C 1 dX1_sees_1 rfl ?_
  refine z_callVv C (As := [vI w]) (st := []) (y := yX1_requireWatcher) (w := wsX1_requireWatcher) (rm := rm_X1_requireWatcher) (wr := []) (k' := 0) (n' := 0) [0, 1, 2, 3, 4, 5, 6, 7, 8] [] 0 (c_X1_requireWatcher l D cI cJ h σ LT γ φ w (by omega)) (cwV 1 C.1.2.2.2.2 gX1_sees_X1_requireWatcher rfl rfl rfl (by decide +kernel) ⟨Nat.le_of_ble_eq_true rfl, Nat.le_of_ble_eq_true rfl⟩) rfl rfl rfl rfl rfl (by decide) rfl rfl rfl rfl (Nat.le_of_ble_eq_true rfl) rfl rfl ⟨Nat.le_of_ble_eq_true rfl, Nat.le_of_ble_eq_true rfl⟩ dX1_sees_2 ?_
  rintro _ rfl
  refine z_ws (ws' := (cw cI h σ LT γ φ)) rfl ?_
  refine z_aload_n C 0 dX1_sees_5 rfl ?_
  refine z_iload_n C 2 dX1_sees_6 rfl ?_
  refine x_callV C hX (As := [vI o]) (st := []) (y := yX1_requireWatcher) (w := wsX1_requireWatcher) (rm := rx_X1_requireWatcher) (wr := []) (k' := 1) (n' := 6) [0, 1, 2, 3, 4, 5, 6, 7, 8] [] 0 (x_X1_requireWatcher l D cI cJ h σ LT γ φ o (by omega) (by omega)) (cwV 1 C.1.2.2.2.2 gX1_sees_X1_requireWatcher rfl rfl rfl (by decide +kernel) ⟨Nat.le_of_ble_eq_true rfl, Nat.le_of_ble_eq_true rfl⟩) rfl rfl rfl rfl rfl (by decide) rfl rfl rfl rfl (Nat.le_of_ble_eq_true rfl) rfl rfl ⟨Nat.le_of_ble_eq_true rfl, Nat.le_of_ble_eq_true rfl⟩ dX1_sees_7 (fun u hu => ?_)
  obtain rfl := hu
  exact hZo _ _ _ _ _ rfl (by decide) (by decide)

abbrev rx_X1_count : Room := { frames := 7, cells := 1, slots := 6, locals := 136 }
set_option maxHeartbeats 4000000 in
set_option maxRecDepth 100000 in
theorem x_X1_count (l : Launch) (D : va_G) (cI cJ : ClassId) (h : Nat → Nat) (σ : YS) (LT : Nat → Int) (γ : YS) (φ : Nat → Int) (wh : Int) (hr : rng wh) (hb : ¬ (0 ≤ wh ∧ wh < 8)) : Xt l yX1_count wsX1_count rx_X1_count D [(cI, .int), (cJ, .long)] [.ref (h 0), vI wh] (cw cI h σ LT γ φ) xIO (fun u : va_W => u = (cw cI h σ LT γ φ)) := by
  refine x_of (cc := cX1_count) (maxL := 2) (lv := [(0, .ref (h 0)), (1, vI wh)]) (by decide) rfl rfl (Nat.le_of_ble_eq_true rfl) rfl ?_
  intro p e s m args below meth cd Q A C hX hZo hthr
  refine z_iload_n C 1 dX1_count_0 rfl ?_
  refine z_bipush C dX1_count_1 (by decide) ?_
  refine x_callS C hX (As := [vI wh, vI 7]) (st := []) (y := yX1_requireWhat) (w := wsX1_requireWhat) (rm := rx_X1_requireWhat) (wr := (cw cI h σ LT γ φ)) (k' := 1) (n' := 6) [] [0, 1, 2, 3, 4, 5, 6, 7, 8] (x_X1_requireWhat l D cI cJ  wh 7 (by omega) (by omega)) (va_cwS 2 C.1.2.2.2.2 gX1_count_X1_requireWhat rfl rfl rfl (by decide +kernel) ⟨Nat.le_of_ble_eq_true rfl, Nat.le_of_ble_eq_true rfl⟩) rfl rfl rfl rfl rfl (by decide) rfl rfl (Nat.le_of_ble_eq_true rfl) rfl rfl ⟨Nat.le_of_ble_eq_true rfl, Nat.le_of_ble_eq_true rfl⟩ dX1_count_3 (fun u hu => ?_)
  obtain rfl := hu
  exact hZo _ _ _ _ _ rfl (by decide) (by decide)

abbrev rx_X1_far : Room := { frames := 7, cells := 1, slots := 6, locals := 120 }
set_option maxRecDepth 100000 in
theorem inU_X1_X1_far : ∀ w ∈ u_ws RX1 TX1 11, w ∈ wsX1_far := by decide +kernel
set_option maxHeartbeats 4000000 in
set_option maxRecDepth 100000 in
theorem x_X1_far (l : Launch) (D : va_G) (cI cJ : ClassId) (h : Nat → Nat) (σ : YS) (LT : Nat → Int) (γ : YS) (φ : Nat → Int) (f t : Int) (hr : rng f ∧ rng t) (hb : ¬ (0 ≤ f ∧ f < 144)) : Xt l yX1_far wsX1_far rx_X1_far D [(cI, .int), (cJ, .long)] [.ref (h 0), vI f, vI t] (cw cI h σ LT γ φ) xIO (fun u : va_W => u = (cw cI h σ LT γ φ)) := by
  refine x_of (cc := cX1_far) (maxL := 4) (lv := [(0, .ref (h 0)), (1, vI f), (2, vI t)]) (by decide) rfl rfl (Nat.le_of_ble_eq_true rfl) rfl ?_
  intro p e s m args below meth cd Q A C hX hZo hthr
  refine z_iload_n C 1 dX1_far_0 rfl ?_
  refine x_callS C hX (As := [vI f]) (st := []) (y := yX1_requireCell) (w := wsX1_requireCell) (rm := rx_X1_requireCell) (wr := (cw cI h σ LT γ φ)) (k' := 1) (n' := 6) [] [0, 1, 2, 3, 4, 5, 6, 7, 8] (x_X1_requireCell l D cI cJ  f (by omega) (by omega)) (va_cwS 1 C.1.2.2.2.2 gX1_far_X1_requireCell rfl rfl rfl (by decide +kernel) ⟨Nat.le_of_ble_eq_true rfl, Nat.le_of_ble_eq_true rfl⟩) rfl rfl rfl rfl rfl (by decide) rfl rfl (Nat.le_of_ble_eq_true rfl) rfl rfl ⟨Nat.le_of_ble_eq_true rfl, Nat.le_of_ble_eq_true rfl⟩ dX1_far_1 (fun u hu => ?_)
  obtain rfl := hu
  exact hZo _ _ _ _ _ rfl (by decide) (by decide)

abbrev rxb_X1_far : Room := { frames := 7, cells := 1, slots := 6, locals := 120 }
set_option maxHeartbeats 4000000 in
set_option maxRecDepth 100000 in
theorem xb_X1_far (l : Launch) (D : va_G) (cI cJ : ClassId) (h : Nat → Nat) (σ : YS) (LT : Nat → Int) (γ : YS) (φ : Nat → Int) (f t : Int) (hr : rng f ∧ rng t) (hf : 0 ≤ f ∧ f < 144) (hb : ¬ (0 ≤ t ∧ t < 144)) : Xt l yX1_far wsX1_far rxb_X1_far D [(cI, .int), (cJ, .long)] [.ref (h 0), vI f, vI t] (cw cI h σ LT γ φ) xIO (fun u : va_W => u = (cw cI h σ LT γ φ)) := by
  refine x_of (cc := cX1_far) (maxL := 4) (lv := [(0, .ref (h 0)), (1, vI f), (2, vI t)]) (by decide) rfl rfl (Nat.le_of_ble_eq_true rfl) rfl ?_
  intro p e s m args below meth cd Q A C hX hZo hthr
  refine z_iload_n C 1 dX1_far_0 rfl ?_
  refine z_callSv C (As := [vI f]) (st := []) (y := yX1_requireCell) (w := wsX1_requireCell) (rm := rm_X1_requireCell) (wr := (cw cI h σ LT γ φ)) (k' := 0) (n' := 0) [] [0, 1, 2, 3, 4, 5, 6, 7, 8] (c_X1_requireCell l D cI cJ  f (by omega)) (va_cwS 1 C.1.2.2.2.2 gX1_far_X1_requireCell rfl rfl rfl (by decide +kernel) ⟨Nat.le_of_ble_eq_true rfl, Nat.le_of_ble_eq_true rfl⟩) rfl rfl rfl rfl rfl (by decide) rfl rfl (Nat.le_of_ble_eq_true rfl) rfl rfl ⟨Nat.le_of_ble_eq_true rfl, Nat.le_of_ble_eq_true rfl⟩ dX1_far_1 ?_
  rintro _ rfl
  refine z_ws (ws' := (cw cI h σ LT γ φ)) rfl ?_
  refine z_iload_n C 2 dX1_far_4 rfl ?_
  refine x_callS C hX (As := [vI t]) (st := []) (y := yX1_requireCell) (w := wsX1_requireCell) (rm := rx_X1_requireCell) (wr := (cw cI h σ LT γ φ)) (k' := 1) (n' := 6) [] [0, 1, 2, 3, 4, 5, 6, 7, 8] (x_X1_requireCell l D cI cJ  t (by omega) (by omega)) (va_cwS 1 C.1.2.2.2.2 gX1_far_X1_requireCell rfl rfl rfl (by decide +kernel) ⟨Nat.le_of_ble_eq_true rfl, Nat.le_of_ble_eq_true rfl⟩) rfl rfl rfl rfl rfl (by decide) rfl rfl (Nat.le_of_ble_eq_true rfl) rfl rfl ⟨Nat.le_of_ble_eq_true rfl, Nat.le_of_ble_eq_true rfl⟩ dX1_far_5 (fun u hu => ?_)
  obtain rfl := hu
  exact hZo _ _ _ _ _ rfl (by decide) (by decide)

abbrev rx_X1_stops : Room := { frames := 7, cells := 1, slots := 6, locals := 120 }
set_option maxHeartbeats 4000000 in
set_option maxRecDepth 100000 in
theorem x_X1_stops (l : Launch) (D : va_G) (cI cJ : ClassId) (h : Nat → Nat) (σ : YS) (LT : Nat → Int) (γ : YS) (φ : Nat → Int) (f t : Int) (hr : rng f ∧ rng t) (hb : ¬ (0 ≤ f ∧ f < 144)) : Xt l yX1_stops wsX1_stops rx_X1_stops D [(cI, .int), (cJ, .long)] [.ref (h 0), vI f, vI t] (cw cI h σ LT γ φ) xIO (fun u : va_W => u = (cw cI h σ LT γ φ)) := by
  refine x_of (cc := cX1_stops) (maxL := 3) (lv := [(0, .ref (h 0)), (1, vI f), (2, vI t)]) (by decide) rfl rfl (Nat.le_of_ble_eq_true rfl) rfl ?_
  intro p e s m args below meth cd Q A C hX hZo hthr
  refine z_iload_n C 1 dX1_stops_0 rfl ?_
  refine x_callS C hX (As := [vI f]) (st := []) (y := yX1_requireCell) (w := wsX1_requireCell) (rm := rx_X1_requireCell) (wr := (cw cI h σ LT γ φ)) (k' := 1) (n' := 6) [] [0, 1, 2, 3, 4, 5, 6, 7, 8] (x_X1_requireCell l D cI cJ  f (by omega) (by omega)) (va_cwS 1 C.1.2.2.2.2 gX1_stops_X1_requireCell rfl rfl rfl (by decide +kernel) ⟨Nat.le_of_ble_eq_true rfl, Nat.le_of_ble_eq_true rfl⟩) rfl rfl rfl rfl rfl (by decide) rfl rfl (Nat.le_of_ble_eq_true rfl) rfl rfl ⟨Nat.le_of_ble_eq_true rfl, Nat.le_of_ble_eq_true rfl⟩ dX1_stops_1 (fun u hu => ?_)
  obtain rfl := hu
  exact hZo _ _ _ _ _ rfl (by decide) (by decide)

abbrev rxb_X1_stops : Room := { frames := 7, cells := 1, slots := 6, locals := 120 }
set_option maxHeartbeats 4000000 in
set_option maxRecDepth 100000 in
theorem xb_X1_stops (l : Launch) (D : va_G) (cI cJ : ClassId) (h : Nat → Nat) (σ : YS) (LT : Nat → Int) (γ : YS) (φ : Nat → Int) (f t : Int) (hr : rng f ∧ rng t) (hf : 0 ≤ f ∧ f < 144) (hb : ¬ (0 ≤ t ∧ t < 144)) : Xt l yX1_stops wsX1_stops rxb_X1_stops D [(cI, .int), (cJ, .long)] [.ref (h 0), vI f, vI t] (cw cI h σ LT γ φ) xIO (fun u : va_W => u = (cw cI h σ LT γ φ)) := by
  refine x_of (cc := cX1_stops) (maxL := 3) (lv := [(0, .ref (h 0)), (1, vI f), (2, vI t)]) (by decide) rfl rfl (Nat.le_of_ble_eq_true rfl) rfl ?_
  intro p e s m args below meth cd Q A C hX hZo hthr
  refine z_iload_n C 1 dX1_stops_0 rfl ?_
  refine z_callSv C (As := [vI f]) (st := []) (y := yX1_requireCell) (w := wsX1_requireCell) (rm := rm_X1_requireCell) (wr := (cw cI h σ LT γ φ)) (k' := 0) (n' := 0) [] [0, 1, 2, 3, 4, 5, 6, 7, 8] (c_X1_requireCell l D cI cJ  f (by omega)) (va_cwS 1 C.1.2.2.2.2 gX1_stops_X1_requireCell rfl rfl rfl (by decide +kernel) ⟨Nat.le_of_ble_eq_true rfl, Nat.le_of_ble_eq_true rfl⟩) rfl rfl rfl rfl rfl (by decide) rfl rfl (Nat.le_of_ble_eq_true rfl) rfl rfl ⟨Nat.le_of_ble_eq_true rfl, Nat.le_of_ble_eq_true rfl⟩ dX1_stops_1 ?_
  rintro _ rfl
  refine z_ws (ws' := (cw cI h σ LT γ φ)) rfl ?_
  refine z_iload_n C 2 dX1_stops_4 rfl ?_
  refine x_callS C hX (As := [vI t]) (st := []) (y := yX1_requireCell) (w := wsX1_requireCell) (rm := rx_X1_requireCell) (wr := (cw cI h σ LT γ φ)) (k' := 1) (n' := 6) [] [0, 1, 2, 3, 4, 5, 6, 7, 8] (x_X1_requireCell l D cI cJ  t (by omega) (by omega)) (va_cwS 1 C.1.2.2.2.2 gX1_stops_X1_requireCell rfl rfl rfl (by decide +kernel) ⟨Nat.le_of_ble_eq_true rfl, Nat.le_of_ble_eq_true rfl⟩) rfl rfl rfl rfl rfl (by decide) rfl rfl (Nat.le_of_ble_eq_true rfl) rfl rfl ⟨Nat.le_of_ble_eq_true rfl, Nat.le_of_ble_eq_true rfl⟩ dX1_stops_5 (fun u hu => ?_)
  obtain rfl := hu
  exact hZo _ _ _ _ _ rfl (by decide) (by decide)

abbrev rx_X1_creeps : Room := { frames := 7, cells := 1, slots := 6, locals := 121 }
set_option maxHeartbeats 4000000 in
set_option maxRecDepth 100000 in
theorem x_X1_creeps (l : Launch) (D : va_G) (cI cJ : ClassId) (h : Nat → Nat) (σ : YS) (LT : Nat → Int) (γ : YS) (φ : Nat → Int) (w x y : Int) (hr : rng w ∧ rng x ∧ rng y) (hO : Ok σ) (hb : ¬ (0 ≤ w ∧ w < σ 4 1)) : Xt l yX1_creeps wsX1_creeps rx_X1_creeps D [(cI, .int), (cJ, .long)] [.ref (h 0), vI w, vI x, vI y] (cw cI h σ LT γ φ) xIO (fun u : va_W => u = (cw cI h σ LT γ φ)) := by
  refine x_of (cc := cX1_creeps) (maxL := 4) (lv := [(0, .ref (h 0)), (1, vI w), (2, vI x), (3, vI y)]) (by decide) rfl rfl (Nat.le_of_ble_eq_true rfl) rfl ?_
  intro p e s m args below meth cd Q A C hX hZo hthr
  have hn := hO.1
  have hm := hO.2.1
  have en := nLa_e hO
  have em := nWa_e hO
  refine z_aload_n C 0 dX1_creeps_0 rfl ?_
  refine z_iload_n C 1 dX1_creeps_1 rfl ?_
  refine x_callV C hX (As := [vI w]) (st := []) (y := yX1_requireWatcher) (w := wsX1_requireWatcher) (rm := rx_X1_requireWatcher) (wr := []) (k' := 1) (n' := 6) [0, 1, 2, 3, 4, 5, 6, 7, 8] [] 0 (x_X1_requireWatcher l D cI cJ h σ LT γ φ w (by omega) (by omega)) (cwV 1 C.1.2.2.2.2 gX1_creeps_X1_requireWatcher rfl rfl rfl (by decide +kernel) ⟨Nat.le_of_ble_eq_true rfl, Nat.le_of_ble_eq_true rfl⟩) rfl rfl rfl rfl rfl (by decide) rfl rfl rfl rfl (Nat.le_of_ble_eq_true rfl) rfl rfl ⟨Nat.le_of_ble_eq_true rfl, Nat.le_of_ble_eq_true rfl⟩ dX1_creeps_2 (fun u hu => ?_)
  obtain rfl := hu
  exact hZo _ _ _ _ _ rfl (by decide) (by decide)

abbrev rxb_X1_creeps : Room := { frames := 7, cells := 1, slots := 6, locals := 121 }
set_option maxHeartbeats 4000000 in
set_option maxRecDepth 100000 in
theorem xb_X1_creeps (l : Launch) (D : va_G) (cI cJ : ClassId) (h : Nat → Nat) (σ : YS) (LT : Nat → Int) (γ : YS) (φ : Nat → Int) (w x y : Int) (hr : rng w ∧ rng x ∧ rng y) (hO : Ok σ) (hw : 0 ≤ w ∧ w < σ 4 1) (hb : ¬ ((0 ≤ x ∧ x < 12) ∧ 0 ≤ y ∧ y < 12)) : Xt l yX1_creeps wsX1_creeps rxb_X1_creeps D [(cI, .int), (cJ, .long)] [.ref (h 0), vI w, vI x, vI y] (cw cI h σ LT γ φ) xIO (fun u : va_W => u = (cw cI h σ LT γ φ)) := by
  refine x_of (cc := cX1_creeps) (maxL := 4) (lv := [(0, .ref (h 0)), (1, vI w), (2, vI x), (3, vI y)]) (by decide) rfl rfl (Nat.le_of_ble_eq_true rfl) rfl ?_
  intro p e s m args below meth cd Q A C hX hZo hthr
  have hn := hO.1
  have hm := hO.2.1
  have en := nLa_e hO
  have em := nWa_e hO
  refine z_aload_n C 0 dX1_creeps_0 rfl ?_
  refine z_iload_n C 1 dX1_creeps_1 rfl ?_
  refine z_callVv C (As := [vI w]) (st := []) (y := yX1_requireWatcher) (w := wsX1_requireWatcher) (rm := rm_X1_requireWatcher) (wr := []) (k' := 0) (n' := 0) [0, 1, 2, 3, 4, 5, 6, 7, 8] [] 0 (c_X1_requireWatcher l D cI cJ h σ LT γ φ w (by omega)) (cwV 1 C.1.2.2.2.2 gX1_creeps_X1_requireWatcher rfl rfl rfl (by decide +kernel) ⟨Nat.le_of_ble_eq_true rfl, Nat.le_of_ble_eq_true rfl⟩) rfl rfl rfl rfl rfl (by decide) rfl rfl rfl rfl (Nat.le_of_ble_eq_true rfl) rfl rfl ⟨Nat.le_of_ble_eq_true rfl, Nat.le_of_ble_eq_true rfl⟩ dX1_creeps_2 ?_
  rintro _ rfl
  refine z_ws (ws' := (cw cI h σ LT γ φ)) rfl ?_
  refine z_iload_n C 2 dX1_creeps_5 rfl ?_
  refine z_iload_n C 3 dX1_creeps_6 rfl ?_
  refine x_callS C hX (As := [vI x, vI y]) (st := []) (y := yX1_requirePlace) (w := wsX1_requirePlace) (rm := rx_X1_requirePlace) (wr := (cw cI h σ LT γ φ)) (k' := 1) (n' := 6) [] [0, 1, 2, 3, 4, 5, 6, 7, 8] (x_X1_requirePlace l D cI cJ  x y (by omega) (by omega)) (va_cwS 2 C.1.2.2.2.2 gX1_creeps_X1_requirePlace rfl rfl rfl (by decide +kernel) ⟨Nat.le_of_ble_eq_true rfl, Nat.le_of_ble_eq_true rfl⟩) rfl rfl rfl rfl rfl (by decide) rfl rfl (Nat.le_of_ble_eq_true rfl) rfl rfl ⟨Nat.le_of_ble_eq_true rfl, Nat.le_of_ble_eq_true rfl⟩ dX1_creeps_7 (fun u hu => ?_)
  obtain rfl := hu
  exact hZo _ _ _ _ _ rfl (by decide) (by decide)

abbrev rx_X1_would : Room := { frames := 7, cells := 1, slots := 6, locals := 140 }
set_option maxHeartbeats 4000000 in
set_option maxRecDepth 100000 in
theorem x_X1_would (l : Launch) (D : va_G) (cI cJ : ClassId) (h : Nat → Nat) (σ : YS) (LT : Nat → Int) (γ : YS) (φ : Nat → Int) (x y kd : Int) (hr : rng x ∧ rng y ∧ rng kd) (hb : ¬ ((0 ≤ x ∧ x < 12) ∧ 0 ≤ y ∧ y < 12)) : Xt l yX1_would wsX1_would rx_X1_would D [(cI, .int), (cJ, .long)] [.ref (h 0), vI x, vI y, vI kd] (cw cI h σ LT γ φ) xIO (fun u : va_W => u = (cw cI h σ LT γ φ)) := by
  refine x_of (cc := cX1_would) (maxL := 7) (lv := [(0, .ref (h 0)), (1, vI x), (2, vI y), (3, vI kd)]) (by decide) rfl rfl (Nat.le_of_ble_eq_true rfl) rfl ?_
  intro p e s m args below meth cd Q A C hX hZo hthr
  refine z_iload_n C 1 dX1_would_0 rfl ?_
  refine z_iload_n C 2 dX1_would_1 rfl ?_
  refine x_callS C hX (As := [vI x, vI y]) (st := []) (y := yX1_requirePlace) (w := wsX1_requirePlace) (rm := rx_X1_requirePlace) (wr := (cw cI h σ LT γ φ)) (k' := 1) (n' := 6) [] [0, 1, 2, 3, 4, 5, 6, 7, 8] (x_X1_requirePlace l D cI cJ  x y (by omega) (by omega)) (va_cwS 2 C.1.2.2.2.2 gX1_would_X1_requirePlace rfl rfl rfl (by decide +kernel) ⟨Nat.le_of_ble_eq_true rfl, Nat.le_of_ble_eq_true rfl⟩) rfl rfl rfl rfl rfl (by decide) rfl rfl (Nat.le_of_ble_eq_true rfl) rfl rfl ⟨Nat.le_of_ble_eq_true rfl, Nat.le_of_ble_eq_true rfl⟩ dX1_would_2 (fun u hu => ?_)
  obtain rfl := hu
  exact hZo _ _ _ _ _ rfl (by decide) (by decide)

abbrev rxb_X1_would : Room := { frames := 7, cells := 1, slots := 6, locals := 140 }
set_option maxHeartbeats 4000000 in
set_option maxRecDepth 100000 in
theorem xb_X1_would (l : Launch) (D : va_G) (cI cJ : ClassId) (h : Nat → Nat) (σ : YS) (LT : Nat → Int) (γ : YS) (φ : Nat → Int) (x y kd : Int) (hr : rng x ∧ rng y ∧ rng kd) (hp : ((0 ≤ x ∧ x < 12) ∧ 0 ≤ y ∧ y < 12)) (hb : ¬ (0 ≤ kd ∧ kd < 4)) : Xt l yX1_would wsX1_would rxb_X1_would D [(cI, .int), (cJ, .long)] [.ref (h 0), vI x, vI y, vI kd] (cw cI h σ LT γ φ) xIA (fun u : va_W => u = (cw cI h σ LT γ φ)) := by
  refine x_of (cc := cX1_would) (maxL := 7) (lv := [(0, .ref (h 0)), (1, vI x), (2, vI y), (3, vI kd)]) (by decide) rfl rfl (Nat.le_of_ble_eq_true rfl) rfl ?_
  intro p e s m args below meth cd Q A C hX hZo hthr
  refine z_iload_n C 1 dX1_would_0 rfl ?_
  refine z_iload_n C 2 dX1_would_1 rfl ?_
  refine z_callSv C (As := [vI x, vI y]) (st := []) (y := yX1_requirePlace) (w := wsX1_requirePlace) (rm := rm_X1_requirePlace) (wr := (cw cI h σ LT γ φ)) (k' := 0) (n' := 0) [] [0, 1, 2, 3, 4, 5, 6, 7, 8] (c_X1_requirePlace l D cI cJ  x y (by omega)) (va_cwS 2 C.1.2.2.2.2 gX1_would_X1_requirePlace rfl rfl rfl (by decide +kernel) ⟨Nat.le_of_ble_eq_true rfl, Nat.le_of_ble_eq_true rfl⟩) rfl rfl rfl rfl rfl (by decide) rfl rfl (Nat.le_of_ble_eq_true rfl) rfl rfl ⟨Nat.le_of_ble_eq_true rfl, Nat.le_of_ble_eq_true rfl⟩ dX1_would_2 ?_
  rintro _ rfl
  refine z_ws (ws' := (cw cI h σ LT γ φ)) rfl ?_
  refine z_iload_n C 3 dX1_would_5 rfl ?_
  refine x_callS C hX (As := [vI kd]) (st := []) (y := yX1_requireKind) (w := wsX1_requireKind) (rm := rx_X1_requireKind) (wr := (cw cI h σ LT γ φ)) (k' := 1) (n' := 6) [] [0, 1, 2, 3, 4, 5, 6, 7, 8] (x_X1_requireKind l D cI cJ  kd (by omega) (by omega)) (va_cwS 1 C.1.2.2.2.2 gX1_would_X1_requireKind rfl rfl rfl (by decide +kernel) ⟨Nat.le_of_ble_eq_true rfl, Nat.le_of_ble_eq_true rfl⟩) rfl rfl rfl rfl rfl (by decide) rfl rfl (Nat.le_of_ble_eq_true rfl) rfl rfl ⟨Nat.le_of_ble_eq_true rfl, Nat.le_of_ble_eq_true rfl⟩ dX1_would_6 (fun u hu => ?_)
  obtain rfl := hu
  exact hZo _ _ _ _ _ rfl (by decide) (by decide)

abbrev rx_X1_advise : Room := { frames := 7, cells := 1, slots := 6, locals := 121 }
set_option maxHeartbeats 4000000 in
set_option maxRecDepth 100000 in
theorem x_X1_advise (l : Launch) (D : va_G) (cI cJ : ClassId) (h : Nat → Nat) (σ : YS) (LT : Nat → Int) (γ : YS) (φ : Nat → Int) (k : Int) (hr : rng k) (hO : Ok σ) (hb : ¬ (0 ≤ k ∧ k < σ 4 0)) : Xt l yX1_advise wsX1_advise rx_X1_advise D [(cI, .int), (cJ, .long)] [.ref (h 0), vI k] (cw cI h σ LT γ φ) xIO (fun u : va_W => u = (cw cI h σ LT γ φ)) := by
  refine x_of (cc := cX1_advise) (maxL := 8) (lv := [(0, .ref (h 0)), (1, vI k)]) (by decide) rfl rfl (Nat.le_of_ble_eq_true rfl) rfl ?_
  intro p e s m args below meth cd Q A C hX hZo hthr
  have hn := hO.1
  have hm := hO.2.1
  have en := nLa_e hO
  have em := nWa_e hO
  refine z_aload_n C 0 dX1_advise_0 rfl ?_
  refine z_iload_n C 1 dX1_advise_1 rfl ?_
  refine x_callV C hX (As := [vI k]) (st := []) (y := yX1_requireLamp) (w := wsX1_requireLamp) (rm := rx_X1_requireLamp) (wr := []) (k' := 1) (n' := 6) [0, 1, 2, 3, 4, 5, 6, 7, 8] [] 0 (x_X1_requireLamp l D cI cJ h σ LT γ φ k (by omega) (by omega)) (cwV 1 C.1.2.2.2.2 gX1_advise_X1_requireLamp rfl rfl rfl (by decide +kernel) ⟨Nat.le_of_ble_eq_true rfl, Nat.le_of_ble_eq_true rfl⟩) rfl rfl rfl rfl rfl (by decide) rfl rfl rfl rfl (Nat.le_of_ble_eq_true rfl) rfl rfl ⟨Nat.le_of_ble_eq_true rfl, Nat.le_of_ble_eq_true rfl⟩ dX1_advise_2 (fun u hu => ?_)
  obtain rfl := hu
  exact hZo _ _ _ _ _ rfl (by decide) (by decide)

abbrev rm_X1_creep : Room := { frames := 7, cells := 0, slots := 0, locals := 121 }
set_option maxHeartbeats 4000000 in
set_option maxRecDepth 100000 in
theorem c_X1_creep (l : Launch) (D : va_G) (cI cJ : ClassId) (h : Nat → Nat) (σ : YS) (LT : Nat → Int) (γ : YS) (φ : Nat → Int) (w x y : Int) (hw : 0 ≤ w ∧ w < σ 4 1) (hx : 0 ≤ x ∧ x < 12) (hy : 0 ≤ y ∧ y < 12) (hv : dS nbN (frB σ LT) (σ 3 w.toNat).toNat (12 * y + x).toNat ≠ -1) (hO : Ok σ) (hL : LR LT) : Ci l yX1_creep wsX1_creep rm_X1_creep D [(cI, .int), (cJ, .long)] [.ref (h 0), vI w, vI x, vI y] (cw cI h σ LT γ φ) (fun z u => ∃ γ' : YS, u = (cw cI h (sU (sU σ 3 w.toNat (12 * y + x)) 4 2 (σ 4 2 + dS nbN (frB σ LT) (σ 3 w.toNat).toNat (12 * y + x).toNat)) LT γ' φ) ∧ z = dS nbN (frB σ LT) (σ 3 w.toNat).toNat (12 * y + x).toNat) := by
  refine z_ofi (own := RX1) (cc := cX1_creep) (maxL := 6) (lv := [(0, .ref (h 0)), (1, vI w), (2, vI x), (3, vI y)]) (by decide) rfl rfl (Nat.le_of_ble_eq_true rfl) rfl ?_
  intro p e s m args below meth cd Q A C hret
  have hn := hO.1
  have hm := hO.2.1
  have en := nLa_e hO
  have em := nWa_e hO
  have hcc : 0 ≤ 12 * y + x ∧ 12 * y + x < 144 := by omega
  have ecc : (((12 * y + x).toNat : Nat) : Int) = 12 * y + x := Int.toNat_of_nonneg hcc.1
  have h1 := hO.2.2.2.1 w.toNat (by omega)
  have hp := dS_p nbN (frB σ LT) (st := (σ 3 w.toNat).toNat) (by omega)
  refine z_aload_n C 0 dX1_creep_0 rfl ?_
  refine z_iload_n C 1 dX1_creep_1 rfl ?_
  refine z_callVv C (As := [vI w]) (st := []) (y := yX1_requireWatcher) (w := wsX1_requireWatcher) (rm := rm_X1_requireWatcher) (wr := []) (k' := 0) (n' := 0) [0, 1, 2, 3, 4, 5, 6, 7, 8] [] 0 (c_X1_requireWatcher l D cI cJ h σ LT γ φ w (by omega)) (cwV 1 C.1.2.2.2.2 gX1_creep_X1_requireWatcher rfl rfl rfl (by decide +kernel) ⟨Nat.le_of_ble_eq_true rfl, Nat.le_of_ble_eq_true rfl⟩) rfl rfl rfl rfl rfl (by decide) rfl rfl rfl rfl (Nat.le_of_ble_eq_true rfl) rfl rfl ⟨Nat.le_of_ble_eq_true rfl, Nat.le_of_ble_eq_true rfl⟩ dX1_creep_2 ?_
  rintro _ rfl
  refine z_ws (ws' := (cw cI h σ LT γ φ)) rfl ?_
  refine z_iload_n C 2 dX1_creep_5 rfl ?_
  refine z_iload_n C 3 dX1_creep_6 rfl ?_
  refine z_callSv C (As := [vI x, vI y]) (st := []) (y := yX1_requirePlace) (w := wsX1_requirePlace) (rm := rm_X1_requirePlace) (wr := (cw cI h σ LT γ φ)) (k' := 0) (n' := 0) [] [0, 1, 2, 3, 4, 5, 6, 7, 8] (c_X1_requirePlace l D cI cJ  x y (by omega)) (va_cwS 2 C.1.2.2.2.2 gX1_creep_X1_requirePlace rfl rfl rfl (by decide +kernel) ⟨Nat.le_of_ble_eq_true rfl, Nat.le_of_ble_eq_true rfl⟩) rfl rfl rfl rfl rfl (by decide) rfl rfl (Nat.le_of_ble_eq_true rfl) rfl rfl ⟨Nat.le_of_ble_eq_true rfl, Nat.le_of_ble_eq_true rfl⟩ dX1_creep_7 ?_
  rintro _ rfl
  refine z_ws (ws' := (cw cI h σ LT γ φ)) rfl ?_
  refine z_iload_n C 2 dX1_creep_10 rfl ?_
  refine z_iload_n C 3 dX1_creep_11 rfl ?_
  refine z_callSi C (As := [vI x, vI y]) (st := []) (y := yX1_cellAt) (w := wsX1_cellAt) (rm := rm_X1_cellAt) (wr := (cw cI h σ LT γ φ)) (k' := 0) (n' := 0) [] [0, 1, 2, 3, 4, 5, 6, 7, 8] (c_X1_cellAt l D cI cJ  x y ) (va_cwS 2 C.1.2.2.2.2 gX1_creep_X1_cellAt rfl rfl rfl (by decide +kernel) ⟨Nat.le_of_ble_eq_true rfl, Nat.le_of_ble_eq_true rfl⟩) rfl rfl rfl rfl rfl (by decide) rfl rfl (Nat.le_of_ble_eq_true rfl) rfl rfl ⟨Nat.le_of_ble_eq_true rfl, Nat.le_of_ble_eq_true rfl⟩ dX1_creep_12 ?_
  rintro z_12 _ ⟨rfl, rfl⟩
  refine z_ws (ws' := (cw cI h σ LT γ φ)) rfl ?_
  refine z_st (v' := (12 * y + x)) rfl ?_
  refine z_istore C [(4, vI (12 * y + x)), (0, .ref (h 0)), (1, vI w), (2, vI x), (3, vI y)] dX1_creep_15 (by decide) rfl ?_
  refine z_aload_n C 1 dX1_creep_17 rfl ?_
  refine z_iload_n C 2 dX1_creep_18 rfl ?_
  refine z_iload C 0 dX1_creep_19 rfl ?_
  refine z_callVi C (As := [vI w, vI (12 * y + x)]) (st := []) (y := yX1_stepsTo) (w := wsX1_stepsTo) (rm := rm_X1_stepsTo) (wr := []) (k' := 0) (n' := 0) [0, 1, 2, 3, 4, 5, 6, 7, 8] [] 0 (c_X1_stepsTo l D cI cJ h σ LT γ φ w (12 * y + x) (by omega) (by omega) hO hL) (cwV 2 C.1.2.2.2.2 gX1_creep_X1_stepsTo rfl rfl rfl (by decide +kernel) ⟨Nat.le_of_ble_eq_true rfl, Nat.le_of_ble_eq_true rfl⟩) rfl rfl rfl rfl rfl (by decide) rfl rfl rfl rfl (Nat.le_of_ble_eq_true rfl) rfl rfl ⟨Nat.le_of_ble_eq_true rfl, Nat.le_of_ble_eq_true rfl⟩ dX1_creep_21 ?_
  rintro z_21 _ ⟨γ'_21, rfl, f0_21, f1_21⟩
  refine z_ws (ws' := (cw cI h σ LT γ'_21 φ)) rfl ?_
  have hz_21 := f0_21 _ hp
  refine z_istore C [(5, vI z_21), (4, vI (12 * y + x)), (0, .ref (h 0)), (1, vI w), (2, vI x), (3, vI y)] dX1_creep_24 (by decide) rfl ?_
  refine z_iload C 0 dX1_creep_26 rfl ?_
  refine z_iconst C dX1_creep_28 ?_
  refine z_icmp_ne C (tgt := 42) dX1_creep_29 (by decide) (by omega) (by omega) (fun c_29 => ?_) (fun c_29 => ?_)
  ·
    refine z_aload_n C 2 dX1_creep_42 rfl ?_
    refine z_iload_n C 3 dX1_creep_43 rfl ?_
    refine z_iload C 1 dX1_creep_44 rfl ?_
    refine z_callVv C (As := [vI w, vI (12 * y + x)]) (st := []) (y := yX1_putWatcher) (w := wsX1_putWatcher) (rm := rm_X1_putWatcher) (wr := []) (k' := 0) (n' := 0) [0, 1, 2, 3, 4, 5, 6, 7, 8] [] 0 (c_X1_putWatcher l D cI cJ h σ LT γ'_21 φ w (12 * y + x) (by omega)) (cwV 2 C.1.2.2.2.2 gX1_creep_X1_putWatcher rfl rfl rfl (by decide +kernel) ⟨Nat.le_of_ble_eq_true rfl, Nat.le_of_ble_eq_true rfl⟩) rfl rfl rfl rfl rfl (by decide) rfl rfl rfl rfl (Nat.le_of_ble_eq_true rfl) rfl rfl ⟨Nat.le_of_ble_eq_true rfl, Nat.le_of_ble_eq_true rfl⟩ dX1_creep_46 ?_
    rintro _ rfl
    refine z_ws (ws' := (cw cI h (sU σ 3 w.toNat (12 * y + x)) LT γ'_21 φ)) rfl ?_
    refine z_aload_n C 2 dX1_creep_49 rfl ?_
    refine z_dup C dX1_creep_50 rfl ?_
    refine z_get C (v := vI (σ 4 2)) (ref := "ShadowWalls") (T := TX1) (N := 11) (ci := 1) 0 10 inU_X1_X1_creep rfl rfl (by decide) (by decide +kernel) (fun _ h9 => h9) rfl dX1_creep_51 ?_
    refine z_iload C 0 dX1_creep_54 rfl ?_
    refine z_iadd C dX1_creep_56 ?_
    refine z_put C (ref := "ShadowWalls") (T := TX1) (N := 11) (ci := 1) (ty := .int) (ws' := (cw cI h (sU (sU σ 3 w.toNat (12 * y + x)) 4 2 ((σ 4 2) + z_21)) LT γ'_21 φ)) 0 10 inU_X1_X1_creep tyX1 tyX1_ok nmX1 rfl rfl (by decide) (by decide +kernel) (fun _ h9 => h9) rfl (by decide +kernel) (rfl) (rfl) (Nat.le_of_ble_eq_true rfl) rfl dX1_creep_57 ?_
    refine z_iload C 0 dX1_creep_60 rfl ?_
    exact hret _ _ _ _ dX1_creep_62 ⟨γ'_21, by rw [hz_21], hz_21⟩
  ·
    exfalso; omega

abbrev rm_X1_far : Room := { frames := 7, cells := 0, slots := 0, locals := 120 }
set_option maxHeartbeats 4000000 in
set_option maxRecDepth 100000 in
theorem c_X1_far (l : Launch) (D : va_G) (cI cJ : ClassId) (h : Nat → Nat) (σ : YS) (LT : Nat → Int) (γ : YS) (φ : Nat → Int) (f t : Int) (hf : 0 ≤ f ∧ f < 144) (ht : 0 ≤ t ∧ t < 144) : Ci l yX1_far wsX1_far rm_X1_far D [(cI, .int), (cJ, .long)] [.ref (h 0), vI f, vI t] (cw cI h σ LT γ φ) (fun z u => ∃ φ' : Nat → Int, u = (cw cI h σ LT γ φ') ∧ z = (ray (σ 0) f t).2) := by
  refine z_ofi (own := RX1) (cc := cX1_far) (maxL := 4) (lv := [(0, .ref (h 0)), (1, vI f), (2, vI t)]) (by decide) rfl rfl (Nat.le_of_ble_eq_true rfl) rfl ?_
  intro p e s m args below meth cd Q A C hret
  have a1 := abZ_c (t % 12 - f % 12)
  have a2 := abZ_c (t / 12 - f / 12)
  refine z_iload_n C 1 dX1_far_0 rfl ?_
  refine z_callSv C (As := [vI f]) (st := []) (y := yX1_requireCell) (w := wsX1_requireCell) (rm := rm_X1_requireCell) (wr := (cw cI h σ LT γ φ)) (k' := 0) (n' := 0) [] [0, 1, 2, 3, 4, 5, 6, 7, 8] (c_X1_requireCell l D cI cJ  f (by omega)) (va_cwS 1 C.1.2.2.2.2 gX1_far_X1_requireCell rfl rfl rfl (by decide +kernel) ⟨Nat.le_of_ble_eq_true rfl, Nat.le_of_ble_eq_true rfl⟩) rfl rfl rfl rfl rfl (by decide) rfl rfl (Nat.le_of_ble_eq_true rfl) rfl rfl ⟨Nat.le_of_ble_eq_true rfl, Nat.le_of_ble_eq_true rfl⟩ dX1_far_1 ?_
  rintro _ rfl
  refine z_ws (ws' := (cw cI h σ LT γ φ)) rfl ?_
  refine z_iload_n C 2 dX1_far_4 rfl ?_
  refine z_callSv C (As := [vI t]) (st := []) (y := yX1_requireCell) (w := wsX1_requireCell) (rm := rm_X1_requireCell) (wr := (cw cI h σ LT γ φ)) (k' := 0) (n' := 0) [] [0, 1, 2, 3, 4, 5, 6, 7, 8] (c_X1_requireCell l D cI cJ  t (by omega)) (va_cwS 1 C.1.2.2.2.2 gX1_far_X1_requireCell rfl rfl rfl (by decide +kernel) ⟨Nat.le_of_ble_eq_true rfl, Nat.le_of_ble_eq_true rfl⟩) rfl rfl rfl rfl rfl (by decide) rfl rfl (Nat.le_of_ble_eq_true rfl) rfl rfl ⟨Nat.le_of_ble_eq_true rfl, Nat.le_of_ble_eq_true rfl⟩ dX1_far_5 ?_
  rintro _ rfl
  refine z_ws (ws' := (cw cI h σ LT γ φ)) rfl ?_
  refine z_iconst C dX1_far_8 ?_
  refine z_istore_n C [(3, vI 0), (0, .ref (h 0)), (1, vI f), (2, vI t)] dX1_far_9 (by decide) rfl ?_
  refine z_aload_n C 1 dX1_far_10 rfl ?_
  refine z_get C (v := .ref (h 8)) (ref := "ShadowWalls") (T := TX1) (N := 11) (ci := 1) 0 7 inU_X1_X1_far rfl rfl (by decide) (by decide +kernel) (fun _ h9 => h9) rfl dX1_far_11 ?_
  refine z_iload_n C 2 dX1_far_14 rfl ?_
  refine z_iload_n C 3 dX1_far_15 rfl ?_
  refine z_callVv C (As := [vI f, vI t]) (st := []) (y := yX0_begin) (w := wsX0_begin) (rm := rm_X0_begin) (wr := [(h 0, .inr (1, [.ref (h 1), .ref (h 2), .ref (h 3), .ref (h 4), .ref (h 5), .ref (h 6), .ref (h 7), .ref (h 8), vI (σ 4 0), vI (σ 4 1), vI (σ 4 2)])), (h 1, ri cI 144 (σ 0)), (h 2, ri cI 4 (σ 1)), (h 3, ri cI 4 (σ 2)), (h 4, ri cI 6 (σ 3)), (h 5, ri cI 144 LT), (h 6, ri cI 144 (γ 0)), (h 7, ri cI 144 (γ 1))]) (k' := 0) (n' := 0) [8] [0, 1, 2, 3, 4, 5, 6, 7] 8 (c_X0_begin l D cI cJ (h 8) φ f t (by omega) (by omega)) (cwV 2 C.1.2.2.2.2 gX1_far_X0_begin rfl rfl rfl (by decide +kernel) ⟨Nat.le_of_ble_eq_true rfl, Nat.le_of_ble_eq_true rfl⟩) rfl rfl rfl rfl rfl (by decide) rfl rfl rfl rfl (Nat.le_of_ble_eq_true rfl) rfl rfl ⟨Nat.le_of_ble_eq_true rfl, Nat.le_of_ble_eq_true rfl⟩ dX1_far_16 ?_
  rintro _ rfl
  refine z_ws (ws' := (cw cI h σ LT γ (wB f t))) rfl ?_
  have L_19 : ∀ (d9 i : Nat) (φ1 : Nat → Int) (ix iy sv : Int) (hi : i ≤ 22) (hd : 23 ≤ i + d9) (hw : WayAt φ1 f t ix iy) (hr : ryH (σ 0) (f % 12) (f / 12) (sgZ (t % 12 - f % 12)) (sgZ (t / 12 - f / 12)) (abZ (t % 12 - f % 12)) (abZ (t / 12 - f / 12)) (22 - i) ix iy sv (i : Int) = ray (σ 0) f t), Zs p l e rm_X1_far s m args below meth cd Q A D 4 19 [(0, .ref (h 0)), (1, vI f), (2, vI t), (3, vI (i : Int))] [] (cw cI h σ LT γ φ1) 0 0 := by
    intro d9
    induction d9 with
    | zero =>
      intro i φ1 ix iy sv hi hd hw hr
      exfalso; omega
    | succ d9 ih9 =>
      intro i φ1 ix iy sv hi hd hw hr
      obtain ⟨w0, w1, w2, w3, w4, w5, w6, w7, w8, w9⟩ := id hw
      refine z_iload_n C 3 dX1_far_19 rfl ?_
      refine z_bipush C dX1_far_20 (by decide) ?_
      refine z_icmp_ge C (tgt := 48) dX1_far_22 (by decide) (by omega) (by omega) (fun c_22 => ?_) (fun c_22 => ?_)
      ·
        have hr9 : (i : Int) = (ray (σ 0) f t).2 := by rw [← hr, show 22 - i = 0 by omega]; rfl
        refine z_iload_n C 3 dX1_far_48 rfl ?_
        exact hret _ _ _ _ dX1_far_49 ⟨_, rfl, by exact hr9⟩
      ·
        refine z_aload_n C 0 dX1_far_25 rfl ?_
        refine z_get C (v := .ref (h 8)) (ref := "ShadowWalls") (T := TX1) (N := 11) (ci := 1) 0 7 inU_X1_X1_far rfl rfl (by decide) (by decide +kernel) (fun _ h9 => h9) rfl dX1_far_26 ?_
        refine z_callVi C (As := []) (st := []) (y := yX0_goesOn) (w := wsX0_goesOn) (rm := rm_X0_goesOn) (wr := [(h 0, .inr (1, [.ref (h 1), .ref (h 2), .ref (h 3), .ref (h 4), .ref (h 5), .ref (h 6), .ref (h 7), .ref (h 8), vI (σ 4 0), vI (σ 4 1), vI (σ 4 2)])), (h 1, ri cI 144 (σ 0)), (h 2, ri cI 4 (σ 1)), (h 3, ri cI 4 (σ 2)), (h 4, ri cI 6 (σ 3)), (h 5, ri cI 144 LT), (h 6, ri cI 144 (γ 0)), (h 7, ri cI 144 (γ 1))]) (k' := 0) (n' := 0) [8] [0, 1, 2, 3, 4, 5, 6, 7] 8 (c_X0_goesOn l D cI cJ (h 8) φ1  (by omega)) (cwV 0 C.1.2.2.2.2 gX1_far_X0_goesOn rfl rfl rfl (by decide +kernel) ⟨Nat.le_of_ble_eq_true rfl, Nat.le_of_ble_eq_true rfl⟩) rfl rfl rfl rfl rfl (by decide) rfl rfl rfl rfl (Nat.le_of_ble_eq_true rfl) rfl rfl ⟨Nat.le_of_ble_eq_true rfl, Nat.le_of_ble_eq_true rfl⟩ dX1_far_29 ?_
        rintro z_29 _ ⟨rfl, hz_29⟩
        refine z_ws (ws' := (cw cI h σ LT γ φ1)) rfl ?_
        have r_29 : z_29 = 0 ∨ z_29 = 1 := by rw [hz_29]; exact bI_01 _
        have hz_29 : z_29 = bI (decide (φ1 6 < φ1 4 ∨ φ1 7 < φ1 5)) := hz_29
        refine z_if_eq C (tgt := 48) dX1_far_32 (by decide) (by omega) (fun c_32 => ?_) (fun c_32 => ?_)
        ·
          have hg := of_decide_eq_false (bz_f hz_29 c_32)
          rw [w4, w5, w6, w7] at hg
          have hr9 : (i : Int) = (ray (σ 0) f t).2 := by rw [← hr, show 22 - i = (21 - i) + 1 by omega]; simp only [ryH]; rw [if_neg hg]
          refine z_iload_n C 3 dX1_far_48 rfl ?_
          exact hret _ _ _ _ dX1_far_49 ⟨_, rfl, by exact hr9⟩
        ·
          have hg := of_decide_eq_true (bz_t hz_29 c_32)
          rw [w4, w5, w6, w7] at hg
          have hc := nix_c w8.1 w8.2 w9.1 w9.2 hg
          have hr1 := hr
          rw [show 22 - i = (22 - (i + 1)) + 1 by omega] at hr1
          simp only [ryH] at hr1
          rw [if_pos hg, show (i : Int) + 1 = ((i + 1 : Nat) : Int) by omega] at hr1
          refine z_aload_n C 0 dX1_far_35 rfl ?_
          refine z_get C (v := .ref (h 8)) (ref := "ShadowWalls") (T := TX1) (N := 11) (ci := 1) 0 7 inU_X1_X1_far rfl rfl (by decide) (by decide +kernel) (fun _ h9 => h9) rfl dX1_far_36 ?_
          refine z_callVv C (As := []) (st := []) (y := yX0_step) (w := wsX0_step) (rm := rm_X0_step) (wr := [(h 0, .inr (1, [.ref (h 1), .ref (h 2), .ref (h 3), .ref (h 4), .ref (h 5), .ref (h 6), .ref (h 7), .ref (h 8), vI (σ 4 0), vI (σ 4 1), vI (σ 4 2)])), (h 1, ri cI 144 (σ 0)), (h 2, ri cI 4 (σ 1)), (h 3, ri cI 4 (σ 2)), (h 4, ri cI 6 (σ 3)), (h 5, ri cI 144 LT), (h 6, ri cI 144 (γ 0)), (h 7, ri cI 144 (γ 1))]) (k' := 0) (n' := 0) [8] [0, 1, 2, 3, 4, 5, 6, 7] 8 (c_X0_step l D cI cJ (h 8) φ1  (by omega) (by omega) (by omega) (by omega)) (cwV 0 C.1.2.2.2.2 gX1_far_X0_step rfl rfl rfl (by decide +kernel) ⟨Nat.le_of_ble_eq_true rfl, Nat.le_of_ble_eq_true rfl⟩) rfl rfl rfl rfl rfl (by decide) rfl rfl rfl rfl (Nat.le_of_ble_eq_true rfl) rfl rfl ⟨Nat.le_of_ble_eq_true rfl, Nat.le_of_ble_eq_true rfl⟩ dX1_far_39 ?_
          rintro _ ⟨φ'_39, rfl, f0_39, f1_39, f2_39, f3_39, f4_39, f5_39, f6_39, f7_39, f8_39⟩
          refine z_ws (ws' := (cw cI h σ LT γ φ'_39)) rfl ?_
          have hw1 := way_s hw hg f0_39 f1_39 f2_39 f3_39 f4_39 f5_39 f6_39 f7_39
          refine z_iinc C 3 [(3, vI ((i : Int) + 1)), (0, .ref (h 0)), (1, vI f), (2, vI t)] dX1_far_42 rfl (by decide) rfl ?_
          refine z_goto C (tgt := 19) dX1_far_45 (by decide) ?_
          refine z_chg 0 (x' := ((i + 1 : Nat) : Int)) (lv' := [(3, vI ((i + 1 : Nat) : Int)), (0, .ref (h 0)), (1, vI f), (2, vI t)]) rfl (by omega) rfl ?_
          refine z_sub (lv' := [(0, .ref (h 0)), (1, vI f), (2, vI t), (3, vI ((i + 1 : Nat) : Int))]) [1, 2, 3, 0] rfl ?_
          exact ih9 (i + 1) φ'_39 (nix (abZ (t % 12 - f % 12)) (abZ (t / 12 - f / 12)) ix iy) (niy (abZ (t % 12 - f % 12)) (abZ (t / 12 - f / 12)) ix iy) (nsv (σ 0) (f % 12) (f / 12) (sgZ (t % 12 - f % 12)) (sgZ (t / 12 - f / 12)) (abZ (t % 12 - f % 12)) (abZ (t / 12 - f / 12)) ix iy sv) (by omega) (by omega) hw1 hr1
  refine z_sub (lv' := [(0, .ref (h 0)), (1, vI f), (2, vI t), (3, vI 0)]) [1, 2, 3, 0] rfl ?_
  exact L_19 23 0 (wB f t) 0 0 0 (by omega) (by omega) (way_0 f t) rfl
