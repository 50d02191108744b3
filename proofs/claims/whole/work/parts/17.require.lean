theorem og_xIO : ∀ w' ∈ Cond.classLink RX1 221 xIO :: Cond.initialized xIO :: vx_atS RX1 225 xIO xNm, vx_ot w' = true := by decide +kernel
theorem og_xIA : ∀ w' ∈ Cond.classLink RX1 228 xIA :: Cond.initialized xIA :: vx_atS RX1 232 xIA xNm, vx_ot w' = true := by decide +kernel
theorem og_xIS : ∀ w' ∈ Cond.classLink RX1 67 xIS :: Cond.initialized xIS :: vx_atS RX1 71 xIS xNm, vx_ot w' = true := by decide +kernel
theorem hb_xIO : ∀ w' ∈ (vx_atS RX1 225 xIO xNm).filter (fun w => !goodWord w), w' ∈ oW := fun _ h => List.mem_append_left _ h
theorem hb_xIA : ∀ w' ∈ (vx_atS RX1 232 xIA xNm).filter (fun w => !goodWord w), w' ∈ oW := fun _ h => List.mem_append_right _ (List.mem_append_left _ h)
theorem hb_xIS : ∀ w' ∈ (vx_atS RX1 71 xIS xNm).filter (fun w => !goodWord w), w' ∈ oW := fun _ h => List.mem_append_right _ (List.mem_append_right _ h)
abbrev rm_X1_requirePlace : Room := { frames := 6, cells := 0, slots := 0, locals := 100 }
set_option maxHeartbeats 4000000 in
set_option maxRecDepth 100000 in
theorem c_X1_requirePlace (l : Launch) (D : va_G) (cI cJ : ClassId)  (x y : Int) (hk : (0 ≤ x ∧ x < 12) ∧ 0 ≤ y ∧ y < 12) : Cv l yX1_requirePlace wsX1_requirePlace rm_X1_requirePlace D [(cI, .int), (cJ, .long)] [vI x, vI y] [] (fun u => u = []) := by
  refine z_ofv (own := RX1) (cc := cX1_requirePlace) (maxL := 2) (lv := [(0, vI x), (1, vI y)]) (by decide) rfl rfl (Nat.le_of_ble_eq_true rfl) rfl ?_
  intro p e s m args below meth cd Q A C hret
  refine z_iload_n C 0 dX1_requirePlace_0 rfl ?_
  refine z_if_lt C (tgt := 20) dX1_requirePlace_1 (by decide) (by omega) (fun c_1 => ?_) (fun c_1 => ?_)
  ·
    exfalso; omega
  ·
    refine z_iload_n C 0 dX1_requirePlace_4 rfl ?_
    refine z_bipush C dX1_requirePlace_5 (by decide) ?_
    refine z_icmp_ge C (tgt := 20) dX1_requirePlace_7 (by decide) (by omega) (by omega) (fun c_7 => ?_) (fun c_7 => ?_)
    ·
      exfalso; omega
    ·
      refine z_iload_n C 1 dX1_requirePlace_10 rfl ?_
      refine z_if_lt C (tgt := 20) dX1_requirePlace_11 (by decide) (by omega) (fun c_11 => ?_) (fun c_11 => ?_)
      ·
        exfalso; omega
      ·
        refine z_iload_n C 1 dX1_requirePlace_14 rfl ?_
        refine z_bipush C dX1_requirePlace_15 (by decide) ?_
        refine z_icmp_lt C (tgt := 30) dX1_requirePlace_17 (by decide) (by omega) (by omega) (fun c_17 => ?_) (fun c_17 => ?_)
        ·
          exact hret _ _ _ dX1_requirePlace_30 rfl
        ·
          exfalso; omega

abbrev rx_X1_requirePlace : Room := { frames := 6, cells := 1, slots := 6, locals := 100 }
set_option maxHeartbeats 4000000 in
set_option maxRecDepth 100000 in
theorem x_X1_requirePlace (l : Launch) (D : va_G) (cI cJ : ClassId)  (x y : Int) (hr : rng x ∧ rng y) (hk : ¬ ((0 ≤ x ∧ x < 12) ∧ 0 ≤ y ∧ y < 12)) : Xt l yX1_requirePlace wsX1_requirePlace rx_X1_requirePlace D [(cI, .int), (cJ, .long)] [vI x, vI y] [] xIO (fun u : va_W => u = []) := by
  refine x_of (cc := cX1_requirePlace) (maxL := 2) (lv := [(0, vI x), (1, vI y)]) (by decide) rfl rfl (Nat.le_of_ble_eq_true rfl) rfl ?_
  intro p e s m args below meth cd Q A C hX hZo hthr
  refine z_iload_n C 0 dX1_requirePlace_0 rfl ?_
  refine z_if_lt C (tgt := 20) dX1_requirePlace_1 (by decide) (by omega) (fun c_1 => ?_) (fun c_1 => ?_)
  ·
    exact hthr _ _ _ _ _ _ 221 223 225 "x or y is not 0 to 11" rfl (by decide) (by decide) (by decide +kernel) (by decide +kernel) (by decide +kernel) hb_xIO (by decide +kernel) (by decide +kernel) og_xIO dX1_requirePlace_20 dX1_requirePlace_23 dX1_requirePlace_24 dX1_requirePlace_26 dX1_requirePlace_29 (by decide) (by decide) (by decide) (by decide)
  ·
    refine z_iload_n C 0 dX1_requirePlace_4 rfl ?_
    refine z_bipush C dX1_requirePlace_5 (by decide) ?_
    refine z_icmp_ge C (tgt := 20) dX1_requirePlace_7 (by decide) (by omega) (by omega) (fun c_7 => ?_) (fun c_7 => ?_)
    ·
      exact hthr _ _ _ _ _ _ 221 223 225 "x or y is not 0 to 11" rfl (by decide) (by decide) (by decide +kernel) (by decide +kernel) (by decide +kernel) hb_xIO (by decide +kernel) (by decide +kernel) og_xIO dX1_requirePlace_20 dX1_requirePlace_23 dX1_requirePlace_24 dX1_requirePlace_26 dX1_requirePlace_29 (by decide) (by decide) (by decide) (by decide)
    ·
      refine z_iload_n C 1 dX1_requirePlace_10 rfl ?_
      refine z_if_lt C (tgt := 20) dX1_requirePlace_11 (by decide) (by omega) (fun c_11 => ?_) (fun c_11 => ?_)
      ·
        exact hthr _ _ _ _ _ _ 221 223 225 "x or y is not 0 to 11" rfl (by decide) (by decide) (by decide +kernel) (by decide +kernel) (by decide +kernel) hb_xIO (by decide +kernel) (by decide +kernel) og_xIO dX1_requirePlace_20 dX1_requirePlace_23 dX1_requirePlace_24 dX1_requirePlace_26 dX1_requirePlace_29 (by decide) (by decide) (by decide) (by decide)
      ·
        refine z_iload_n C 1 dX1_requirePlace_14 rfl ?_
        refine z_bipush C dX1_requirePlace_15 (by decide) ?_
        refine z_icmp_lt C (tgt := 30) dX1_requirePlace_17 (by decide) (by omega) (by omega) (fun c_17 => ?_) (fun c_17 => ?_)
        ·
          exfalso; omega
        ·
          exact hthr _ _ _ _ _ _ 221 223 225 "x or y is not 0 to 11" rfl (by decide) (by decide) (by decide +kernel) (by decide +kernel) (by decide +kernel) hb_xIO (by decide +kernel) (by decide +kernel) og_xIO dX1_requirePlace_20 dX1_requirePlace_23 dX1_requirePlace_24 dX1_requirePlace_26 dX1_requirePlace_29 (by decide) (by decide) (by decide) (by decide)

abbrev rm_X1_requireCell : Room := { frames := 6, cells := 0, slots := 0, locals := 100 }
set_option maxHeartbeats 4000000 in
set_option maxRecDepth 100000 in
theorem c_X1_requireCell (l : Launch) (D : va_G) (cI cJ : ClassId)  (x : Int) (hk : 0 ≤ x ∧ x < 144) : Cv l yX1_requireCell wsX1_requireCell rm_X1_requireCell D [(cI, .int), (cJ, .long)] [vI x] [] (fun u => u = []) := by
  refine z_ofv (own := RX1) (cc := cX1_requireCell) (maxL := 1) (lv := [(0, vI x)]) (by decide) rfl rfl (Nat.le_of_ble_eq_true rfl) rfl ?_
  intro p e s m args below meth cd Q A C hret
  refine z_iload_n C 0 dX1_requireCell_0 rfl ?_
  refine z_if_lt C (tgt := 11) dX1_requireCell_1 (by decide) (by omega) (fun c_1 => ?_) (fun c_1 => ?_)
  ·
    exfalso; omega
  ·
    refine z_iload_n C 0 dX1_requireCell_4 rfl ?_
    refine z_sipush C dX1_requireCell_5 (by decide) ?_
    refine z_icmp_lt C (tgt := 21) dX1_requireCell_8 (by decide) (by omega) (by omega) (fun c_8 => ?_) (fun c_8 => ?_)
    ·
      exact hret _ _ _ dX1_requireCell_21 rfl
    ·
      exfalso; omega

abbrev rx_X1_requireCell : Room := { frames := 6, cells := 1, slots := 6, locals := 100 }
set_option maxHeartbeats 4000000 in
set_option maxRecDepth 100000 in
theorem x_X1_requireCell (l : Launch) (D : va_G) (cI cJ : ClassId)  (x : Int) (hr : rng x) (hk : ¬ (0 ≤ x ∧ x < 144)) : Xt l yX1_requireCell wsX1_requireCell rx_X1_requireCell D [(cI, .int), (cJ, .long)] [vI x] [] xIO (fun u : va_W => u = []) := by
  refine x_of (cc := cX1_requireCell) (maxL := 1) (lv := [(0, vI x)]) (by decide) rfl rfl (Nat.le_of_ble_eq_true rfl) rfl ?_
  intro p e s m args below meth cd Q A C hX hZo hthr
  refine z_iload_n C 0 dX1_requireCell_0 rfl ?_
  refine z_if_lt C (tgt := 11) dX1_requireCell_1 (by decide) (by omega) (fun c_1 => ?_) (fun c_1 => ?_)
  ·
    exact hthr _ _ _ _ _ _ 221 226 225 "a cell is not 0 to 143" rfl (by decide) (by decide) (by decide +kernel) (by decide +kernel) (by decide +kernel) hb_xIO (by decide +kernel) (by decide +kernel) og_xIO dX1_requireCell_11 dX1_requireCell_14 dX1_requireCell_15 dX1_requireCell_17 dX1_requireCell_20 (by decide) (by decide) (by decide) (by decide)
  ·
    refine z_iload_n C 0 dX1_requireCell_4 rfl ?_
    refine z_sipush C dX1_requireCell_5 (by decide) ?_
    refine z_icmp_lt C (tgt := 21) dX1_requireCell_8 (by decide) (by omega) (by omega) (fun c_8 => ?_) (fun c_8 => ?_)
    ·
      exfalso; omega
    ·
      exact hthr _ _ _ _ _ _ 221 226 225 "a cell is not 0 to 143" rfl (by decide) (by decide) (by decide +kernel) (by decide +kernel) (by decide +kernel) hb_xIO (by decide +kernel) (by decide +kernel) og_xIO dX1_requireCell_11 dX1_requireCell_14 dX1_requireCell_15 dX1_requireCell_17 dX1_requireCell_20 (by decide) (by decide) (by decide) (by decide)

abbrev rm_X1_requireKind : Room := { frames := 6, cells := 0, slots := 0, locals := 100 }
set_option maxHeartbeats 4000000 in
set_option maxRecDepth 100000 in
theorem c_X1_requireKind (l : Launch) (D : va_G) (cI cJ : ClassId)  (x : Int) (hk : 0 ≤ x ∧ x < 4) : Cv l yX1_requireKind wsX1_requireKind rm_X1_requireKind D [(cI, .int), (cJ, .long)] [vI x] [] (fun u => u = []) := by
  refine z_ofv (own := RX1) (cc := cX1_requireKind) (maxL := 1) (lv := [(0, vI x)]) (by decide) rfl rfl (Nat.le_of_ble_eq_true rfl) rfl ?_
  intro p e s m args below meth cd Q A C hret
  refine z_iload_n C 0 dX1_requireKind_0 rfl ?_
  refine z_if_lt C (tgt := 9) dX1_requireKind_1 (by decide) (by omega) (fun c_1 => ?_) (fun c_1 => ?_)
  ·
    exfalso; omega
  ·
    refine z_iload_n C 0 dX1_requireKind_4 rfl ?_
    refine z_iconst C dX1_requireKind_5 ?_
    refine z_icmp_le C (tgt := 19) dX1_requireKind_6 (by decide) (by omega) (by omega) (fun c_6 => ?_) (fun c_6 => ?_)
    ·
      exact hret _ _ _ dX1_requireKind_19 rfl
    ·
      exfalso; omega

abbrev rx_X1_requireKind : Room := { frames := 6, cells := 1, slots := 6, locals := 100 }
set_option maxHeartbeats 4000000 in
set_option maxRecDepth 100000 in
theorem x_X1_requireKind (l : Launch) (D : va_G) (cI cJ : ClassId)  (x : Int) (hr : rng x) (hk : ¬ (0 ≤ x ∧ x < 4)) : Xt l yX1_requireKind wsX1_requireKind rx_X1_requireKind D [(cI, .int), (cJ, .long)] [vI x] [] xIA (fun u : va_W => u = []) := by
  refine x_of (cc := cX1_requireKind) (maxL := 1) (lv := [(0, vI x)]) (by decide) rfl rfl (Nat.le_of_ble_eq_true rfl) rfl ?_
  intro p e s m args below meth cd Q A C hX hZo hthr
  refine z_iload_n C 0 dX1_requireKind_0 rfl ?_
  refine z_if_lt C (tgt := 9) dX1_requireKind_1 (by decide) (by omega) (fun c_1 => ?_) (fun c_1 => ?_)
  ·
    exact hthr _ _ _ _ _ _ 228 230 232 "kind is not 0 to 3" rfl (by decide) (by decide) (by decide +kernel) (by decide +kernel) (by decide +kernel) hb_xIA (by decide +kernel) (by decide +kernel) og_xIA dX1_requireKind_9 dX1_requireKind_12 dX1_requireKind_13 dX1_requireKind_15 dX1_requireKind_18 (by decide) (by decide) (by decide) (by decide)
  ·
    refine z_iload_n C 0 dX1_requireKind_4 rfl ?_
    refine z_iconst C dX1_requireKind_5 ?_
    refine z_icmp_le C (tgt := 19) dX1_requireKind_6 (by decide) (by omega) (by omega) (fun c_6 => ?_) (fun c_6 => ?_)
    ·
      exfalso; omega
    ·
      exact hthr _ _ _ _ _ _ 228 230 232 "kind is not 0 to 3" rfl (by decide) (by decide) (by decide +kernel) (by decide +kernel) (by decide +kernel) hb_xIA (by decide +kernel) (by decide +kernel) og_xIA dX1_requireKind_9 dX1_requireKind_12 dX1_requireKind_13 dX1_requireKind_15 dX1_requireKind_18 (by decide) (by decide) (by decide) (by decide)

abbrev rm_X1_requireReach : Room := { frames := 6, cells := 0, slots := 0, locals := 100 }
set_option maxHeartbeats 4000000 in
set_option maxRecDepth 100000 in
theorem c_X1_requireReach (l : Launch) (D : va_G) (cI cJ : ClassId)  (x : Int) (hk : 1 ≤ x ∧ x < 13) : Cv l yX1_requireReach wsX1_requireReach rm_X1_requireReach D [(cI, .int), (cJ, .long)] [vI x] [] (fun u => u = []) := by
  refine z_ofv (own := RX1) (cc := cX1_requireReach) (maxL := 1) (lv := [(0, vI x)]) (by decide) rfl rfl (Nat.le_of_ble_eq_true rfl) rfl ?_
  intro p e s m args below meth cd Q A C hret
  refine z_iload_n C 0 dX1_requireReach_0 rfl ?_
  refine z_iconst C dX1_requireReach_1 ?_
  refine z_icmp_lt C (tgt := 11) dX1_requireReach_2 (by decide) (by omega) (by omega) (fun c_2 => ?_) (fun c_2 => ?_)
  ·
    exfalso; omega
  ·
    refine z_iload_n C 0 dX1_requireReach_5 rfl ?_
    refine z_bipush C dX1_requireReach_6 (by decide) ?_
    refine z_icmp_le C (tgt := 21) dX1_requireReach_8 (by decide) (by omega) (by omega) (fun c_8 => ?_) (fun c_8 => ?_)
    ·
      exact hret _ _ _ dX1_requireReach_21 rfl
    ·
      exfalso; omega

abbrev rx_X1_requireReach : Room := { frames := 6, cells := 1, slots := 6, locals := 100 }
set_option maxHeartbeats 4000000 in
set_option maxRecDepth 100000 in
theorem x_X1_requireReach (l : Launch) (D : va_G) (cI cJ : ClassId)  (x : Int) (hr : rng x) (hk : ¬ (1 ≤ x ∧ x < 13)) : Xt l yX1_requireReach wsX1_requireReach rx_X1_requireReach D [(cI, .int), (cJ, .long)] [vI x] [] xIA (fun u : va_W => u = []) := by
  refine x_of (cc := cX1_requireReach) (maxL := 1) (lv := [(0, vI x)]) (by decide) rfl rfl (Nat.le_of_ble_eq_true rfl) rfl ?_
  intro p e s m args below meth cd Q A C hX hZo hthr
  refine z_iload_n C 0 dX1_requireReach_0 rfl ?_
  refine z_iconst C dX1_requireReach_1 ?_
  refine z_icmp_lt C (tgt := 11) dX1_requireReach_2 (by decide) (by omega) (by omega) (fun c_2 => ?_) (fun c_2 => ?_)
  ·
    exact hthr _ _ _ _ _ _ 228 233 232 "reach is not 1 to 12" rfl (by decide) (by decide) (by decide +kernel) (by decide +kernel) (by decide +kernel) hb_xIA (by decide +kernel) (by decide +kernel) og_xIA dX1_requireReach_11 dX1_requireReach_14 dX1_requireReach_15 dX1_requireReach_17 dX1_requireReach_20 (by decide) (by decide) (by decide) (by decide)
  ·
    refine z_iload_n C 0 dX1_requireReach_5 rfl ?_
    refine z_bipush C dX1_requireReach_6 (by decide) ?_
    refine z_icmp_le C (tgt := 21) dX1_requireReach_8 (by decide) (by omega) (by omega) (fun c_8 => ?_) (fun c_8 => ?_)
    ·
      exfalso; omega
    ·
      exact hthr _ _ _ _ _ _ 228 233 232 "reach is not 1 to 12" rfl (by decide) (by decide) (by decide +kernel) (by decide +kernel) (by decide +kernel) hb_xIA (by decide +kernel) (by decide +kernel) og_xIA dX1_requireReach_11 dX1_requireReach_14 dX1_requireReach_15 dX1_requireReach_17 dX1_requireReach_20 (by decide) (by decide) (by decide) (by decide)

abbrev rm_X1_requireWhat : Room := { frames := 6, cells := 0, slots := 0, locals := 100 }
set_option maxHeartbeats 4000000 in
set_option maxRecDepth 100000 in
theorem c_X1_requireWhat (l : Launch) (D : va_G) (cI cJ : ClassId)  (x y : Int) (hk : (0 ≤ x ∧ x ≤ y) ∧ 0 ≤ y ∧ y < 100) : Cv l yX1_requireWhat wsX1_requireWhat rm_X1_requireWhat D [(cI, .int), (cJ, .long)] [vI x, vI y] [] (fun u => u = []) := by
  refine z_ofv (own := RX1) (cc := cX1_requireWhat) (maxL := 2) (lv := [(0, vI x), (1, vI y)]) (by decide) rfl rfl (Nat.le_of_ble_eq_true rfl) rfl ?_
  intro p e s m args below meth cd Q A C hret
  refine z_iload_n C 0 dX1_requireWhat_0 rfl ?_
  refine z_if_lt C (tgt := 9) dX1_requireWhat_1 (by decide) (by omega) (fun c_1 => ?_) (fun c_1 => ?_)
  ·
    exfalso; omega
  ·
    refine z_iload_n C 0 dX1_requireWhat_4 rfl ?_
    refine z_iload_n C 1 dX1_requireWhat_5 rfl ?_
    refine z_icmp_le C (tgt := 19) dX1_requireWhat_6 (by decide) (by omega) (by omega) (fun c_6 => ?_) (fun c_6 => ?_)
    ·
      exact hret _ _ _ dX1_requireWhat_19 rfl
    ·
      exfalso; omega

abbrev rx_X1_requireWhat : Room := { frames := 6, cells := 1, slots := 6, locals := 100 }
set_option maxHeartbeats 4000000 in
set_option maxRecDepth 100000 in
theorem x_X1_requireWhat (l : Launch) (D : va_G) (cI cJ : ClassId)  (x y : Int) (hr : rng x ∧ 0 ≤ y ∧ y < 100) (hk : ¬ ((0 ≤ x ∧ x ≤ y) ∧ 0 ≤ y ∧ y < 100)) : Xt l yX1_requireWhat wsX1_requireWhat rx_X1_requireWhat D [(cI, .int), (cJ, .long)] [vI x, vI y] [] xIO (fun u : va_W => u = []) := by
  refine x_of (cc := cX1_requireWhat) (maxL := 2) (lv := [(0, vI x), (1, vI y)]) (by decide) rfl rfl (Nat.le_of_ble_eq_true rfl) rfl ?_
  intro p e s m args below meth cd Q A C hX hZo hthr
  refine z_iload_n C 0 dX1_requireWhat_0 rfl ?_
  refine z_if_lt C (tgt := 9) dX1_requireWhat_1 (by decide) (by omega) (fun c_1 => ?_) (fun c_1 => ?_)
  ·
    exact hthr _ _ _ _ _ _ 221 235 225 "what is not told" rfl (by decide) (by decide) (by decide +kernel) (by decide +kernel) (by decide +kernel) hb_xIO (by decide +kernel) (by decide +kernel) og_xIO dX1_requireWhat_9 dX1_requireWhat_12 dX1_requireWhat_13 dX1_requireWhat_15 dX1_requireWhat_18 (by decide) (by decide) (by decide) (by decide)
  ·
    refine z_iload_n C 0 dX1_requireWhat_4 rfl ?_
    refine z_iload_n C 1 dX1_requireWhat_5 rfl ?_
    refine z_icmp_le C (tgt := 19) dX1_requireWhat_6 (by decide) (by omega) (by omega) (fun c_6 => ?_) (fun c_6 => ?_)
    ·
      exfalso; omega
    ·
      exact hthr _ _ _ _ _ _ 221 235 225 "what is not told" rfl (by decide) (by decide) (by decide +kernel) (by decide +kernel) (by decide +kernel) hb_xIO (by decide +kernel) (by decide +kernel) og_xIO dX1_requireWhat_9 dX1_requireWhat_12 dX1_requireWhat_13 dX1_requireWhat_15 dX1_requireWhat_18 (by decide) (by decide) (by decide) (by decide)

set_option maxRecDepth 100000 in
theorem inU_X1_X1_requireLamp : ∀ w ∈ u_ws RX1 TX1 11, w ∈ wsX1_requireLamp := by decide +kernel
abbrev rm_X1_requireLamp : Room := { frames := 6, cells := 0, slots := 0, locals := 100 }
set_option maxHeartbeats 4000000 in
set_option maxRecDepth 100000 in
theorem c_X1_requireLamp (l : Launch) (D : va_G) (cI cJ : ClassId) (h : Nat → Nat) (σ : YS) (LT : Nat → Int) (γ : YS) (φ : Nat → Int) (k : Int) (hk : (0 ≤ k ∧ k < σ 4 0) ∧ 0 ≤ σ 4 0 ∧ σ 4 0 ≤ 4) : Cv l yX1_requireLamp wsX1_requireLamp rm_X1_requireLamp D [(cI, .int), (cJ, .long)] [.ref (h 0), vI k] (cw cI h σ LT γ φ) (fun u => u = (cw cI h σ LT γ φ)) := by
  refine z_ofv (own := RX1) (cc := cX1_requireLamp) (maxL := 2) (lv := [(0, .ref (h 0)), (1, vI k)]) (by decide) rfl rfl (Nat.le_of_ble_eq_true rfl) rfl ?_
  intro p e s m args below meth cd Q A C hret
  refine z_iload_n C 1 dX1_requireLamp_0 rfl ?_
  refine z_if_lt C (tgt := 12) dX1_requireLamp_1 (by decide) (by omega) (fun c_1 => ?_) (fun c_1 => ?_)
  ·
    exfalso; omega
  ·
    refine z_iload_n C 1 dX1_requireLamp_4 rfl ?_
    refine z_aload_n C 0 dX1_requireLamp_5 rfl ?_
    refine z_get C (v := vI (σ 4 0)) (ref := "ShadowWalls") (T := TX1) (N := 11) (ci := 1) 0 8 inU_X1_X1_requireLamp rfl rfl (by decide) (by decide +kernel) (fun _ h9 => h9) rfl dX1_requireLamp_6 ?_
    refine z_icmp_lt C (tgt := 22) dX1_requireLamp_9 (by decide) (by omega) (by omega) (fun c_9 => ?_) (fun c_9 => ?_)
    ·
      exact hret _ _ _ dX1_requireLamp_22 rfl
    ·
      exfalso; omega

abbrev rx_X1_requireLamp : Room := { frames := 6, cells := 1, slots := 6, locals := 100 }
set_option maxHeartbeats 4000000 in
set_option maxRecDepth 100000 in
theorem x_X1_requireLamp (l : Launch) (D : va_G) (cI cJ : ClassId) (h : Nat → Nat) (σ : YS) (LT : Nat → Int) (γ : YS) (φ : Nat → Int) (k : Int) (hr : rng k ∧ 0 ≤ σ 4 0 ∧ σ 4 0 ≤ 4) (hk : ¬ ((0 ≤ k ∧ k < σ 4 0) ∧ 0 ≤ σ 4 0 ∧ σ 4 0 ≤ 4)) : Xt l yX1_requireLamp wsX1_requireLamp rx_X1_requireLamp D [(cI, .int), (cJ, .long)] [.ref (h 0), vI k] (cw cI h σ LT γ φ) xIO (fun u : va_W => u = (cw cI h σ LT γ φ)) := by
  refine x_of (cc := cX1_requireLamp) (maxL := 2) (lv := [(0, .ref (h 0)), (1, vI k)]) (by decide) rfl rfl (Nat.le_of_ble_eq_true rfl) rfl ?_
  intro p e s m args below meth cd Q A C hX hZo hthr
  refine z_iload_n C 1 dX1_requireLamp_0 rfl ?_
  refine z_if_lt C (tgt := 12) dX1_requireLamp_1 (by decide) (by omega) (fun c_1 => ?_) (fun c_1 => ?_)
  ·
    exact hthr _ _ _ _ _ _ 221 237 225 "there is no such lamp" rfl (by decide) (by decide) (by decide +kernel) (by decide +kernel) (by decide +kernel) hb_xIO (by decide +kernel) (by decide +kernel) og_xIO dX1_requireLamp_12 dX1_requireLamp_15 dX1_requireLamp_16 dX1_requireLamp_18 dX1_requireLamp_21 (by decide) (by decide) (by decide) (by decide)
  ·
    refine z_iload_n C 1 dX1_requireLamp_4 rfl ?_
    refine z_aload_n C 0 dX1_requireLamp_5 rfl ?_
    refine z_get C (v := vI (σ 4 0)) (ref := "ShadowWalls") (T := TX1) (N := 11) (ci := 1) 0 8 inU_X1_X1_requireLamp rfl rfl (by decide) (by decide +kernel) (fun _ h9 => h9) rfl dX1_requireLamp_6 ?_
    refine z_icmp_lt C (tgt := 22) dX1_requireLamp_9 (by decide) (by omega) (by omega) (fun c_9 => ?_) (fun c_9 => ?_)
    ·
      exfalso; omega
    ·
      exact hthr _ _ _ _ _ _ 221 237 225 "there is no such lamp" rfl (by decide) (by decide) (by decide +kernel) (by decide +kernel) (by decide +kernel) hb_xIO (by decide +kernel) (by decide +kernel) og_xIO dX1_requireLamp_12 dX1_requireLamp_15 dX1_requireLamp_16 dX1_requireLamp_18 dX1_requireLamp_21 (by decide) (by decide) (by decide) (by decide)

set_option maxRecDepth 100000 in
theorem inU_X1_X1_requireWatcher : ∀ w ∈ u_ws RX1 TX1 11, w ∈ wsX1_requireWatcher := by decide +kernel
abbrev rm_X1_requireWatcher : Room := { frames := 6, cells := 0, slots := 0, locals := 100 }
set_option maxHeartbeats 4000000 in
set_option maxRecDepth 100000 in
theorem c_X1_requireWatcher (l : Launch) (D : va_G) (cI cJ : ClassId) (h : Nat → Nat) (σ : YS) (LT : Nat → Int) (γ : YS) (φ : Nat → Int) (k : Int) (hk : (0 ≤ k ∧ k < σ 4 1) ∧ 0 ≤ σ 4 1 ∧ σ 4 1 ≤ 6) : Cv l yX1_requireWatcher wsX1_requireWatcher rm_X1_requireWatcher D [(cI, .int), (cJ, .long)] [.ref (h 0), vI k] (cw cI h σ LT γ φ) (fun u => u = (cw cI h σ LT γ φ)) := by
  refine z_ofv (own := RX1) (cc := cX1_requireWatcher) (maxL := 2) (lv := [(0, .ref (h 0)), (1, vI k)]) (by decide) rfl rfl (Nat.le_of_ble_eq_true rfl) rfl ?_
  intro p e s m args below meth cd Q A C hret
  refine z_iload_n C 1 dX1_requireWatcher_0 rfl ?_
  refine z_if_lt C (tgt := 12) dX1_requireWatcher_1 (by decide) (by omega) (fun c_1 => ?_) (fun c_1 => ?_)
  ·
    exfalso; omega
  ·
    refine z_iload_n C 1 dX1_requireWatcher_4 rfl ?_
    refine z_aload_n C 0 dX1_requireWatcher_5 rfl ?_
    refine z_get C (v := vI (σ 4 1)) (ref := "ShadowWalls") (T := TX1) (N := 11) (ci := 1) 0 9 inU_X1_X1_requireWatcher rfl rfl (by decide) (by decide +kernel) (fun _ h9 => h9) rfl dX1_requireWatcher_6 ?_
    refine z_icmp_lt C (tgt := 22) dX1_requireWatcher_9 (by decide) (by omega) (by omega) (fun c_9 => ?_) (fun c_9 => ?_)
    ·
      exact hret _ _ _ dX1_requireWatcher_22 rfl
    ·
      exfalso; omega

abbrev rx_X1_requireWatcher : Room := { frames := 6, cells := 1, slots := 6, locals := 100 }
set_option maxHeartbeats 4000000 in
set_option maxRecDepth 100000 in
theorem x_X1_requireWatcher (l : Launch) (D : va_G) (cI cJ : ClassId) (h : Nat → Nat) (σ : YS) (LT : Nat → Int) (γ : YS) (φ : Nat → Int) (k : Int) (hr : rng k ∧ 0 ≤ σ 4 1 ∧ σ 4 1 ≤ 6) (hk : ¬ ((0 ≤ k ∧ k < σ 4 1) ∧ 0 ≤ σ 4 1 ∧ σ 4 1 ≤ 6)) : Xt l yX1_requireWatcher wsX1_requireWatcher rx_X1_requireWatcher D [(cI, .int), (cJ, .long)] [.ref (h 0), vI k] (cw cI h σ LT γ φ) xIO (fun u : va_W => u = (cw cI h σ LT γ φ)) := by
  refine x_of (cc := cX1_requireWatcher) (maxL := 2) (lv := [(0, .ref (h 0)), (1, vI k)]) (by decide) rfl rfl (Nat.le_of_ble_eq_true rfl) rfl ?_
  intro p e s m args below meth cd Q A C hX hZo hthr
  refine z_iload_n C 1 dX1_requireWatcher_0 rfl ?_
  refine z_if_lt C (tgt := 12) dX1_requireWatcher_1 (by decide) (by omega) (fun c_1 => ?_) (fun c_1 => ?_)
  ·
    exact hthr _ _ _ _ _ _ 221 239 225 "there is no such watcher" rfl (by decide) (by decide) (by decide +kernel) (by decide +kernel) (by decide +kernel) hb_xIO (by decide +kernel) (by decide +kernel) og_xIO dX1_requireWatcher_12 dX1_requireWatcher_15 dX1_requireWatcher_16 dX1_requireWatcher_18 dX1_requireWatcher_21 (by decide) (by decide) (by decide) (by decide)
  ·
    refine z_iload_n C 1 dX1_requireWatcher_4 rfl ?_
    refine z_aload_n C 0 dX1_requireWatcher_5 rfl ?_
    refine z_get C (v := vI (σ 4 1)) (ref := "ShadowWalls") (T := TX1) (N := 11) (ci := 1) 0 9 inU_X1_X1_requireWatcher rfl rfl (by decide) (by decide +kernel) (fun _ h9 => h9) rfl dX1_requireWatcher_6 ?_
    refine z_icmp_lt C (tgt := 22) dX1_requireWatcher_9 (by decide) (by omega) (by omega) (fun c_9 => ?_) (fun c_9 => ?_)
    ·
      exfalso; omega
    ·
      exact hthr _ _ _ _ _ _ 221 239 225 "there is no such watcher" rfl (by decide) (by decide) (by decide +kernel) (by decide +kernel) (by decide +kernel) hb_xIO (by decide +kernel) (by decide +kernel) og_xIO dX1_requireWatcher_12 dX1_requireWatcher_15 dX1_requireWatcher_16 dX1_requireWatcher_18 dX1_requireWatcher_21 (by decide) (by decide) (by decide) (by decide)
