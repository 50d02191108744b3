abbrev rmL_set : Room := { frames := 8, cells := 0, slots := 0, locals := 165 }
set_option maxHeartbeats 4000000 in
set_option maxRecDepth 100000 in
theorem w_L_set (l : Launch) (D : va_G) (cI cJ : ClassId) (h : Nat → Nat) (σ : YS) (LT : Nat → Int) (γ : YS) (φ : Nat → Int) (x y kd : Int) (hx : 0 ≤ x ∧ x < 12) (hy : 0 ≤ y ∧ y < 12) (hk : 0 ≤ kd ∧ kd < 4) (hO : Ok σ) (hL : LR LT) (ao : Nat) (fo : Nat → Int64) : Cw l yL_set wsL_set rmL_set D [(cI, .int), (cJ, .long)] [.ref (h 0), vI x, vI y, vI kd, .ref ao] ((ao, lo cJ fo) :: (cw cI h σ LT γ φ)) (fun z u => ∃ f' : Nat → Int64, ∃ φ' : Nat → Int, u = ((ao, lo cJ f') :: (cw cI h (sU σ 0 (12 * y + x).toNat kd) (shA (sU σ 0 (12 * y + x).toNat kd) LT (nLa (sU σ 0 (12 * y + x).toNat kd))) γ φ')) ∧ z = 0 ∧ f' 0 = (iI (σ 0 (12 * y + x).toNat)).toInt64) := by
  refine w_of (own := RL) (cc := cL_set) (maxL := 6) (lv := [(0, .ref (h 0)), (1, vI x), (2, vI y), (3, vI kd), (4, .ref ao)]) (by decide) rfl rfl (Nat.le_of_ble_eq_true rfl) rfl ?_
  intro p e s m args below meth cd Q A C hX hW9 htab hret
  refine z_aload C 4 dL_set_0 rfl ?_
  refine z_iconst C dL_set_2 ?_
  refine z_aload_n C 0 dL_set_3 rfl ?_
  refine z_iload_n C 1 dL_set_4 rfl ?_
  refine z_iload_n C 2 dL_set_5 rfl ?_
  refine z_iload_n C 3 dL_set_6 rfl ?_
  refine z_callVi C (As := [vI x, vI y, vI kd]) (st := [vI 0, .ref ao]) (y := yX1_set) (w := wsX1_set) (rm := rm_X1_set) (wr := [(ao, lo cJ fo)]) (k' := 0) (n' := 0) [1, 2, 3, 4, 5, 6, 7, 8, 9] [0] 1 (c_X1_set l D cI cJ h σ LT γ φ x y kd hx hy hk hO hL) (cwV 3 C.1.2.2.2.2 gL_set_X1_set rfl rfl rfl (by decide +kernel) ⟨Nat.le_of_ble_eq_true rfl, Nat.le_of_ble_eq_true rfl⟩) rfl rfl rfl rfl rfl (by decide) rfl rfl rfl rfl (Nat.le_of_ble_eq_true rfl) rfl rfl ⟨Nat.le_of_ble_eq_true rfl, Nat.le_of_ble_eq_true rfl⟩ dL_set_7 ?_
  rintro z_7 _ ⟨φ'_7, rfl, hz_7⟩
  refine z_ws (ws' := ((ao, lo cJ fo) :: (cw cI h (sU σ 0 (12 * y + x).toNat kd) (shA (sU σ 0 (12 * y + x).toNat kd) LT (nLa (sU σ 0 (12 * y + x).toNat kd))) γ φ'_7))) rfl ?_
  have hz_7 : z_7 = σ 0 (12 * y + x).toNat := hz_7
  refine z_i2l C dL_set_10 ?_
  refine z_last C 0 1 rfl rfl dL_set_11 (fun f' hf' => ?_)
  refine z_ws (ws' := ((ao, lo cJ f') :: (cw cI h (sU σ 0 (12 * y + x).toNat kd) (shA (sU σ 0 (12 * y + x).toNat kd) LT (nLa (sU σ 0 (12 * y + x).toNat kd))) γ φ'_7))) rfl ?_
  refine z_goto C (tgt := 23) dL_set_12 (by decide) ?_
  refine z_iconst C dL_set_23 ?_
  exact hret _ _ _ _ dL_set_24 ⟨f', _, rfl, rfl, by rw [hf', hz_7]⟩

abbrev rxL_set : Room := { frames := 8, cells := 1, slots := 6, locals := 165 }
set_option maxHeartbeats 4000000 in
set_option maxRecDepth 100000 in
theorem wx_L_set (l : Launch) (D : va_G) (cI cJ : ClassId) (h : Nat → Nat) (σ : YS) (LT : Nat → Int) (γ : YS) (φ : Nat → Int) (x y kd : Int) (hr : rng x ∧ rng y ∧ rng kd) (hb : ¬ ((0 ≤ x ∧ x < 12) ∧ 0 ≤ y ∧ y < 12)) (ao : Nat) (fo : Nat → Int64) : Cw l yL_set wsL_set rxL_set D [(cI, .int), (cJ, .long)] [.ref (h 0), vI x, vI y, vI kd, .ref ao] ((ao, lo cJ fo) :: (cw cI h σ LT γ φ)) (fun z u => u = ((ao, lo cJ fo) :: (cw cI h σ LT γ φ)) ∧ z = 1) := by
  refine w_of (own := RL) (cc := cL_set) (maxL := 6) (lv := [(0, .ref (h 0)), (1, vI x), (2, vI y), (3, vI kd), (4, .ref ao)]) (by decide) rfl rfl (Nat.le_of_ble_eq_true rfl) rfl ?_
  intro p e s m args below meth cd Q A C hX hW9 htab hret
  refine z_aload C 4 dL_set_0 rfl ?_
  refine z_iconst C dL_set_2 ?_
  refine z_aload_n C 0 dL_set_3 rfl ?_
  refine z_iload_n C 1 dL_set_4 rfl ?_
  refine z_iload_n C 2 dL_set_5 rfl ?_
  refine z_iload_n C 3 dL_set_6 rfl ?_
  refine x_callV C hX (As := [vI x, vI y, vI kd]) (st := [vI 0, .ref ao]) (y := yX1_set) (w := wsX1_set) (rm := rx_X1_set) (wr := [(ao, lo cJ fo)]) (k' := 1) (n' := 6) [1, 2, 3, 4, 5, 6, 7, 8, 9] [0] 1 (x_X1_set l D cI cJ h σ LT γ φ x y kd hr hb) (cwV 3 C.1.2.2.2.2 gL_set_X1_set rfl rfl rfl (by decide +kernel) ⟨Nat.le_of_ble_eq_true rfl, Nat.le_of_ble_eq_true rfl⟩) rfl rfl rfl rfl rfl (by decide) rfl rfl rfl rfl (Nat.le_of_ble_eq_true rfl) rfl rfl ⟨Nat.le_of_ble_eq_true rfl, Nat.le_of_ble_eq_true rfl⟩ dL_set_7 (fun u hu => ?_)
  obtain rfl := hu
  refine z_catch C (hW9.1 xIO (by simp)) [] _ _ htab (fun z9 hz9 => nomatch hz9) (by decide) (by decide) (by decide +kernel) (fun q9 => ?_)
  refine z_astore C _ dL_set_15 (by decide) rfl ?_
  refine z_iconst C dL_set_17 ?_
  exact hret _ _ _ _ dL_set_18 ⟨rfl, rfl⟩

set_option maxHeartbeats 4000000 in
set_option maxRecDepth 100000 in
theorem wbx_L_set (l : Launch) (D : va_G) (cI cJ : ClassId) (h : Nat → Nat) (σ : YS) (LT : Nat → Int) (γ : YS) (φ : Nat → Int) (x y kd : Int) (hr : rng x ∧ rng y ∧ rng kd) (hp : ((0 ≤ x ∧ x < 12) ∧ 0 ≤ y ∧ y < 12)) (hb : ¬ (0 ≤ kd ∧ kd < 4)) (ao : Nat) (fo : Nat → Int64) : Cw l yL_set wsL_set rxL_set D [(cI, .int), (cJ, .long)] [.ref (h 0), vI x, vI y, vI kd, .ref ao] ((ao, lo cJ fo) :: (cw cI h σ LT γ φ)) (fun z u => u = ((ao, lo cJ fo) :: (cw cI h σ LT γ φ)) ∧ z = 2) := by
  refine w_of (own := RL) (cc := cL_set) (maxL := 6) (lv := [(0, .ref (h 0)), (1, vI x), (2, vI y), (3, vI kd), (4, .ref ao)]) (by decide) rfl rfl (Nat.le_of_ble_eq_true rfl) rfl ?_
  intro p e s m args below meth cd Q A C hX hW9 htab hret
  refine z_aload C 4 dL_set_0 rfl ?_
  refine z_iconst C dL_set_2 ?_
  refine z_aload_n C 0 dL_set_3 rfl ?_
  refine z_iload_n C 1 dL_set_4 rfl ?_
  refine z_iload_n C 2 dL_set_5 rfl ?_
  refine z_iload_n C 3 dL_set_6 rfl ?_
  refine x_callV C hX (As := [vI x, vI y, vI kd]) (st := [vI 0, .ref ao]) (y := yX1_set) (w := wsX1_set) (rm := rxb_X1_set) (wr := [(ao, lo cJ fo)]) (k' := 1) (n' := 6) [1, 2, 3, 4, 5, 6, 7, 8, 9] [0] 1 (xb_X1_set l D cI cJ h σ LT γ φ x y kd hr hp hb) (cwV 3 C.1.2.2.2.2 gL_set_X1_set rfl rfl rfl (by decide +kernel) ⟨Nat.le_of_ble_eq_true rfl, Nat.le_of_ble_eq_true rfl⟩) rfl rfl rfl rfl rfl (by decide) rfl rfl rfl rfl (Nat.le_of_ble_eq_true rfl) rfl rfl ⟨Nat.le_of_ble_eq_true rfl, Nat.le_of_ble_eq_true rfl⟩ dL_set_7 (fun u hu => ?_)
  obtain rfl := hu
  refine z_catch C (hW9.1 xIA (by simp)) (tableOf [(0, 12, 15, 13)]) _ _ htab (fun z9 hz9 => (List.mem_cons.mp hz9).elim (fun h9 => h9 ▸ Or.inr ⟨by decide, xIO, C.1.2.2.2.2 _ (by decide +kernel), hW9.2 xIA (by simp) xIO (by simp) (by decide)⟩) (fun hz9 => nomatch hz9)) (by decide) (by decide) (by decide +kernel) (fun q9 => ?_)
  refine z_astore C _ dL_set_19 (by decide) rfl ?_
  refine z_iconst C dL_set_21 ?_
  exact hret _ _ _ _ dL_set_22 ⟨rfl, rfl⟩

abbrev rmL_lamp : Room := { frames := 8, cells := 0, slots := 0, locals := 146 }
set_option maxHeartbeats 4000000 in
set_option maxRecDepth 100000 in
theorem w_L_lamp (l : Launch) (D : va_G) (cI cJ : ClassId) (h : Nat → Nat) (σ : YS) (LT : Nat → Int) (γ : YS) (φ : Nat → Int) (x y r : Int) (hx : 0 ≤ x ∧ x < 12) (hy : 0 ≤ y ∧ y < 12) (hr : 1 ≤ r ∧ r < 13) (h4 : σ 4 0 < 4) (hla : lampB σ (12 * y + x) = false) (hO : Ok σ) (hL : LR LT) (ao : Nat) (fo : Nat → Int64) : Cw l yL_lamp wsL_lamp rmL_lamp D [(cI, .int), (cJ, .long)] [.ref (h 0), vI x, vI y, vI r, .ref ao] ((ao, lo cJ fo) :: (cw cI h σ LT γ φ)) (fun z u => ∃ f' : Nat → Int64, ∃ φ' : Nat → Int, u = ((ao, lo cJ f') :: (cw cI h (sU (sU (sU σ 1 (σ 4 0).toNat (12 * y + x)) 2 (σ 4 0).toNat r) 4 0 (σ 4 0 + 1)) (shL (sU (sU (sU σ 1 (σ 4 0).toNat (12 * y + x)) 2 (σ 4 0).toNat r) 4 0 (σ 4 0 + 1)) LT (σ 4 0).toNat 144) γ φ')) ∧ z = 0 ∧ f' 0 = (iI (σ 4 0)).toInt64) := by
  refine w_of (own := RL) (cc := cL_lamp) (maxL := 6) (lv := [(0, .ref (h 0)), (1, vI x), (2, vI y), (3, vI r), (4, .ref ao)]) (by decide) rfl rfl (Nat.le_of_ble_eq_true rfl) rfl ?_
  intro p e s m args below meth cd Q A C hX hW9 htab hret
  refine z_aload C 4 dL_lamp_0 rfl ?_
  refine z_iconst C dL_lamp_2 ?_
  refine z_aload_n C 0 dL_lamp_3 rfl ?_
  refine z_iload_n C 1 dL_lamp_4 rfl ?_
  refine z_iload_n C 2 dL_lamp_5 rfl ?_
  refine z_iload_n C 3 dL_lamp_6 rfl ?_
  refine z_callVi C (As := [vI x, vI y, vI r]) (st := [vI 0, .ref ao]) (y := yX1_lamp) (w := wsX1_lamp) (rm := rm_X1_lamp) (wr := [(ao, lo cJ fo)]) (k' := 0) (n' := 0) [1, 2, 3, 4, 5, 6, 7, 8, 9] [0] 1 (c_X1_lamp l D cI cJ h σ LT γ φ x y r hx hy hr h4 hla hO hL) (cwV 3 C.1.2.2.2.2 gL_lamp_X1_lamp rfl rfl rfl (by decide +kernel) ⟨Nat.le_of_ble_eq_true rfl, Nat.le_of_ble_eq_true rfl⟩) rfl rfl rfl rfl rfl (by decide) rfl rfl rfl rfl (Nat.le_of_ble_eq_true rfl) rfl rfl ⟨Nat.le_of_ble_eq_true rfl, Nat.le_of_ble_eq_true rfl⟩ dL_lamp_7 ?_
  rintro z_7 _ ⟨φ'_7, rfl, hz_7⟩
  refine z_ws (ws' := ((ao, lo cJ fo) :: (cw cI h (sU (sU (sU σ 1 (σ 4 0).toNat (12 * y + x)) 2 (σ 4 0).toNat r) 4 0 (σ 4 0 + 1)) (shL (sU (sU (sU σ 1 (σ 4 0).toNat (12 * y + x)) 2 (σ 4 0).toNat r) 4 0 (σ 4 0 + 1)) LT (σ 4 0).toNat 144) γ φ'_7))) rfl ?_
  have hz_7 : z_7 = σ 4 0 := hz_7
  refine z_i2l C dL_lamp_10 ?_
  refine z_last C 0 1 rfl rfl dL_lamp_11 (fun f' hf' => ?_)
  refine z_ws (ws' := ((ao, lo cJ f') :: (cw cI h (sU (sU (sU σ 1 (σ 4 0).toNat (12 * y + x)) 2 (σ 4 0).toNat r) 4 0 (σ 4 0 + 1)) (shL (sU (sU (sU σ 1 (σ 4 0).toNat (12 * y + x)) 2 (σ 4 0).toNat r) 4 0 (σ 4 0 + 1)) LT (σ 4 0).toNat 144) γ φ'_7))) rfl ?_
  refine z_goto C (tgt := 27) dL_lamp_12 (by decide) ?_
  refine z_iconst C dL_lamp_27 ?_
  exact hret _ _ _ _ dL_lamp_28 ⟨f', _, rfl, rfl, by rw [hf', hz_7]⟩

abbrev rxL_lamp : Room := { frames := 8, cells := 1, slots := 6, locals := 146 }
set_option maxHeartbeats 4000000 in
set_option maxRecDepth 100000 in
theorem wx_L_lamp (l : Launch) (D : va_G) (cI cJ : ClassId) (h : Nat → Nat) (σ : YS) (LT : Nat → Int) (γ : YS) (φ : Nat → Int) (x y r : Int) (hr : rng x ∧ rng y ∧ rng r) (hb : ¬ ((0 ≤ x ∧ x < 12) ∧ 0 ≤ y ∧ y < 12)) (ao : Nat) (fo : Nat → Int64) : Cw l yL_lamp wsL_lamp rxL_lamp D [(cI, .int), (cJ, .long)] [.ref (h 0), vI x, vI y, vI r, .ref ao] ((ao, lo cJ fo) :: (cw cI h σ LT γ φ)) (fun z u => u = ((ao, lo cJ fo) :: (cw cI h σ LT γ φ)) ∧ z = 1) := by
  refine w_of (own := RL) (cc := cL_lamp) (maxL := 6) (lv := [(0, .ref (h 0)), (1, vI x), (2, vI y), (3, vI r), (4, .ref ao)]) (by decide) rfl rfl (Nat.le_of_ble_eq_true rfl) rfl ?_
  intro p e s m args below meth cd Q A C hX hW9 htab hret
  refine z_aload C 4 dL_lamp_0 rfl ?_
  refine z_iconst C dL_lamp_2 ?_
  refine z_aload_n C 0 dL_lamp_3 rfl ?_
  refine z_iload_n C 1 dL_lamp_4 rfl ?_
  refine z_iload_n C 2 dL_lamp_5 rfl ?_
  refine z_iload_n C 3 dL_lamp_6 rfl ?_
  refine x_callV C hX (As := [vI x, vI y, vI r]) (st := [vI 0, .ref ao]) (y := yX1_lamp) (w := wsX1_lamp) (rm := rx_X1_lamp) (wr := [(ao, lo cJ fo)]) (k' := 1) (n' := 6) [1, 2, 3, 4, 5, 6, 7, 8, 9] [0] 1 (x_X1_lamp l D cI cJ h σ LT γ φ x y r hr hb) (cwV 3 C.1.2.2.2.2 gL_lamp_X1_lamp rfl rfl rfl (by decide +kernel) ⟨Nat.le_of_ble_eq_true rfl, Nat.le_of_ble_eq_true rfl⟩) rfl rfl rfl rfl rfl (by decide) rfl rfl rfl rfl (Nat.le_of_ble_eq_true rfl) rfl rfl ⟨Nat.le_of_ble_eq_true rfl, Nat.le_of_ble_eq_true rfl⟩ dL_lamp_7 (fun u hu => ?_)
  obtain rfl := hu
  refine z_catch C (hW9.1 xIO (by simp)) [] _ _ htab (fun z9 hz9 => nomatch hz9) (by decide) (by decide) (by decide +kernel) (fun q9 => ?_)
  refine z_astore C _ dL_lamp_15 (by decide) rfl ?_
  refine z_iconst C dL_lamp_17 ?_
  exact hret _ _ _ _ dL_lamp_18 ⟨rfl, rfl⟩

set_option maxHeartbeats 4000000 in
set_option maxRecDepth 100000 in
theorem wbx_L_lamp (l : Launch) (D : va_G) (cI cJ : ClassId) (h : Nat → Nat) (σ : YS) (LT : Nat → Int) (γ : YS) (φ : Nat → Int) (x y r : Int) (hr : rng x ∧ rng y ∧ rng r) (hp : ((0 ≤ x ∧ x < 12) ∧ 0 ≤ y ∧ y < 12)) (hb : ¬ (1 ≤ r ∧ r < 13)) (ao : Nat) (fo : Nat → Int64) : Cw l yL_lamp wsL_lamp rxL_lamp D [(cI, .int), (cJ, .long)] [.ref (h 0), vI x, vI y, vI r, .ref ao] ((ao, lo cJ fo) :: (cw cI h σ LT γ φ)) (fun z u => u = ((ao, lo cJ fo) :: (cw cI h σ LT γ φ)) ∧ z = 2) := by
  refine w_of (own := RL) (cc := cL_lamp) (maxL := 6) (lv := [(0, .ref (h 0)), (1, vI x), (2, vI y), (3, vI r), (4, .ref ao)]) (by decide) rfl rfl (Nat.le_of_ble_eq_true rfl) rfl ?_
  intro p e s m args below meth cd Q A C hX hW9 htab hret
  refine z_aload C 4 dL_lamp_0 rfl ?_
  refine z_iconst C dL_lamp_2 ?_
  refine z_aload_n C 0 dL_lamp_3 rfl ?_
  refine z_iload_n C 1 dL_lamp_4 rfl ?_
  refine z_iload_n C 2 dL_lamp_5 rfl ?_
  refine z_iload_n C 3 dL_lamp_6 rfl ?_
  refine x_callV C hX (As := [vI x, vI y, vI r]) (st := [vI 0, .ref ao]) (y := yX1_lamp) (w := wsX1_lamp) (rm := rxb_X1_lamp) (wr := [(ao, lo cJ fo)]) (k' := 1) (n' := 6) [1, 2, 3, 4, 5, 6, 7, 8, 9] [0] 1 (xb_X1_lamp l D cI cJ h σ LT γ φ x y r hr hp hb) (cwV 3 C.1.2.2.2.2 gL_lamp_X1_lamp rfl rfl rfl (by decide +kernel) ⟨Nat.le_of_ble_eq_true rfl, Nat.le_of_ble_eq_true rfl⟩) rfl rfl rfl rfl rfl (by decide) rfl rfl rfl rfl (Nat.le_of_ble_eq_true rfl) rfl rfl ⟨Nat.le_of_ble_eq_true rfl, Nat.le_of_ble_eq_true rfl⟩ dL_lamp_7 (fun u hu => ?_)
  obtain rfl := hu
  refine z_catch C (hW9.1 xIA (by simp)) (tableOf [(0, 12, 15, 13)]) _ _ htab (fun z9 hz9 => (List.mem_cons.mp hz9).elim (fun h9 => h9 ▸ Or.inr ⟨by decide, xIO, C.1.2.2.2.2 _ (by decide +kernel), hW9.2 xIA (by simp) xIO (by simp) (by decide)⟩) (fun hz9 => nomatch hz9)) (by decide) (by decide) (by decide +kernel) (fun q9 => ?_)
  refine z_astore C _ dL_lamp_19 (by decide) rfl ?_
  refine z_iconst C dL_lamp_21 ?_
  exact hret _ _ _ _ dL_lamp_22 ⟨rfl, rfl⟩

set_option maxHeartbeats 4000000 in
set_option maxRecDepth 100000 in
theorem wcx_L_lamp (l : Launch) (D : va_G) (cI cJ : ClassId) (h : Nat → Nat) (σ : YS) (LT : Nat → Int) (γ : YS) (φ : Nat → Int) (x y r : Int) (hr : rng x ∧ rng y ∧ rng r) (hp : ((0 ≤ x ∧ x < 12) ∧ 0 ≤ y ∧ y < 12)) (hp2 : 1 ≤ r ∧ r < 13) (hO : Ok σ) (hb : σ 4 0 = 4) (ao : Nat) (fo : Nat → Int64) : Cw l yL_lamp wsL_lamp rxL_lamp D [(cI, .int), (cJ, .long)] [.ref (h 0), vI x, vI y, vI r, .ref ao] ((ao, lo cJ fo) :: (cw cI h σ LT γ φ)) (fun z u => u = ((ao, lo cJ fo) :: (cw cI h σ LT γ φ)) ∧ z = 3) := by
  refine w_of (own := RL) (cc := cL_lamp) (maxL := 6) (lv := [(0, .ref (h 0)), (1, vI x), (2, vI y), (3, vI r), (4, .ref ao)]) (by decide) rfl rfl (Nat.le_of_ble_eq_true rfl) rfl ?_
  intro p e s m args below meth cd Q A C hX hW9 htab hret
  refine z_aload C 4 dL_lamp_0 rfl ?_
  refine z_iconst C dL_lamp_2 ?_
  refine z_aload_n C 0 dL_lamp_3 rfl ?_
  refine z_iload_n C 1 dL_lamp_4 rfl ?_
  refine z_iload_n C 2 dL_lamp_5 rfl ?_
  refine z_iload_n C 3 dL_lamp_6 rfl ?_
  refine x_callV C hX (As := [vI x, vI y, vI r]) (st := [vI 0, .ref ao]) (y := yX1_lamp) (w := wsX1_lamp) (rm := rxc_X1_lamp) (wr := [(ao, lo cJ fo)]) (k' := 1) (n' := 6) [1, 2, 3, 4, 5, 6, 7, 8, 9] [0] 1 (xc_X1_lamp l D cI cJ h σ LT γ φ x y r hr hp hp2 hO hb) (cwV 3 C.1.2.2.2.2 gL_lamp_X1_lamp rfl rfl rfl (by decide +kernel) ⟨Nat.le_of_ble_eq_true rfl, Nat.le_of_ble_eq_true rfl⟩) rfl rfl rfl rfl rfl (by decide) rfl rfl rfl rfl (Nat.le_of_ble_eq_true rfl) rfl rfl ⟨Nat.le_of_ble_eq_true rfl, Nat.le_of_ble_eq_true rfl⟩ dL_lamp_7 (fun u hu => ?_)
  obtain rfl := hu
  refine z_catch C (hW9.1 xIS (by simp)) (tableOf [(0, 12, 15, 13), (0, 12, 19, 15)]) _ _ htab (fun z9 hz9 => (List.mem_cons.mp hz9).elim (fun h9 => h9 ▸ Or.inr ⟨by decide, xIO, C.1.2.2.2.2 _ (by decide +kernel), hW9.2 xIS (by simp) xIO (by simp) (by decide)⟩) (fun hz9 => (List.mem_cons.mp hz9).elim (fun h9 => h9 ▸ Or.inr ⟨by decide, xIA, C.1.2.2.2.2 _ (by decide +kernel), hW9.2 xIS (by simp) xIA (by simp) (by decide)⟩) (fun hz9 => nomatch hz9))) (by decide) (by decide) (by decide +kernel) (fun q9 => ?_)
  refine z_astore C _ dL_lamp_23 (by decide) rfl ?_
  refine z_iconst C dL_lamp_25 ?_
  exact hret _ _ _ _ dL_lamp_26 ⟨rfl, rfl⟩

set_option maxHeartbeats 4000000 in
set_option maxRecDepth 100000 in
theorem wdx_L_lamp (l : Launch) (D : va_G) (cI cJ : ClassId) (h : Nat → Nat) (σ : YS) (LT : Nat → Int) (γ : YS) (φ : Nat → Int) (x y r : Int) (hr : rng x ∧ rng y ∧ rng r) (hp : ((0 ≤ x ∧ x < 12) ∧ 0 ≤ y ∧ y < 12)) (hp2 : 1 ≤ r ∧ r < 13) (hO : Ok σ) (h4 : σ 4 0 < 4) (hb : lampB σ (12 * y + x) = true) (ao : Nat) (fo : Nat → Int64) : Cw l yL_lamp wsL_lamp rxL_lamp D [(cI, .int), (cJ, .long)] [.ref (h 0), vI x, vI y, vI r, .ref ao] ((ao, lo cJ fo) :: (cw cI h σ LT γ φ)) (fun z u => u = ((ao, lo cJ fo) :: (cw cI h σ LT γ φ)) ∧ z = 3) := by
  refine w_of (own := RL) (cc := cL_lamp) (maxL := 6) (lv := [(0, .ref (h 0)), (1, vI x), (2, vI y), (3, vI r), (4, .ref ao)]) (by decide) rfl rfl (Nat.le_of_ble_eq_true rfl) rfl ?_
  intro p e s m args below meth cd Q A C hX hW9 htab hret
  refine z_aload C 4 dL_lamp_0 rfl ?_
  refine z_iconst C dL_lamp_2 ?_
  refine z_aload_n C 0 dL_lamp_3 rfl ?_
  refine z_iload_n C 1 dL_lamp_4 rfl ?_
  refine z_iload_n C 2 dL_lamp_5 rfl ?_
  refine z_iload_n C 3 dL_lamp_6 rfl ?_
  refine x_callV C hX (As := [vI x, vI y, vI r]) (st := [vI 0, .ref ao]) (y := yX1_lamp) (w := wsX1_lamp) (rm := rxd_X1_lamp) (wr := [(ao, lo cJ fo)]) (k' := 1) (n' := 6) [1, 2, 3, 4, 5, 6, 7, 8, 9] [0] 1 (xd_X1_lamp l D cI cJ h σ LT γ φ x y r hr hp hp2 hO h4 hb) (cwV 3 C.1.2.2.2.2 gL_lamp_X1_lamp rfl rfl rfl (by decide +kernel) ⟨Nat.le_of_ble_eq_true rfl, Nat.le_of_ble_eq_true rfl⟩) rfl rfl rfl rfl rfl (by decide) rfl rfl rfl rfl (Nat.le_of_ble_eq_true rfl) rfl rfl ⟨Nat.le_of_ble_eq_true rfl, Nat.le_of_ble_eq_true rfl⟩ dL_lamp_7 (fun u hu => ?_)
  obtain rfl := hu
  refine z_catch C (hW9.1 xIS (by simp)) (tableOf [(0, 12, 15, 13), (0, 12, 19, 15)]) _ _ htab (fun z9 hz9 => (List.mem_cons.mp hz9).elim (fun h9 => h9 ▸ Or.inr ⟨by decide, xIO, C.1.2.2.2.2 _ (by decide +kernel), hW9.2 xIS (by simp) xIO (by simp) (by decide)⟩) (fun hz9 => (List.mem_cons.mp hz9).elim (fun h9 => h9 ▸ Or.inr ⟨by decide, xIA, C.1.2.2.2.2 _ (by decide +kernel), hW9.2 xIS (by simp) xIA (by simp) (by decide)⟩) (fun hz9 => nomatch hz9))) (by decide) (by decide) (by decide +kernel) (fun q9 => ?_)
  refine z_astore C _ dL_lamp_23 (by decide) rfl ?_
  refine z_iconst C dL_lamp_25 ?_
  exact hret _ _ _ _ dL_lamp_26 ⟨rfl, rfl⟩

abbrev rmL_carry : Room := { frames := 8, cells := 0, slots := 0, locals := 145 }
set_option maxHeartbeats 4000000 in
set_option maxRecDepth 100000 in
theorem w_L_carry (l : Launch) (D : va_G) (cI cJ : ClassId) (h : Nat → Nat) (σ : YS) (LT : Nat → Int) (γ : YS) (φ : Nat → Int) (k x y : Int) (hk : 0 ≤ k ∧ k < σ 4 0) (hx : 0 ≤ x ∧ x < 12) (hy : 0 ≤ y ∧ y < 12) (hla : lampB σ (12 * y + x) = false) (hO : Ok σ) (hL : LR LT) (ao : Nat) (fo : Nat → Int64) : Cw l yL_carry wsL_carry rmL_carry D [(cI, .int), (cJ, .long)] [.ref (h 0), vI k, vI x, vI y, .ref ao] ((ao, lo cJ fo) :: (cw cI h σ LT γ φ)) (fun z u => ∃ f' : Nat → Int64, ∃ φ' : Nat → Int, u = ((ao, lo cJ f') :: (cw cI h (sU σ 1 k.toNat (12 * y + x)) (shL (sU σ 1 k.toNat (12 * y + x)) LT k.toNat 144) γ φ')) ∧ z = 0 ∧ f' 0 = (iI (litC (shL (sU σ 1 k.toNat (12 * y + x)) LT k.toNat 144))).toInt64) := by
  refine w_of (own := RL) (cc := cL_carry) (maxL := 6) (lv := [(0, .ref (h 0)), (1, vI k), (2, vI x), (3, vI y), (4, .ref ao)]) (by decide) rfl rfl (Nat.le_of_ble_eq_true rfl) rfl ?_
  intro p e s m args below meth cd Q A C hX hW9 htab hret
  refine z_aload C 4 dL_carry_0 rfl ?_
  refine z_iconst C dL_carry_2 ?_
  refine z_aload_n C 0 dL_carry_3 rfl ?_
  refine z_iload_n C 1 dL_carry_4 rfl ?_
  refine z_iload_n C 2 dL_carry_5 rfl ?_
  refine z_iload_n C 3 dL_carry_6 rfl ?_
  refine z_callVi C (As := [vI k, vI x, vI y]) (st := [vI 0, .ref ao]) (y := yX1_carry) (w := wsX1_carry) (rm := rm_X1_carry) (wr := [(ao, lo cJ fo)]) (k' := 0) (n' := 0) [1, 2, 3, 4, 5, 6, 7, 8, 9] [0] 1 (c_X1_carry l D cI cJ h σ LT γ φ k x y hk hx hy hla hO hL) (cwV 3 C.1.2.2.2.2 gL_carry_X1_carry rfl rfl rfl (by decide +kernel) ⟨Nat.le_of_ble_eq_true rfl, Nat.le_of_ble_eq_true rfl⟩) rfl rfl rfl rfl rfl (by decide) rfl rfl rfl rfl (Nat.le_of_ble_eq_true rfl) rfl rfl ⟨Nat.le_of_ble_eq_true rfl, Nat.le_of_ble_eq_true rfl⟩ dL_carry_7 ?_
  rintro z_7 _ ⟨φ'_7, rfl, hz_7⟩
  refine z_ws (ws' := ((ao, lo cJ fo) :: (cw cI h (sU σ 1 k.toNat (12 * y + x)) (shL (sU σ 1 k.toNat (12 * y + x)) LT k.toNat 144) γ φ'_7))) rfl ?_
  have hz_7 : z_7 = litC (shL (sU σ 1 k.toNat (12 * y + x)) LT k.toNat 144) := hz_7
  refine z_i2l C dL_carry_10 ?_
  refine z_last C 0 1 rfl rfl dL_carry_11 (fun f' hf' => ?_)
  refine z_ws (ws' := ((ao, lo cJ f') :: (cw cI h (sU σ 1 k.toNat (12 * y + x)) (shL (sU σ 1 k.toNat (12 * y + x)) LT k.toNat 144) γ φ'_7))) rfl ?_
  refine z_goto C (tgt := 23) dL_carry_12 (by decide) ?_
  refine z_iconst C dL_carry_23 ?_
  exact hret _ _ _ _ dL_carry_24 ⟨f', _, rfl, rfl, by rw [hf', hz_7]⟩

abbrev rxL_carry : Room := { frames := 8, cells := 1, slots := 6, locals := 145 }
set_option maxHeartbeats 4000000 in
set_option maxRecDepth 100000 in
theorem wx_L_carry (l : Launch) (D : va_G) (cI cJ : ClassId) (h : Nat → Nat) (σ : YS) (LT : Nat → Int) (γ : YS) (φ : Nat → Int) (k x y : Int) (hr : rng k ∧ rng x ∧ rng y) (hO : Ok σ) (hb : ¬ (0 ≤ k ∧ k < σ 4 0)) (ao : Nat) (fo : Nat → Int64) : Cw l yL_carry wsL_carry rxL_carry D [(cI, .int), (cJ, .long)] [.ref (h 0), vI k, vI x, vI y, .ref ao] ((ao, lo cJ fo) :: (cw cI h σ LT γ φ)) (fun z u => u = ((ao, lo cJ fo) :: (cw cI h σ LT γ φ)) ∧ z = 1) := by
  refine w_of (own := RL) (cc := cL_carry) (maxL := 6) (lv := [(0, .ref (h 0)), (1, vI k), (2, vI x), (3, vI y), (4, .ref ao)]) (by decide) rfl rfl (Nat.le_of_ble_eq_true rfl) rfl ?_
  intro p e s m args below meth cd Q A C hX hW9 htab hret
  refine z_aload C 4 dL_carry_0 rfl ?_
  refine z_iconst C dL_carry_2 ?_
  refine z_aload_n C 0 dL_carry_3 rfl ?_
  refine z_iload_n C 1 dL_carry_4 rfl ?_
  refine z_iload_n C 2 dL_carry_5 rfl ?_
  refine z_iload_n C 3 dL_carry_6 rfl ?_
  refine x_callV C hX (As := [vI k, vI x, vI y]) (st := [vI 0, .ref ao]) (y := yX1_carry) (w := wsX1_carry) (rm := rx_X1_carry) (wr := [(ao, lo cJ fo)]) (k' := 1) (n' := 6) [1, 2, 3, 4, 5, 6, 7, 8, 9] [0] 1 (x_X1_carry l D cI cJ h σ LT γ φ k x y hr hO hb) (cwV 3 C.1.2.2.2.2 gL_carry_X1_carry rfl rfl rfl (by decide +kernel) ⟨Nat.le_of_ble_eq_true rfl, Nat.le_of_ble_eq_true rfl⟩) rfl rfl rfl rfl rfl (by decide) rfl rfl rfl rfl (Nat.le_of_ble_eq_true rfl) rfl rfl ⟨Nat.le_of_ble_eq_true rfl, Nat.le_of_ble_eq_true rfl⟩ dL_carry_7 (fun u hu => ?_)
  obtain rfl := hu
  refine z_catch C (hW9.1 xIO (by simp)) [] _ _ htab (fun z9 hz9 => nomatch hz9) (by decide) (by decide) (by decide +kernel) (fun q9 => ?_)
  refine z_astore C _ dL_carry_15 (by decide) rfl ?_
  refine z_iconst C dL_carry_17 ?_
  exact hret _ _ _ _ dL_carry_18 ⟨rfl, rfl⟩

set_option maxHeartbeats 4000000 in
set_option maxRecDepth 100000 in
theorem wbx_L_carry (l : Launch) (D : va_G) (cI cJ : ClassId) (h : Nat → Nat) (σ : YS) (LT : Nat → Int) (γ : YS) (φ : Nat → Int) (k x y : Int) (hr : rng k ∧ rng x ∧ rng y) (hO : Ok σ) (hk : 0 ≤ k ∧ k < σ 4 0) (hb : ¬ ((0 ≤ x ∧ x < 12) ∧ 0 ≤ y ∧ y < 12)) (ao : Nat) (fo : Nat → Int64) : Cw l yL_carry wsL_carry rxL_carry D [(cI, .int), (cJ, .long)] [.ref (h 0), vI k, vI x, vI y, .ref ao] ((ao, lo cJ fo) :: (cw cI h σ LT γ φ)) (fun z u => u = ((ao, lo cJ fo) :: (cw cI h σ LT γ φ)) ∧ z = 1) := by
  refine w_of (own := RL) (cc := cL_carry) (maxL := 6) (lv := [(0, .ref (h 0)), (1, vI k), (2, vI x), (3, vI y), (4, .ref ao)]) (by decide) rfl rfl (Nat.le_of_ble_eq_true rfl) rfl ?_
  intro p e s m args below meth cd Q A C hX hW9 htab hret
  refine z_aload C 4 dL_carry_0 rfl ?_
  refine z_iconst C dL_carry_2 ?_
  refine z_aload_n C 0 dL_carry_3 rfl ?_
  refine z_iload_n C 1 dL_carry_4 rfl ?_
  refine z_iload_n C 2 dL_carry_5 rfl ?_
  refine z_iload_n C 3 dL_carry_6 rfl ?_
  refine x_callV C hX (As := [vI k, vI x, vI y]) (st := [vI 0, .ref ao]) (y := yX1_carry) (w := wsX1_carry) (rm := rxb_X1_carry) (wr := [(ao, lo cJ fo)]) (k' := 1) (n' := 6) [1, 2, 3, 4, 5, 6, 7, 8, 9] [0] 1 (xb_X1_carry l D cI cJ h σ LT γ φ k x y hr hO hk hb) (cwV 3 C.1.2.2.2.2 gL_carry_X1_carry rfl rfl rfl (by decide +kernel) ⟨Nat.le_of_ble_eq_true rfl, Nat.le_of_ble_eq_true rfl⟩) rfl rfl rfl rfl rfl (by decide) rfl rfl rfl rfl (Nat.le_of_ble_eq_true rfl) rfl rfl ⟨Nat.le_of_ble_eq_true rfl, Nat.le_of_ble_eq_true rfl⟩ dL_carry_7 (fun u hu => ?_)
  obtain rfl := hu
  refine z_catch C (hW9.1 xIO (by simp)) [] _ _ htab (fun z9 hz9 => nomatch hz9) (by decide) (by decide) (by decide +kernel) (fun q9 => ?_)
  refine z_astore C _ dL_carry_15 (by decide) rfl ?_
  refine z_iconst C dL_carry_17 ?_
  exact hret _ _ _ _ dL_carry_18 ⟨rfl, rfl⟩

set_option maxHeartbeats 4000000 in
set_option maxRecDepth 100000 in
theorem wcx_L_carry (l : Launch) (D : va_G) (cI cJ : ClassId) (h : Nat → Nat) (σ : YS) (LT : Nat → Int) (γ : YS) (φ : Nat → Int) (k x y : Int) (hr : rng k ∧ rng x ∧ rng y) (hO : Ok σ) (hk : 0 ≤ k ∧ k < σ 4 0) (hp : ((0 ≤ x ∧ x < 12) ∧ 0 ≤ y ∧ y < 12)) (hb : lampB σ (12 * y + x) = true) (ao : Nat) (fo : Nat → Int64) : Cw l yL_carry wsL_carry rxL_carry D [(cI, .int), (cJ, .long)] [.ref (h 0), vI k, vI x, vI y, .ref ao] ((ao, lo cJ fo) :: (cw cI h σ LT γ φ)) (fun z u => u = ((ao, lo cJ fo) :: (cw cI h σ LT γ φ)) ∧ z = 2) := by
  refine w_of (own := RL) (cc := cL_carry) (maxL := 6) (lv := [(0, .ref (h 0)), (1, vI k), (2, vI x), (3, vI y), (4, .ref ao)]) (by decide) rfl rfl (Nat.le_of_ble_eq_true rfl) rfl ?_
  intro p e s m args below meth cd Q A C hX hW9 htab hret
  refine z_aload C 4 dL_carry_0 rfl ?_
  refine z_iconst C dL_carry_2 ?_
  refine z_aload_n C 0 dL_carry_3 rfl ?_
  refine z_iload_n C 1 dL_carry_4 rfl ?_
  refine z_iload_n C 2 dL_carry_5 rfl ?_
  refine z_iload_n C 3 dL_carry_6 rfl ?_
  refine x_callV C hX (As := [vI k, vI x, vI y]) (st := [vI 0, .ref ao]) (y := yX1_carry) (w := wsX1_carry) (rm := rxc_X1_carry) (wr := [(ao, lo cJ fo)]) (k' := 1) (n' := 6) [1, 2, 3, 4, 5, 6, 7, 8, 9] [0] 1 (xc_X1_carry l D cI cJ h σ LT γ φ k x y hr hO hk hp hb) (cwV 3 C.1.2.2.2.2 gL_carry_X1_carry rfl rfl rfl (by decide +kernel) ⟨Nat.le_of_ble_eq_true rfl, Nat.le_of_ble_eq_true rfl⟩) rfl rfl rfl rfl rfl (by decide) rfl rfl rfl rfl (Nat.le_of_ble_eq_true rfl) rfl rfl ⟨Nat.le_of_ble_eq_true rfl, Nat.le_of_ble_eq_true rfl⟩ dL_carry_7 (fun u hu => ?_)
  obtain rfl := hu
  refine z_catch C (hW9.1 xIS (by simp)) (tableOf [(0, 12, 15, 13)]) _ _ htab (fun z9 hz9 => (List.mem_cons.mp hz9).elim (fun h9 => h9 ▸ Or.inr ⟨by decide, xIO, C.1.2.2.2.2 _ (by decide +kernel), hW9.2 xIS (by simp) xIO (by simp) (by decide)⟩) (fun hz9 => nomatch hz9)) (by decide) (by decide) (by decide +kernel) (fun q9 => ?_)
  refine z_astore C _ dL_carry_19 (by decide) rfl ?_
  refine z_iconst C dL_carry_21 ?_
  exact hret _ _ _ _ dL_carry_22 ⟨rfl, rfl⟩

abbrev rmL_turn : Room := { frames := 8, cells := 0, slots := 0, locals := 144 }
set_option maxHeartbeats 4000000 in
set_option maxRecDepth 100000 in
theorem w_L_turn (l : Launch) (D : va_G) (cI cJ : ClassId) (h : Nat → Nat) (σ : YS) (LT : Nat → Int) (γ : YS) (φ : Nat → Int) (k r : Int) (hk : 0 ≤ k ∧ k < σ 4 0) (hr : 1 ≤ r ∧ r < 13) (hO : Ok σ) (hL : LR LT) (ao : Nat) (fo : Nat → Int64) : Cw l yL_turn wsL_turn rmL_turn D [(cI, .int), (cJ, .long)] [.ref (h 0), vI k, vI r, .ref ao] ((ao, lo cJ fo) :: (cw cI h σ LT γ φ)) (fun z u => ∃ f' : Nat → Int64, ∃ φ' : Nat → Int, u = ((ao, lo cJ f') :: (cw cI h (sU σ 2 k.toNat r) (shL (sU σ 2 k.toNat r) LT k.toNat 144) γ φ')) ∧ z = 0 ∧ f' 0 = (iI (σ 2 k.toNat)).toInt64) := by
  refine w_of (own := RL) (cc := cL_turn) (maxL := 5) (lv := [(0, .ref (h 0)), (1, vI k), (2, vI r), (3, .ref ao)]) (by decide) rfl rfl (Nat.le_of_ble_eq_true rfl) rfl ?_
  intro p e s m args below meth cd Q A C hX hW9 htab hret
  refine z_aload_n C 3 dL_turn_0 rfl ?_
  refine z_iconst C dL_turn_1 ?_
  refine z_aload_n C 0 dL_turn_2 rfl ?_
  refine z_iload_n C 1 dL_turn_3 rfl ?_
  refine z_iload_n C 2 dL_turn_4 rfl ?_
  refine z_callVi C (As := [vI k, vI r]) (st := [vI 0, .ref ao]) (y := yX1_turn) (w := wsX1_turn) (rm := rm_X1_turn) (wr := [(ao, lo cJ fo)]) (k' := 0) (n' := 0) [1, 2, 3, 4, 5, 6, 7, 8, 9] [0] 1 (c_X1_turn l D cI cJ h σ LT γ φ k r hk hr hO hL) (cwV 2 C.1.2.2.2.2 gL_turn_X1_turn rfl rfl rfl (by decide +kernel) ⟨Nat.le_of_ble_eq_true rfl, Nat.le_of_ble_eq_true rfl⟩) rfl rfl rfl rfl rfl (by decide) rfl rfl rfl rfl (Nat.le_of_ble_eq_true rfl) rfl rfl ⟨Nat.le_of_ble_eq_true rfl, Nat.le_of_ble_eq_true rfl⟩ dL_turn_5 ?_
  rintro z_5 _ ⟨φ'_5, rfl, hz_5⟩
  refine z_ws (ws' := ((ao, lo cJ fo) :: (cw cI h (sU σ 2 k.toNat r) (shL (sU σ 2 k.toNat r) LT k.toNat 144) γ φ'_5))) rfl ?_
  have hz_5 : z_5 = σ 2 k.toNat := hz_5
  refine z_i2l C dL_turn_8 ?_
  refine z_last C 0 1 rfl rfl dL_turn_9 (fun f' hf' => ?_)
  refine z_ws (ws' := ((ao, lo cJ f') :: (cw cI h (sU σ 2 k.toNat r) (shL (sU σ 2 k.toNat r) LT k.toNat 144) γ φ'_5))) rfl ?_
  refine z_goto C (tgt := 21) dL_turn_10 (by decide) ?_
  refine z_iconst C dL_turn_21 ?_
  exact hret _ _ _ _ dL_turn_22 ⟨f', _, rfl, rfl, by rw [hf', hz_5]⟩

abbrev rxL_turn : Room := { frames := 8, cells := 1, slots := 6, locals := 144 }
set_option maxHeartbeats 4000000 in
set_option maxRecDepth 100000 in
theorem wx_L_turn (l : Launch) (D : va_G) (cI cJ : ClassId) (h : Nat → Nat) (σ : YS) (LT : Nat → Int) (γ : YS) (φ : Nat → Int) (k r : Int) (hr : rng k ∧ rng r) (hO : Ok σ) (hb : ¬ (0 ≤ k ∧ k < σ 4 0)) (ao : Nat) (fo : Nat → Int64) : Cw l yL_turn wsL_turn rxL_turn D [(cI, .int), (cJ, .long)] [.ref (h 0), vI k, vI r, .ref ao] ((ao, lo cJ fo) :: (cw cI h σ LT γ φ)) (fun z u => u = ((ao, lo cJ fo) :: (cw cI h σ LT γ φ)) ∧ z = 1) := by
  refine w_of (own := RL) (cc := cL_turn) (maxL := 5) (lv := [(0, .ref (h 0)), (1, vI k), (2, vI r), (3, .ref ao)]) (by decide) rfl rfl (Nat.le_of_ble_eq_true rfl) rfl ?_
  intro p e s m args below meth cd Q A C hX hW9 htab hret
  refine z_aload_n C 3 dL_turn_0 rfl ?_
  refine z_iconst C dL_turn_1 ?_
  refine z_aload_n C 0 dL_turn_2 rfl ?_
  refine z_iload_n C 1 dL_turn_3 rfl ?_
  refine z_iload_n C 2 dL_turn_4 rfl ?_
  refine x_callV C hX (As := [vI k, vI r]) (st := [vI 0, .ref ao]) (y := yX1_turn) (w := wsX1_turn) (rm := rx_X1_turn) (wr := [(ao, lo cJ fo)]) (k' := 1) (n' := 6) [1, 2, 3, 4, 5, 6, 7, 8, 9] [0] 1 (x_X1_turn l D cI cJ h σ LT γ φ k r hr hO hb) (cwV 2 C.1.2.2.2.2 gL_turn_X1_turn rfl rfl rfl (by decide +kernel) ⟨Nat.le_of_ble_eq_true rfl, Nat.le_of_ble_eq_true rfl⟩) rfl rfl rfl rfl rfl (by decide) rfl rfl rfl rfl (Nat.le_of_ble_eq_true rfl) rfl rfl ⟨Nat.le_of_ble_eq_true rfl, Nat.le_of_ble_eq_true rfl⟩ dL_turn_5 (fun u hu => ?_)
  obtain rfl := hu
  refine z_catch C (hW9.1 xIO (by simp)) [] _ _ htab (fun z9 hz9 => nomatch hz9) (by decide) (by decide) (by decide +kernel) (fun q9 => ?_)
  refine z_astore C _ dL_turn_13 (by decide) rfl ?_
  refine z_iconst C dL_turn_15 ?_
  exact hret _ _ _ _ dL_turn_16 ⟨rfl, rfl⟩

set_option maxHeartbeats 4000000 in
set_option maxRecDepth 100000 in
theorem wbx_L_turn (l : Launch) (D : va_G) (cI cJ : ClassId) (h : Nat → Nat) (σ : YS) (LT : Nat → Int) (γ : YS) (φ : Nat → Int) (k r : Int) (hr : rng k ∧ rng r) (hO : Ok σ) (hk : 0 ≤ k ∧ k < σ 4 0) (hb : ¬ (1 ≤ r ∧ r < 13)) (ao : Nat) (fo : Nat → Int64) : Cw l yL_turn wsL_turn rxL_turn D [(cI, .int), (cJ, .long)] [.ref (h 0), vI k, vI r, .ref ao] ((ao, lo cJ fo) :: (cw cI h σ LT γ φ)) (fun z u => u = ((ao, lo cJ fo) :: (cw cI h σ LT γ φ)) ∧ z = 2) := by
  refine w_of (own := RL) (cc := cL_turn) (maxL := 5) (lv := [(0, .ref (h 0)), (1, vI k), (2, vI r), (3, .ref ao)]) (by decide) rfl rfl (Nat.le_of_ble_eq_true rfl) rfl ?_
  intro p e s m args below meth cd Q A C hX hW9 htab hret
  refine z_aload_n C 3 dL_turn_0 rfl ?_
  refine z_iconst C dL_turn_1 ?_
  refine z_aload_n C 0 dL_turn_2 rfl ?_
  refine z_iload_n C 1 dL_turn_3 rfl ?_
  refine z_iload_n C 2 dL_turn_4 rfl ?_
  refine x_callV C hX (As := [vI k, vI r]) (st := [vI 0, .ref ao]) (y := yX1_turn) (w := wsX1_turn) (rm := rxb_X1_turn) (wr := [(ao, lo cJ fo)]) (k' := 1) (n' := 6) [1, 2, 3, 4, 5, 6, 7, 8, 9] [0] 1 (xb_X1_turn l D cI cJ h σ LT γ φ k r hr hO hk hb) (cwV 2 C.1.2.2.2.2 gL_turn_X1_turn rfl rfl rfl (by decide +kernel) ⟨Nat.le_of_ble_eq_true rfl, Nat.le_of_ble_eq_true rfl⟩) rfl rfl rfl rfl rfl (by decide) rfl rfl rfl rfl (Nat.le_of_ble_eq_true rfl) rfl rfl ⟨Nat.le_of_ble_eq_true rfl, Nat.le_of_ble_eq_true rfl⟩ dL_turn_5 (fun u hu => ?_)
  obtain rfl := hu
  refine z_catch C (hW9.1 xIA (by simp)) (tableOf [(0, 10, 13, 13)]) _ _ htab (fun z9 hz9 => (List.mem_cons.mp hz9).elim (fun h9 => h9 ▸ Or.inr ⟨by decide, xIO, C.1.2.2.2.2 _ (by decide +kernel), hW9.2 xIA (by simp) xIO (by simp) (by decide)⟩) (fun hz9 => nomatch hz9)) (by decide) (by decide) (by decide +kernel) (fun q9 => ?_)
  refine z_astore C _ dL_turn_17 (by decide) rfl ?_
  refine z_iconst C dL_turn_19 ?_
  exact hret _ _ _ _ dL_turn_20 ⟨rfl, rfl⟩

abbrev rmL_watcher : Room := { frames := 8, cells := 0, slots := 0, locals := 145 }
set_option maxHeartbeats 4000000 in
set_option maxRecDepth 100000 in
theorem w_L_watcher (l : Launch) (D : va_G) (cI cJ : ClassId) (h : Nat → Nat) (σ : YS) (LT : Nat → Int) (γ : YS) (φ : Nat → Int) (x y : Int) (hx : 0 ≤ x ∧ x < 12) (hy : 0 ≤ y ∧ y < 12) (h6 : σ 4 1 < 6) (h0 : σ 0 (12 * y + x).toNat = 0) (hO : Ok σ) (ao : Nat) (fo : Nat → Int64) : Cw l yL_watcher wsL_watcher rmL_watcher D [(cI, .int), (cJ, .long)] [.ref (h 0), vI x, vI y, .ref ao] ((ao, lo cJ fo) :: (cw cI h σ LT γ φ)) (fun z u => ∃ f' : Nat → Int64, u = ((ao, lo cJ f') :: (cw cI h (sU (sU σ 3 (σ 4 1).toNat (12 * y + x)) 4 1 (σ 4 1 + 1)) LT γ φ)) ∧ z = 0 ∧ f' 0 = (iI (σ 4 1)).toInt64) := by
  refine w_of (own := RL) (cc := cL_watcher) (maxL := 5) (lv := [(0, .ref (h 0)), (1, vI x), (2, vI y), (3, .ref ao)]) (by decide) rfl rfl (Nat.le_of_ble_eq_true rfl) rfl ?_
  intro p e s m args below meth cd Q A C hX hW9 htab hret
  refine z_aload_n C 3 dL_watcher_0 rfl ?_
  refine z_iconst C dL_watcher_1 ?_
  refine z_aload_n C 0 dL_watcher_2 rfl ?_
  refine z_iload_n C 1 dL_watcher_3 rfl ?_
  refine z_iload_n C 2 dL_watcher_4 rfl ?_
  refine z_callVi C (As := [vI x, vI y]) (st := [vI 0, .ref ao]) (y := yX1_watcher) (w := wsX1_watcher) (rm := rm_X1_watcher) (wr := [(ao, lo cJ fo)]) (k' := 0) (n' := 0) [1, 2, 3, 4, 5, 6, 7, 8, 9] [0] 1 (c_X1_watcher l D cI cJ h σ LT γ φ x y hx hy h6 h0 hO) (cwV 2 C.1.2.2.2.2 gL_watcher_X1_watcher rfl rfl rfl (by decide +kernel) ⟨Nat.le_of_ble_eq_true rfl, Nat.le_of_ble_eq_true rfl⟩) rfl rfl rfl rfl rfl (by decide) rfl rfl rfl rfl (Nat.le_of_ble_eq_true rfl) rfl rfl ⟨Nat.le_of_ble_eq_true rfl, Nat.le_of_ble_eq_true rfl⟩ dL_watcher_5 ?_
  rintro z_5 _ ⟨rfl, hz_5⟩
  refine z_ws (ws' := ((ao, lo cJ fo) :: (cw cI h (sU (sU σ 3 (σ 4 1).toNat (12 * y + x)) 4 1 (σ 4 1 + 1)) LT γ φ))) rfl ?_
  have hz_5 : z_5 = σ 4 1 := hz_5
  refine z_i2l C dL_watcher_8 ?_
  refine z_last C 0 1 rfl rfl dL_watcher_9 (fun f' hf' => ?_)
  refine z_ws (ws' := ((ao, lo cJ f') :: (cw cI h (sU (sU σ 3 (σ 4 1).toNat (12 * y + x)) 4 1 (σ 4 1 + 1)) LT γ φ))) rfl ?_
  refine z_goto C (tgt := 21) dL_watcher_10 (by decide) ?_
  refine z_iconst C dL_watcher_21 ?_
  exact hret _ _ _ _ dL_watcher_22 ⟨f', rfl, rfl, by rw [hf', hz_5]⟩

abbrev rxL_watcher : Room := { frames := 8, cells := 1, slots := 6, locals := 145 }
set_option maxHeartbeats 4000000 in
set_option maxRecDepth 100000 in
theorem wx_L_watcher (l : Launch) (D : va_G) (cI cJ : ClassId) (h : Nat → Nat) (σ : YS) (LT : Nat → Int) (γ : YS) (φ : Nat → Int) (x y : Int) (hr : rng x ∧ rng y) (hb : ¬ ((0 ≤ x ∧ x < 12) ∧ 0 ≤ y ∧ y < 12)) (ao : Nat) (fo : Nat → Int64) : Cw l yL_watcher wsL_watcher rxL_watcher D [(cI, .int), (cJ, .long)] [.ref (h 0), vI x, vI y, .ref ao] ((ao, lo cJ fo) :: (cw cI h σ LT γ φ)) (fun z u => u = ((ao, lo cJ fo) :: (cw cI h σ LT γ φ)) ∧ z = 1) := by
  refine w_of (own := RL) (cc := cL_watcher) (maxL := 5) (lv := [(0, .ref (h 0)), (1, vI x), (2, vI y), (3, .ref ao)]) (by decide) rfl rfl (Nat.le_of_ble_eq_true rfl) rfl ?_
  intro p e s m args below meth cd Q A C hX hW9 htab hret
  refine z_aload_n C 3 dL_watcher_0 rfl ?_
  refine z_iconst C dL_watcher_1 ?_
  refine z_aload_n C 0 dL_watcher_2 rfl ?_
  refine z_iload_n C 1 dL_watcher_3 rfl ?_
  refine z_iload_n C 2 dL_watcher_4 rfl ?_
  refine x_callV C hX (As := [vI x, vI y]) (st := [vI 0, .ref ao]) (y := yX1_watcher) (w := wsX1_watcher) (rm := rx_X1_watcher) (wr := [(ao, lo cJ fo)]) (k' := 1) (n' := 6) [1, 2, 3, 4, 5, 6, 7, 8, 9] [0] 1 (x_X1_watcher l D cI cJ h σ LT γ φ x y hr hb) (cwV 2 C.1.2.2.2.2 gL_watcher_X1_watcher rfl rfl rfl (by decide +kernel) ⟨Nat.le_of_ble_eq_true rfl, Nat.le_of_ble_eq_true rfl⟩) rfl rfl rfl rfl rfl (by decide) rfl rfl rfl rfl (Nat.le_of_ble_eq_true rfl) rfl rfl ⟨Nat.le_of_ble_eq_true rfl, Nat.le_of_ble_eq_true rfl⟩ dL_watcher_5 (fun u hu => ?_)
  obtain rfl := hu
  refine z_catch C (hW9.1 xIO (by simp)) [] _ _ htab (fun z9 hz9 => nomatch hz9) (by decide) (by decide) (by decide +kernel) (fun q9 => ?_)
  refine z_astore C _ dL_watcher_13 (by decide) rfl ?_
  refine z_iconst C dL_watcher_15 ?_
  exact hret _ _ _ _ dL_watcher_16 ⟨rfl, rfl⟩

set_option maxHeartbeats 4000000 in
set_option maxRecDepth 100000 in
theorem wbx_L_watcher (l : Launch) (D : va_G) (cI cJ : ClassId) (h : Nat → Nat) (σ : YS) (LT : Nat → Int) (γ : YS) (φ : Nat → Int) (x y : Int) (hr : rng x ∧ rng y) (hp : ((0 ≤ x ∧ x < 12) ∧ 0 ≤ y ∧ y < 12)) (hO : Ok σ) (hb : σ 4 1 = 6) (ao : Nat) (fo : Nat → Int64) : Cw l yL_watcher wsL_watcher rxL_watcher D [(cI, .int), (cJ, .long)] [.ref (h 0), vI x, vI y, .ref ao] ((ao, lo cJ fo) :: (cw cI h σ LT γ φ)) (fun z u => u = ((ao, lo cJ fo) :: (cw cI h σ LT γ φ)) ∧ z = 2) := by
  refine w_of (own := RL) (cc := cL_watcher) (maxL := 5) (lv := [(0, .ref (h 0)), (1, vI x), (2, vI y), (3, .ref ao)]) (by decide) rfl rfl (Nat.le_of_ble_eq_true rfl) rfl ?_
  intro p e s m args below meth cd Q A C hX hW9 htab hret
  refine z_aload_n C 3 dL_watcher_0 rfl ?_
  refine z_iconst C dL_watcher_1 ?_
  refine z_aload_n C 0 dL_watcher_2 rfl ?_
  refine z_iload_n C 1 dL_watcher_3 rfl ?_
  refine z_iload_n C 2 dL_watcher_4 rfl ?_
  refine x_callV C hX (As := [vI x, vI y]) (st := [vI 0, .ref ao]) (y := yX1_watcher) (w := wsX1_watcher) (rm := rxb_X1_watcher) (wr := [(ao, lo cJ fo)]) (k' := 1) (n' := 6) [1, 2, 3, 4, 5, 6, 7, 8, 9] [0] 1 (xb_X1_watcher l D cI cJ h σ LT γ φ x y hr hp hO hb) (cwV 2 C.1.2.2.2.2 gL_watcher_X1_watcher rfl rfl rfl (by decide +kernel) ⟨Nat.le_of_ble_eq_true rfl, Nat.le_of_ble_eq_true rfl⟩) rfl rfl rfl rfl rfl (by decide) rfl rfl rfl rfl (Nat.le_of_ble_eq_true rfl) rfl rfl ⟨Nat.le_of_ble_eq_true rfl, Nat.le_of_ble_eq_true rfl⟩ dL_watcher_5 (fun u hu => ?_)
  obtain rfl := hu
  refine z_catch C (hW9.1 xIS (by simp)) (tableOf [(0, 10, 13, 13)]) _ _ htab (fun z9 hz9 => (List.mem_cons.mp hz9).elim (fun h9 => h9 ▸ Or.inr ⟨by decide, xIO, C.1.2.2.2.2 _ (by decide +kernel), hW9.2 xIS (by simp) xIO (by simp) (by decide)⟩) (fun hz9 => nomatch hz9)) (by decide) (by decide) (by decide +kernel) (fun q9 => ?_)
  refine z_astore C _ dL_watcher_17 (by decide) rfl ?_
  refine z_iconst C dL_watcher_19 ?_
  exact hret _ _ _ _ dL_watcher_20 ⟨rfl, rfl⟩

set_option maxHeartbeats 4000000 in
set_option maxRecDepth 100000 in
theorem wcx_L_watcher (l : Launch) (D : va_G) (cI cJ : ClassId) (h : Nat → Nat) (σ : YS) (LT : Nat → Int) (γ : YS) (φ : Nat → Int) (x y : Int) (hr : rng x ∧ rng y) (hp : ((0 ≤ x ∧ x < 12) ∧ 0 ≤ y ∧ y < 12)) (hO : Ok σ) (h6 : σ 4 1 < 6) (hb : σ 0 (12 * y + x).toNat ≠ 0) (ao : Nat) (fo : Nat → Int64) : Cw l yL_watcher wsL_watcher rxL_watcher D [(cI, .int), (cJ, .long)] [.ref (h 0), vI x, vI y, .ref ao] ((ao, lo cJ fo) :: (cw cI h σ LT γ φ)) (fun z u => u = ((ao, lo cJ fo) :: (cw cI h σ LT γ φ)) ∧ z = 2) := by
  refine w_of (own := RL) (cc := cL_watcher) (maxL := 5) (lv := [(0, .ref (h 0)), (1, vI x), (2, vI y), (3, .ref ao)]) (by decide) rfl rfl (Nat.le_of_ble_eq_true rfl) rfl ?_
  intro p e s m args below meth cd Q A C hX hW9 htab hret
  refine z_aload_n C 3 dL_watcher_0 rfl ?_
  refine z_iconst C dL_watcher_1 ?_
  refine z_aload_n C 0 dL_watcher_2 rfl ?_
  refine z_iload_n C 1 dL_watcher_3 rfl ?_
  refine z_iload_n C 2 dL_watcher_4 rfl ?_
  refine x_callV C hX (As := [vI x, vI y]) (st := [vI 0, .ref ao]) (y := yX1_watcher) (w := wsX1_watcher) (rm := rxc_X1_watcher) (wr := [(ao, lo cJ fo)]) (k' := 1) (n' := 6) [1, 2, 3, 4, 5, 6, 7, 8, 9] [0] 1 (xc_X1_watcher l D cI cJ h σ LT γ φ x y hr hp hO h6 hb) (cwV 2 C.1.2.2.2.2 gL_watcher_X1_watcher rfl rfl rfl (by decide +kernel) ⟨Nat.le_of_ble_eq_true rfl, Nat.le_of_ble_eq_true rfl⟩) rfl rfl rfl rfl rfl (by decide) rfl rfl rfl rfl (Nat.le_of_ble_eq_true rfl) rfl rfl ⟨Nat.le_of_ble_eq_true rfl, Nat.le_of_ble_eq_true rfl⟩ dL_watcher_5 (fun u hu => ?_)
  obtain rfl := hu
  refine z_catch C (hW9.1 xIS (by simp)) (tableOf [(0, 10, 13, 13)]) _ _ htab (fun z9 hz9 => (List.mem_cons.mp hz9).elim (fun h9 => h9 ▸ Or.inr ⟨by decide, xIO, C.1.2.2.2.2 _ (by decide +kernel), hW9.2 xIS (by simp) xIO (by simp) (by decide)⟩) (fun hz9 => nomatch hz9)) (by decide) (by decide) (by decide +kernel) (fun q9 => ?_)
  refine z_astore C _ dL_watcher_17 (by decide) rfl ?_
  refine z_iconst C dL_watcher_19 ?_
  exact hret _ _ _ _ dL_watcher_20 ⟨rfl, rfl⟩

abbrev rmL_creep : Room := { frames := 8, cells := 0, slots := 0, locals := 146 }
set_option maxHeartbeats 4000000 in
set_option maxRecDepth 100000 in
theorem w_L_creep (l : Launch) (D : va_G) (cI cJ : ClassId) (h : Nat → Nat) (σ : YS) (LT : Nat → Int) (γ : YS) (φ : Nat → Int) (w x y : Int) (hw : 0 ≤ w ∧ w < σ 4 1) (hx : 0 ≤ x ∧ x < 12) (hy : 0 ≤ y ∧ y < 12) (hv : dS nbN (frB σ LT) (σ 3 w.toNat).toNat (12 * y + x).toNat ≠ -1) (hO : Ok σ) (hL : LR LT) (ao : Nat) (fo : Nat → Int64) : Cw l yL_creep wsL_creep rmL_creep D [(cI, .int), (cJ, .long)] [.ref (h 0), vI w, vI x, vI y, .ref ao] ((ao, lo cJ fo) :: (cw cI h σ LT γ φ)) (fun z u => ∃ f' : Nat → Int64, ∃ γ' : YS, u = ((ao, lo cJ f') :: (cw cI h (sU (sU σ 3 w.toNat (12 * y + x)) 4 2 (σ 4 2 + dS nbN (frB σ LT) (σ 3 w.toNat).toNat (12 * y + x).toNat)) LT γ' φ)) ∧ z = 0 ∧ f' 0 = (iI (dS nbN (frB σ LT) (σ 3 w.toNat).toNat (12 * y + x).toNat)).toInt64) := by
  refine w_of (own := RL) (cc := cL_creep) (maxL := 6) (lv := [(0, .ref (h 0)), (1, vI w), (2, vI x), (3, vI y), (4, .ref ao)]) (by decide) rfl rfl (Nat.le_of_ble_eq_true rfl) rfl ?_
  intro p e s m args below meth cd Q A C hX hW9 htab hret
  refine z_aload C 4 dL_creep_0 rfl ?_
  refine z_iconst C dL_creep_2 ?_
  refine z_aload_n C 0 dL_creep_3 rfl ?_
  refine z_iload_n C 1 dL_creep_4 rfl ?_
  refine z_iload_n C 2 dL_creep_5 rfl ?_
  refine z_iload_n C 3 dL_creep_6 rfl ?_
  refine z_callVi C (As := [vI w, vI x, vI y]) (st := [vI 0, .ref ao]) (y := yX1_creep) (w := wsX1_creep) (rm := rm_X1_creep) (wr := [(ao, lo cJ fo)]) (k' := 0) (n' := 0) [1, 2, 3, 4, 5, 6, 7, 8, 9] [0] 1 (c_X1_creep l D cI cJ h σ LT γ φ w x y hw hx hy hv hO hL) (cwV 3 C.1.2.2.2.2 gL_creep_X1_creep rfl rfl rfl (by decide +kernel) ⟨Nat.le_of_ble_eq_true rfl, Nat.le_of_ble_eq_true rfl⟩) rfl rfl rfl rfl rfl (by decide) rfl rfl rfl rfl (Nat.le_of_ble_eq_true rfl) rfl rfl ⟨Nat.le_of_ble_eq_true rfl, Nat.le_of_ble_eq_true rfl⟩ dL_creep_7 ?_
  rintro z_7 _ ⟨γ'_7, rfl, hz_7⟩
  refine z_ws (ws' := ((ao, lo cJ fo) :: (cw cI h (sU (sU σ 3 w.toNat (12 * y + x)) 4 2 (σ 4 2 + dS nbN (frB σ LT) (σ 3 w.toNat).toNat (12 * y + x).toNat)) LT γ'_7 φ))) rfl ?_
  have hz_7 : z_7 = dS nbN (frB σ LT) (σ 3 w.toNat).toNat (12 * y + x).toNat := hz_7
  refine z_i2l C dL_creep_10 ?_
  refine z_last C 0 1 rfl rfl dL_creep_11 (fun f' hf' => ?_)
  refine z_ws (ws' := ((ao, lo cJ f') :: (cw cI h (sU (sU σ 3 w.toNat (12 * y + x)) 4 2 (σ 4 2 + dS nbN (frB σ LT) (σ 3 w.toNat).toNat (12 * y + x).toNat)) LT γ'_7 φ))) rfl ?_
  refine z_goto C (tgt := 23) dL_creep_12 (by decide) ?_
  refine z_iconst C dL_creep_23 ?_
  exact hret _ _ _ _ dL_creep_24 ⟨f', _, rfl, rfl, by rw [hf', hz_7]⟩

abbrev rxL_creep : Room := { frames := 8, cells := 1, slots := 6, locals := 146 }
set_option maxHeartbeats 4000000 in
set_option maxRecDepth 100000 in
theorem wx_L_creep (l : Launch) (D : va_G) (cI cJ : ClassId) (h : Nat → Nat) (σ : YS) (LT : Nat → Int) (γ : YS) (φ : Nat → Int) (w x y : Int) (hr : rng w ∧ rng x ∧ rng y) (hO : Ok σ) (hb : ¬ (0 ≤ w ∧ w < σ 4 1)) (ao : Nat) (fo : Nat → Int64) : Cw l yL_creep wsL_creep rxL_creep D [(cI, .int), (cJ, .long)] [.ref (h 0), vI w, vI x, vI y, .ref ao] ((ao, lo cJ fo) :: (cw cI h σ LT γ φ)) (fun z u => u = ((ao, lo cJ fo) :: (cw cI h σ LT γ φ)) ∧ z = 1) := by
  refine w_of (own := RL) (cc := cL_creep) (maxL := 6) (lv := [(0, .ref (h 0)), (1, vI w), (2, vI x), (3, vI y), (4, .ref ao)]) (by decide) rfl rfl (Nat.le_of_ble_eq_true rfl) rfl ?_
  intro p e s m args below meth cd Q A C hX hW9 htab hret
  refine z_aload C 4 dL_creep_0 rfl ?_
  refine z_iconst C dL_creep_2 ?_
  refine z_aload_n C 0 dL_creep_3 rfl ?_
  refine z_iload_n C 1 dL_creep_4 rfl ?_
  refine z_iload_n C 2 dL_creep_5 rfl ?_
  refine z_iload_n C 3 dL_creep_6 rfl ?_
  refine x_callV C hX (As := [vI w, vI x, vI y]) (st := [vI 0, .ref ao]) (y := yX1_creep) (w := wsX1_creep) (rm := rx_X1_creep) (wr := [(ao, lo cJ fo)]) (k' := 1) (n' := 6) [1, 2, 3, 4, 5, 6, 7, 8, 9] [0] 1 (x_X1_creep l D cI cJ h σ LT γ φ w x y hr hO hb) (cwV 3 C.1.2.2.2.2 gL_creep_X1_creep rfl rfl rfl (by decide +kernel) ⟨Nat.le_of_ble_eq_true rfl, Nat.le_of_ble_eq_true rfl⟩) rfl rfl rfl rfl rfl (by decide) rfl rfl rfl rfl (Nat.le_of_ble_eq_true rfl) rfl rfl ⟨Nat.le_of_ble_eq_true rfl, Nat.le_of_ble_eq_true rfl⟩ dL_creep_7 (fun u hu => ?_)
  obtain rfl := hu
  refine z_catch C (hW9.1 xIO (by simp)) [] _ _ htab (fun z9 hz9 => nomatch hz9) (by decide) (by decide) (by decide +kernel) (fun q9 => ?_)
  refine z_astore C _ dL_creep_15 (by decide) rfl ?_
  refine z_iconst C dL_creep_17 ?_
  exact hret _ _ _ _ dL_creep_18 ⟨rfl, rfl⟩

set_option maxHeartbeats 4000000 in
set_option maxRecDepth 100000 in
theorem wbx_L_creep (l : Launch) (D : va_G) (cI cJ : ClassId) (h : Nat → Nat) (σ : YS) (LT : Nat → Int) (γ : YS) (φ : Nat → Int) (w x y : Int) (hr : rng w ∧ rng x ∧ rng y) (hO : Ok σ) (hw : 0 ≤ w ∧ w < σ 4 1) (hb : ¬ ((0 ≤ x ∧ x < 12) ∧ 0 ≤ y ∧ y < 12)) (ao : Nat) (fo : Nat → Int64) : Cw l yL_creep wsL_creep rxL_creep D [(cI, .int), (cJ, .long)] [.ref (h 0), vI w, vI x, vI y, .ref ao] ((ao, lo cJ fo) :: (cw cI h σ LT γ φ)) (fun z u => u = ((ao, lo cJ fo) :: (cw cI h σ LT γ φ)) ∧ z = 1) := by
  refine w_of (own := RL) (cc := cL_creep) (maxL := 6) (lv := [(0, .ref (h 0)), (1, vI w), (2, vI x), (3, vI y), (4, .ref ao)]) (by decide) rfl rfl (Nat.le_of_ble_eq_true rfl) rfl ?_
  intro p e s m args below meth cd Q A C hX hW9 htab hret
  refine z_aload C 4 dL_creep_0 rfl ?_
  refine z_iconst C dL_creep_2 ?_
  refine z_aload_n C 0 dL_creep_3 rfl ?_
  refine z_iload_n C 1 dL_creep_4 rfl ?_
  refine z_iload_n C 2 dL_creep_5 rfl ?_
  refine z_iload_n C 3 dL_creep_6 rfl ?_
  refine x_callV C hX (As := [vI w, vI x, vI y]) (st := [vI 0, .ref ao]) (y := yX1_creep) (w := wsX1_creep) (rm := rxb_X1_creep) (wr := [(ao, lo cJ fo)]) (k' := 1) (n' := 6) [1, 2, 3, 4, 5, 6, 7, 8, 9] [0] 1 (xb_X1_creep l D cI cJ h σ LT γ φ w x y hr hO hw hb) (cwV 3 C.1.2.2.2.2 gL_creep_X1_creep rfl rfl rfl (by decide +kernel) ⟨Nat.le_of_ble_eq_true rfl, Nat.le_of_ble_eq_true rfl⟩) rfl rfl rfl rfl rfl (by decide) rfl rfl rfl rfl (Nat.le_of_ble_eq_true rfl) rfl rfl ⟨Nat.le_of_ble_eq_true rfl, Nat.le_of_ble_eq_true rfl⟩ dL_creep_7 (fun u hu => ?_)
  obtain rfl := hu
  refine z_catch C (hW9.1 xIO (by simp)) [] _ _ htab (fun z9 hz9 => nomatch hz9) (by decide) (by decide) (by decide +kernel) (fun q9 => ?_)
  refine z_astore C _ dL_creep_15 (by decide) rfl ?_
  refine z_iconst C dL_creep_17 ?_
  exact hret _ _ _ _ dL_creep_18 ⟨rfl, rfl⟩

set_option maxHeartbeats 4000000 in
set_option maxRecDepth 100000 in
theorem wcx_L_creep (l : Launch) (D : va_G) (cI cJ : ClassId) (h : Nat → Nat) (σ : YS) (LT : Nat → Int) (γ : YS) (φ : Nat → Int) (w x y : Int) (hr : rng w ∧ rng x ∧ rng y) (hO : Ok σ) (hw : 0 ≤ w ∧ w < σ 4 1) (hp9 : ((0 ≤ x ∧ x < 12) ∧ 0 ≤ y ∧ y < 12)) (hL : LR LT) (hb : dS nbN (frB σ LT) (σ 3 w.toNat).toNat (12 * y + x).toNat = -1) (ao : Nat) (fo : Nat → Int64) : Cw l yL_creep wsL_creep rxL_creep D [(cI, .int), (cJ, .long)] [.ref (h 0), vI w, vI x, vI y, .ref ao] ((ao, lo cJ fo) :: (cw cI h σ LT γ φ)) (fun z u => ∃ γ' : YS, u = ((ao, lo cJ fo) :: (cw cI h σ LT γ' φ)) ∧ z = 2) := by
  refine w_of (own := RL) (cc := cL_creep) (maxL := 6) (lv := [(0, .ref (h 0)), (1, vI w), (2, vI x), (3, vI y), (4, .ref ao)]) (by decide) rfl rfl (Nat.le_of_ble_eq_true rfl) rfl ?_
  intro p e s m args below meth cd Q A C hX hW9 htab hret
  refine z_aload C 4 dL_creep_0 rfl ?_
  refine z_iconst C dL_creep_2 ?_
  refine z_aload_n C 0 dL_creep_3 rfl ?_
  refine z_iload_n C 1 dL_creep_4 rfl ?_
  refine z_iload_n C 2 dL_creep_5 rfl ?_
  refine z_iload_n C 3 dL_creep_6 rfl ?_
  refine x_callV C hX (As := [vI w, vI x, vI y]) (st := [vI 0, .ref ao]) (y := yX1_creep) (w := wsX1_creep) (rm := rxc_X1_creep) (wr := [(ao, lo cJ fo)]) (k' := 1) (n' := 6) [1, 2, 3, 4, 5, 6, 7, 8, 9] [0] 1 (xc_X1_creep l D cI cJ h σ LT γ φ w x y hr hO hw hp9 hL hb) (cwV 3 C.1.2.2.2.2 gL_creep_X1_creep rfl rfl rfl (by decide +kernel) ⟨Nat.le_of_ble_eq_true rfl, Nat.le_of_ble_eq_true rfl⟩) rfl rfl rfl rfl rfl (by decide) rfl rfl rfl rfl (Nat.le_of_ble_eq_true rfl) rfl rfl ⟨Nat.le_of_ble_eq_true rfl, Nat.le_of_ble_eq_true rfl⟩ dL_creep_7 (fun u hu => ?_)
  obtain ⟨γ'_x, rfl⟩ := hu
  refine z_catch C (hW9.1 xIS (by simp)) (tableOf [(0, 12, 15, 13)]) _ _ htab (fun z9 hz9 => (List.mem_cons.mp hz9).elim (fun h9 => h9 ▸ Or.inr ⟨by decide, xIO, C.1.2.2.2.2 _ (by decide +kernel), hW9.2 xIS (by simp) xIO (by simp) (by decide)⟩) (fun hz9 => nomatch hz9)) (by decide) (by decide) (by decide +kernel) (fun q9 => ?_)
  refine z_astore C _ dL_creep_19 (by decide) rfl ?_
  refine z_iconst C dL_creep_21 ?_
  exact hret _ _ _ _ dL_creep_22 ⟨_, rfl, rfl⟩

abbrev rmL_told : Room := { frames := 8, cells := 0, slots := 0, locals := 145 }
set_option maxHeartbeats 4000000 in
set_option maxRecDepth 100000 in
theorem w_L_told (l : Launch) (D : va_G) (cI cJ : ClassId) (h : Nat → Nat) (σ : YS) (LT : Nat → Int) (γ : YS) (φ : Nat → Int) (x y wh : Int) (hx : 0 ≤ x ∧ x < 12) (hy : 0 ≤ y ∧ y < 12) (hwh : 0 ≤ wh ∧ wh < 5) (hO : Ok σ) (hL : LR LT) (ao : Nat) (fo : Nat → Int64) : Cw l yL_told wsL_told rmL_told D [(cI, .int), (cJ, .long)] [.ref (h 0), vI x, vI y, vI wh, .ref ao] ((ao, lo cJ fo) :: (cw cI h σ LT γ φ)) (fun z u => ∃ f' : Nat → Int64, ∃ φ' : Nat → Int, u = ((ao, lo cJ f') :: (cw cI h σ LT γ φ')) ∧ z = 0 ∧ f' 0 = (iI (tolV σ LT (12 * y + x).toNat wh)).toInt64) := by
  refine w_of (own := RL) (cc := cL_told) (maxL := 6) (lv := [(0, .ref (h 0)), (1, vI x), (2, vI y), (3, vI wh), (4, .ref ao)]) (by decide) rfl rfl (Nat.le_of_ble_eq_true rfl) rfl ?_
  intro p e s m args below meth cd Q A C hX hW9 htab hret
  refine z_aload C 4 dL_told_0 rfl ?_
  refine z_iconst C dL_told_2 ?_
  refine z_aload_n C 0 dL_told_3 rfl ?_
  refine z_iload_n C 1 dL_told_4 rfl ?_
  refine z_iload_n C 2 dL_told_5 rfl ?_
  refine z_iload_n C 3 dL_told_6 rfl ?_
  refine z_callVi C (As := [vI x, vI y, vI wh]) (st := [vI 0, .ref ao]) (y := yX1_told) (w := wsX1_told) (rm := rm_X1_told) (wr := [(ao, lo cJ fo)]) (k' := 0) (n' := 0) [1, 2, 3, 4, 5, 6, 7, 8, 9] [0] 1 (c_X1_told l D cI cJ h σ LT γ φ x y wh hx hy hwh hO hL) (cwV 3 C.1.2.2.2.2 gL_told_X1_told rfl rfl rfl (by decide +kernel) ⟨Nat.le_of_ble_eq_true rfl, Nat.le_of_ble_eq_true rfl⟩) rfl rfl rfl rfl rfl (by decide) rfl rfl rfl rfl (Nat.le_of_ble_eq_true rfl) rfl rfl ⟨Nat.le_of_ble_eq_true rfl, Nat.le_of_ble_eq_true rfl⟩ dL_told_7 ?_
  rintro z_7 _ ⟨φ'_7, rfl, hz_7⟩
  refine z_ws (ws' := ((ao, lo cJ fo) :: (cw cI h σ LT γ φ'_7))) rfl ?_
  have hz_7 : z_7 = tolV σ LT (12 * y + x).toNat wh := hz_7
  refine z_i2l C dL_told_10 ?_
  refine z_last C 0 1 rfl rfl dL_told_11 (fun f' hf' => ?_)
  refine z_ws (ws' := ((ao, lo cJ f') :: (cw cI h σ LT γ φ'_7))) rfl ?_
  refine z_goto C (tgt := 19) dL_told_12 (by decide) ?_
  refine z_iconst C dL_told_19 ?_
  exact hret _ _ _ _ dL_told_20 ⟨f', _, rfl, rfl, by rw [hf', hz_7]⟩

abbrev rxL_told : Room := { frames := 8, cells := 1, slots := 6, locals := 145 }
set_option maxHeartbeats 4000000 in
set_option maxRecDepth 100000 in
theorem wx_L_told (l : Launch) (D : va_G) (cI cJ : ClassId) (h : Nat → Nat) (σ : YS) (LT : Nat → Int) (γ : YS) (φ : Nat → Int) (x y wh : Int) (hr : rng x ∧ rng y ∧ rng wh) (hb : ¬ ((0 ≤ x ∧ x < 12) ∧ 0 ≤ y ∧ y < 12)) (ao : Nat) (fo : Nat → Int64) : Cw l yL_told wsL_told rxL_told D [(cI, .int), (cJ, .long)] [.ref (h 0), vI x, vI y, vI wh, .ref ao] ((ao, lo cJ fo) :: (cw cI h σ LT γ φ)) (fun z u => u = ((ao, lo cJ fo) :: (cw cI h σ LT γ φ)) ∧ z = 1) := by
  refine w_of (own := RL) (cc := cL_told) (maxL := 6) (lv := [(0, .ref (h 0)), (1, vI x), (2, vI y), (3, vI wh), (4, .ref ao)]) (by decide) rfl rfl (Nat.le_of_ble_eq_true rfl) rfl ?_
  intro p e s m args below meth cd Q A C hX hW9 htab hret
  refine z_aload C 4 dL_told_0 rfl ?_
  refine z_iconst C dL_told_2 ?_
  refine z_aload_n C 0 dL_told_3 rfl ?_
  refine z_iload_n C 1 dL_told_4 rfl ?_
  refine z_iload_n C 2 dL_told_5 rfl ?_
  refine z_iload_n C 3 dL_told_6 rfl ?_
  refine x_callV C hX (As := [vI x, vI y, vI wh]) (st := [vI 0, .ref ao]) (y := yX1_told) (w := wsX1_told) (rm := rx_X1_told) (wr := [(ao, lo cJ fo)]) (k' := 1) (n' := 6) [1, 2, 3, 4, 5, 6, 7, 8, 9] [0] 1 (x_X1_told l D cI cJ h σ LT γ φ x y wh hr hb) (cwV 3 C.1.2.2.2.2 gL_told_X1_told rfl rfl rfl (by decide +kernel) ⟨Nat.le_of_ble_eq_true rfl, Nat.le_of_ble_eq_true rfl⟩) rfl rfl rfl rfl rfl (by decide) rfl rfl rfl rfl (Nat.le_of_ble_eq_true rfl) rfl rfl ⟨Nat.le_of_ble_eq_true rfl, Nat.le_of_ble_eq_true rfl⟩ dL_told_7 (fun u hu => ?_)
  obtain rfl := hu
  refine z_catch C (hW9.1 xIO (by simp)) [] _ _ htab (fun z9 hz9 => nomatch hz9) (by decide) (by decide) (by decide +kernel) (fun q9 => ?_)
  refine z_astore C _ dL_told_15 (by decide) rfl ?_
  refine z_iconst C dL_told_17 ?_
  exact hret _ _ _ _ dL_told_18 ⟨rfl, rfl⟩

set_option maxHeartbeats 4000000 in
set_option maxRecDepth 100000 in
theorem wbx_L_told (l : Launch) (D : va_G) (cI cJ : ClassId) (h : Nat → Nat) (σ : YS) (LT : Nat → Int) (γ : YS) (φ : Nat → Int) (x y wh : Int) (hr : rng x ∧ rng y ∧ rng wh) (hp : ((0 ≤ x ∧ x < 12) ∧ 0 ≤ y ∧ y < 12)) (hb : ¬ (0 ≤ wh ∧ wh < 5)) (ao : Nat) (fo : Nat → Int64) : Cw l yL_told wsL_told rxL_told D [(cI, .int), (cJ, .long)] [.ref (h 0), vI x, vI y, vI wh, .ref ao] ((ao, lo cJ fo) :: (cw cI h σ LT γ φ)) (fun z u => u = ((ao, lo cJ fo) :: (cw cI h σ LT γ φ)) ∧ z = 1) := by
  refine w_of (own := RL) (cc := cL_told) (maxL := 6) (lv := [(0, .ref (h 0)), (1, vI x), (2, vI y), (3, vI wh), (4, .ref ao)]) (by decide) rfl rfl (Nat.le_of_ble_eq_true rfl) rfl ?_
  intro p e s m args below meth cd Q A C hX hW9 htab hret
  refine z_aload C 4 dL_told_0 rfl ?_
  refine z_iconst C dL_told_2 ?_
  refine z_aload_n C 0 dL_told_3 rfl ?_
  refine z_iload_n C 1 dL_told_4 rfl ?_
  refine z_iload_n C 2 dL_told_5 rfl ?_
  refine z_iload_n C 3 dL_told_6 rfl ?_
  refine x_callV C hX (As := [vI x, vI y, vI wh]) (st := [vI 0, .ref ao]) (y := yX1_told) (w := wsX1_told) (rm := rxb_X1_told) (wr := [(ao, lo cJ fo)]) (k' := 1) (n' := 6) [1, 2, 3, 4, 5, 6, 7, 8, 9] [0] 1 (xb_X1_told l D cI cJ h σ LT γ φ x y wh hr hp hb) (cwV 3 C.1.2.2.2.2 gL_told_X1_told rfl rfl rfl (by decide +kernel) ⟨Nat.le_of_ble_eq_true rfl, Nat.le_of_ble_eq_true rfl⟩) rfl rfl rfl rfl rfl (by decide) rfl rfl rfl rfl (Nat.le_of_ble_eq_true rfl) rfl rfl ⟨Nat.le_of_ble_eq_true rfl, Nat.le_of_ble_eq_true rfl⟩ dL_told_7 (fun u hu => ?_)
  obtain rfl := hu
  refine z_catch C (hW9.1 xIO (by simp)) [] _ _ htab (fun z9 hz9 => nomatch hz9) (by decide) (by decide) (by decide +kernel) (fun q9 => ?_)
  refine z_astore C _ dL_told_15 (by decide) rfl ?_
  refine z_iconst C dL_told_17 ?_
  exact hret _ _ _ _ dL_told_18 ⟨rfl, rfl⟩

abbrev rmL_about : Room := { frames := 8, cells := 0, slots := 0, locals := 143 }
set_option maxHeartbeats 4000000 in
set_option maxRecDepth 100000 in
theorem w_L_about (l : Launch) (D : va_G) (cI cJ : ClassId) (h : Nat → Nat) (σ : YS) (LT : Nat → Int) (γ : YS) (φ : Nat → Int) (k wh : Int) (hk : 0 ≤ k ∧ k < σ 4 0) (hwh : 0 ≤ wh ∧ wh < 4) (hO : Ok σ) (hL : LR LT) (ao : Nat) (fo : Nat → Int64) : Cw l yL_about wsL_about rmL_about D [(cI, .int), (cJ, .long)] [.ref (h 0), vI k, vI wh, .ref ao] ((ao, lo cJ fo) :: (cw cI h σ LT γ φ)) (fun z u => ∃ f' : Nat → Int64, u = ((ao, lo cJ f') :: (cw cI h σ LT γ φ)) ∧ z = 0 ∧ f' 0 = (iI (aboV σ LT k.toNat wh)).toInt64) := by
  refine w_of (own := RL) (cc := cL_about) (maxL := 5) (lv := [(0, .ref (h 0)), (1, vI k), (2, vI wh), (3, .ref ao)]) (by decide) rfl rfl (Nat.le_of_ble_eq_true rfl) rfl ?_
  intro p e s m args below meth cd Q A C hX hW9 htab hret
  refine z_aload_n C 3 dL_about_0 rfl ?_
  refine z_iconst C dL_about_1 ?_
  refine z_aload_n C 0 dL_about_2 rfl ?_
  refine z_iload_n C 1 dL_about_3 rfl ?_
  refine z_iload_n C 2 dL_about_4 rfl ?_
  refine z_callVi C (As := [vI k, vI wh]) (st := [vI 0, .ref ao]) (y := yX1_about) (w := wsX1_about) (rm := rm_X1_about) (wr := [(ao, lo cJ fo)]) (k' := 0) (n' := 0) [1, 2, 3, 4, 5, 6, 7, 8, 9] [0] 1 (c_X1_about l D cI cJ h σ LT γ φ k wh hk hwh hO hL) (cwV 2 C.1.2.2.2.2 gL_about_X1_about rfl rfl rfl (by decide +kernel) ⟨Nat.le_of_ble_eq_true rfl, Nat.le_of_ble_eq_true rfl⟩) rfl rfl rfl rfl rfl (by decide) rfl rfl rfl rfl (Nat.le_of_ble_eq_true rfl) rfl rfl ⟨Nat.le_of_ble_eq_true rfl, Nat.le_of_ble_eq_true rfl⟩ dL_about_5 ?_
  rintro z_5 _ ⟨rfl, hz_5⟩
  refine z_ws (ws' := ((ao, lo cJ fo) :: (cw cI h σ LT γ φ))) rfl ?_
  have hz_5 : z_5 = aboV σ LT k.toNat wh := hz_5
  refine z_i2l C dL_about_8 ?_
  refine z_last C 0 1 rfl rfl dL_about_9 (fun f' hf' => ?_)
  refine z_ws (ws' := ((ao, lo cJ f') :: (cw cI h σ LT γ φ))) rfl ?_
  refine z_goto C (tgt := 17) dL_about_10 (by decide) ?_
  refine z_iconst C dL_about_17 ?_
  exact hret _ _ _ _ dL_about_18 ⟨f', rfl, rfl, by rw [hf', hz_5]⟩

abbrev rxL_about : Room := { frames := 8, cells := 1, slots := 6, locals := 143 }
set_option maxHeartbeats 4000000 in
set_option maxRecDepth 100000 in
theorem wx_L_about (l : Launch) (D : va_G) (cI cJ : ClassId) (h : Nat → Nat) (σ : YS) (LT : Nat → Int) (γ : YS) (φ : Nat → Int) (k wh : Int) (hr : rng k ∧ rng wh) (hO : Ok σ) (hb : ¬ (0 ≤ k ∧ k < σ 4 0)) (ao : Nat) (fo : Nat → Int64) : Cw l yL_about wsL_about rxL_about D [(cI, .int), (cJ, .long)] [.ref (h 0), vI k, vI wh, .ref ao] ((ao, lo cJ fo) :: (cw cI h σ LT γ φ)) (fun z u => u = ((ao, lo cJ fo) :: (cw cI h σ LT γ φ)) ∧ z = 1) := by
  refine w_of (own := RL) (cc := cL_about) (maxL := 5) (lv := [(0, .ref (h 0)), (1, vI k), (2, vI wh), (3, .ref ao)]) (by decide) rfl rfl (Nat.le_of_ble_eq_true rfl) rfl ?_
  intro p e s m args below meth cd Q A C hX hW9 htab hret
  refine z_aload_n C 3 dL_about_0 rfl ?_
  refine z_iconst C dL_about_1 ?_
  refine z_aload_n C 0 dL_about_2 rfl ?_
  refine z_iload_n C 1 dL_about_3 rfl ?_
  refine z_iload_n C 2 dL_about_4 rfl ?_
  refine x_callV C hX (As := [vI k, vI wh]) (st := [vI 0, .ref ao]) (y := yX1_about) (w := wsX1_about) (rm := rx_X1_about) (wr := [(ao, lo cJ fo)]) (k' := 1) (n' := 6) [1, 2, 3, 4, 5, 6, 7, 8, 9] [0] 1 (x_X1_about l D cI cJ h σ LT γ φ k wh hr hO hb) (cwV 2 C.1.2.2.2.2 gL_about_X1_about rfl rfl rfl (by decide +kernel) ⟨Nat.le_of_ble_eq_true rfl, Nat.le_of_ble_eq_true rfl⟩) rfl rfl rfl rfl rfl (by decide) rfl rfl rfl rfl (Nat.le_of_ble_eq_true rfl) rfl rfl ⟨Nat.le_of_ble_eq_true rfl, Nat.le_of_ble_eq_true rfl⟩ dL_about_5 (fun u hu => ?_)
  obtain rfl := hu
  refine z_catch C (hW9.1 xIO (by simp)) [] _ _ htab (fun z9 hz9 => nomatch hz9) (by decide) (by decide) (by decide +kernel) (fun q9 => ?_)
  refine z_astore C _ dL_about_13 (by decide) rfl ?_
  refine z_iconst C dL_about_15 ?_
  exact hret _ _ _ _ dL_about_16 ⟨rfl, rfl⟩

set_option maxHeartbeats 4000000 in
set_option maxRecDepth 100000 in
theorem wbx_L_about (l : Launch) (D : va_G) (cI cJ : ClassId) (h : Nat → Nat) (σ : YS) (LT : Nat → Int) (γ : YS) (φ : Nat → Int) (k wh : Int) (hr : rng k ∧ rng wh) (hO : Ok σ) (hk : 0 ≤ k ∧ k < σ 4 0) (hb : ¬ (0 ≤ wh ∧ wh < 4)) (ao : Nat) (fo : Nat → Int64) : Cw l yL_about wsL_about rxL_about D [(cI, .int), (cJ, .long)] [.ref (h 0), vI k, vI wh, .ref ao] ((ao, lo cJ fo) :: (cw cI h σ LT γ φ)) (fun z u => u = ((ao, lo cJ fo) :: (cw cI h σ LT γ φ)) ∧ z = 1) := by
  refine w_of (own := RL) (cc := cL_about) (maxL := 5) (lv := [(0, .ref (h 0)), (1, vI k), (2, vI wh), (3, .ref ao)]) (by decide) rfl rfl (Nat.le_of_ble_eq_true rfl) rfl ?_
  intro p e s m args below meth cd Q A C hX hW9 htab hret
  refine z_aload_n C 3 dL_about_0 rfl ?_
  refine z_iconst C dL_about_1 ?_
  refine z_aload_n C 0 dL_about_2 rfl ?_
  refine z_iload_n C 1 dL_about_3 rfl ?_
  refine z_iload_n C 2 dL_about_4 rfl ?_
  refine x_callV C hX (As := [vI k, vI wh]) (st := [vI 0, .ref ao]) (y := yX1_about) (w := wsX1_about) (rm := rxb_X1_about) (wr := [(ao, lo cJ fo)]) (k' := 1) (n' := 6) [1, 2, 3, 4, 5, 6, 7, 8, 9] [0] 1 (xb_X1_about l D cI cJ h σ LT γ φ k wh hr hO hk hb) (cwV 2 C.1.2.2.2.2 gL_about_X1_about rfl rfl rfl (by decide +kernel) ⟨Nat.le_of_ble_eq_true rfl, Nat.le_of_ble_eq_true rfl⟩) rfl rfl rfl rfl rfl (by decide) rfl rfl rfl rfl (Nat.le_of_ble_eq_true rfl) rfl rfl ⟨Nat.le_of_ble_eq_true rfl, Nat.le_of_ble_eq_true rfl⟩ dL_about_5 (fun u hu => ?_)
  obtain rfl := hu
  refine z_catch C (hW9.1 xIO (by simp)) [] _ _ htab (fun z9 hz9 => nomatch hz9) (by decide) (by decide) (by decide +kernel) (fun q9 => ?_)
  refine z_astore C _ dL_about_13 (by decide) rfl ?_
  refine z_iconst C dL_about_15 ?_
  exact hret _ _ _ _ dL_about_16 ⟨rfl, rfl⟩

abbrev rmL_seat : Room := { frames := 8, cells := 0, slots := 0, locals := 143 }
set_option maxHeartbeats 4000000 in
set_option maxRecDepth 100000 in
theorem w_L_seat (l : Launch) (D : va_G) (cI cJ : ClassId) (h : Nat → Nat) (σ : YS) (LT : Nat → Int) (γ : YS) (φ : Nat → Int) (w wh : Int) (hw : 0 ≤ w ∧ w < σ 4 1) (hwh : 0 ≤ wh ∧ wh < 5) (hO : Ok σ) (hL : LR LT) (ao : Nat) (fo : Nat → Int64) : Cw l yL_seat wsL_seat rmL_seat D [(cI, .int), (cJ, .long)] [.ref (h 0), vI w, vI wh, .ref ao] ((ao, lo cJ fo) :: (cw cI h σ LT γ φ)) (fun z u => ∃ f' : Nat → Int64, ∃ φ' : Nat → Int, u = ((ao, lo cJ f') :: (cw cI h σ LT γ φ')) ∧ z = 0 ∧ f' 0 = (iI (seaV σ LT w.toNat wh)).toInt64) := by
  refine w_of (own := RL) (cc := cL_seat) (maxL := 5) (lv := [(0, .ref (h 0)), (1, vI w), (2, vI wh), (3, .ref ao)]) (by decide) rfl rfl (Nat.le_of_ble_eq_true rfl) rfl ?_
  intro p e s m args below meth cd Q A C hX hW9 htab hret
  refine z_aload_n C 3 dL_seat_0 rfl ?_
  refine z_iconst C dL_seat_1 ?_
  refine z_aload_n C 0 dL_seat_2 rfl ?_
  refine z_iload_n C 1 dL_seat_3 rfl ?_
  refine z_iload_n C 2 dL_seat_4 rfl ?_
  refine z_callVi C (As := [vI w, vI wh]) (st := [vI 0, .ref ao]) (y := yX1_seat) (w := wsX1_seat) (rm := rm_X1_seat) (wr := [(ao, lo cJ fo)]) (k' := 0) (n' := 0) [1, 2, 3, 4, 5, 6, 7, 8, 9] [0] 1 (c_X1_seat l D cI cJ h σ LT γ φ w wh hw hwh hO hL) (cwV 2 C.1.2.2.2.2 gL_seat_X1_seat rfl rfl rfl (by decide +kernel) ⟨Nat.le_of_ble_eq_true rfl, Nat.le_of_ble_eq_true rfl⟩) rfl rfl rfl rfl rfl (by decide) rfl rfl rfl rfl (Nat.le_of_ble_eq_true rfl) rfl rfl ⟨Nat.le_of_ble_eq_true rfl, Nat.le_of_ble_eq_true rfl⟩ dL_seat_5 ?_
  rintro z_5 _ ⟨φ'_5, rfl, hz_5⟩
  refine z_ws (ws' := ((ao, lo cJ fo) :: (cw cI h σ LT γ φ'_5))) rfl ?_
  have hz_5 : z_5 = seaV σ LT w.toNat wh := hz_5
  refine z_i2l C dL_seat_8 ?_
  refine z_last C 0 1 rfl rfl dL_seat_9 (fun f' hf' => ?_)
  refine z_ws (ws' := ((ao, lo cJ f') :: (cw cI h σ LT γ φ'_5))) rfl ?_
  refine z_goto C (tgt := 17) dL_seat_10 (by decide) ?_
  refine z_iconst C dL_seat_17 ?_
  exact hret _ _ _ _ dL_seat_18 ⟨f', _, rfl, rfl, by rw [hf', hz_5]⟩

abbrev rxL_seat : Room := { frames := 8, cells := 1, slots := 6, locals := 143 }
set_option maxHeartbeats 4000000 in
set_option maxRecDepth 100000 in
theorem wx_L_seat (l : Launch) (D : va_G) (cI cJ : ClassId) (h : Nat → Nat) (σ : YS) (LT : Nat → Int) (γ : YS) (φ : Nat → Int) (w wh : Int) (hr : rng w ∧ rng wh) (hO : Ok σ) (hb : ¬ (0 ≤ w ∧ w < σ 4 1)) (ao : Nat) (fo : Nat → Int64) : Cw l yL_seat wsL_seat rxL_seat D [(cI, .int), (cJ, .long)] [.ref (h 0), vI w, vI wh, .ref ao] ((ao, lo cJ fo) :: (cw cI h σ LT γ φ)) (fun z u => u = ((ao, lo cJ fo) :: (cw cI h σ LT γ φ)) ∧ z = 1) := by
  refine w_of (own := RL) (cc := cL_seat) (maxL := 5) (lv := [(0, .ref (h 0)), (1, vI w), (2, vI wh), (3, .ref ao)]) (by decide) rfl rfl (Nat.le_of_ble_eq_true rfl) rfl ?_
  intro p e s m args below meth cd Q A C hX hW9 htab hret
  refine z_aload_n C 3 dL_seat_0 rfl ?_
  refine z_iconst C dL_seat_1 ?_
  refine z_aload_n C 0 dL_seat_2 rfl ?_
  refine z_iload_n C 1 dL_seat_3 rfl ?_
  refine z_iload_n C 2 dL_seat_4 rfl ?_
  refine x_callV C hX (As := [vI w, vI wh]) (st := [vI 0, .ref ao]) (y := yX1_seat) (w := wsX1_seat) (rm := rx_X1_seat) (wr := [(ao, lo cJ fo)]) (k' := 1) (n' := 6) [1, 2, 3, 4, 5, 6, 7, 8, 9] [0] 1 (x_X1_seat l D cI cJ h σ LT γ φ w wh hr hO hb) (cwV 2 C.1.2.2.2.2 gL_seat_X1_seat rfl rfl rfl (by decide +kernel) ⟨Nat.le_of_ble_eq_true rfl, Nat.le_of_ble_eq_true rfl⟩) rfl rfl rfl rfl rfl (by decide) rfl rfl rfl rfl (Nat.le_of_ble_eq_true rfl) rfl rfl ⟨Nat.le_of_ble_eq_true rfl, Nat.le_of_ble_eq_true rfl⟩ dL_seat_5 (fun u hu => ?_)
  obtain rfl := hu
  refine z_catch C (hW9.1 xIO (by simp)) [] _ _ htab (fun z9 hz9 => nomatch hz9) (by decide) (by decide) (by decide +kernel) (fun q9 => ?_)
  refine z_astore C _ dL_seat_13 (by decide) rfl ?_
  refine z_iconst C dL_seat_15 ?_
  exact hret _ _ _ _ dL_seat_16 ⟨rfl, rfl⟩

set_option maxHeartbeats 4000000 in
set_option maxRecDepth 100000 in
theorem wbx_L_seat (l : Launch) (D : va_G) (cI cJ : ClassId) (h : Nat → Nat) (σ : YS) (LT : Nat → Int) (γ : YS) (φ : Nat → Int) (w wh : Int) (hr : rng w ∧ rng wh) (hO : Ok σ) (hw : 0 ≤ w ∧ w < σ 4 1) (hb : ¬ (0 ≤ wh ∧ wh < 5)) (ao : Nat) (fo : Nat → Int64) : Cw l yL_seat wsL_seat rxL_seat D [(cI, .int), (cJ, .long)] [.ref (h 0), vI w, vI wh, .ref ao] ((ao, lo cJ fo) :: (cw cI h σ LT γ φ)) (fun z u => u = ((ao, lo cJ fo) :: (cw cI h σ LT γ φ)) ∧ z = 1) := by
  refine w_of (own := RL) (cc := cL_seat) (maxL := 5) (lv := [(0, .ref (h 0)), (1, vI w), (2, vI wh), (3, .ref ao)]) (by decide) rfl rfl (Nat.le_of_ble_eq_true rfl) rfl ?_
  intro p e s m args below meth cd Q A C hX hW9 htab hret
  refine z_aload_n C 3 dL_seat_0 rfl ?_
  refine z_iconst C dL_seat_1 ?_
  refine z_aload_n C 0 dL_seat_2 rfl ?_
  refine z_iload_n C 1 dL_seat_3 rfl ?_
  refine z_iload_n C 2 dL_seat_4 rfl ?_
  refine x_callV C hX (As := [vI w, vI wh]) (st := [vI 0, .ref ao]) (y := yX1_seat) (w := wsX1_seat) (rm := rxb_X1_seat) (wr := [(ao, lo cJ fo)]) (k' := 1) (n' := 6) [1, 2, 3, 4, 5, 6, 7, 8, 9] [0] 1 (xb_X1_seat l D cI cJ h σ LT γ φ w wh hr hO hw hb) (cwV 2 C.1.2.2.2.2 gL_seat_X1_seat rfl rfl rfl (by decide +kernel) ⟨Nat.le_of_ble_eq_true rfl, Nat.le_of_ble_eq_true rfl⟩) rfl rfl rfl rfl rfl (by decide) rfl rfl rfl rfl (Nat.le_of_ble_eq_true rfl) rfl rfl ⟨Nat.le_of_ble_eq_true rfl, Nat.le_of_ble_eq_true rfl⟩ dL_seat_5 (fun u hu => ?_)
  obtain rfl := hu
  refine z_catch C (hW9.1 xIO (by simp)) [] _ _ htab (fun z9 hz9 => nomatch hz9) (by decide) (by decide) (by decide +kernel) (fun q9 => ?_)
  refine z_astore C _ dL_seat_13 (by decide) rfl ?_
  refine z_iconst C dL_seat_15 ?_
  exact hret _ _ _ _ dL_seat_16 ⟨rfl, rfl⟩

abbrev rmL_sees : Room := { frames := 8, cells := 0, slots := 0, locals := 143 }
set_option maxHeartbeats 4000000 in
set_option maxRecDepth 100000 in
theorem w_L_sees (l : Launch) (D : va_G) (cI cJ : ClassId) (h : Nat → Nat) (σ : YS) (LT : Nat → Int) (γ : YS) (φ : Nat → Int) (w o : Int) (hw : 0 ≤ w ∧ w < σ 4 1) (ho : 0 ≤ o ∧ o < σ 4 1) (hO : Ok σ) (hL : LR LT) (ao : Nat) (fo : Nat → Int64) : Cw l yL_sees wsL_sees rmL_sees D [(cI, .int), (cJ, .long)] [.ref (h 0), vI w, vI o, .ref ao] ((ao, lo cJ fo) :: (cw cI h σ LT γ φ)) (fun z u => ∃ f' : Nat → Int64, ∃ φ' : Nat → Int, u = ((ao, lo cJ f') :: (cw cI h σ LT γ φ')) ∧ z = 0 ∧ f' 0 = (iI (bI (seeB σ LT w.toNat (σ 3 o.toNat).toNat))).toInt64) := by
  refine w_of (own := RL) (cc := cL_sees) (maxL := 5) (lv := [(0, .ref (h 0)), (1, vI w), (2, vI o), (3, .ref ao)]) (by decide) rfl rfl (Nat.le_of_ble_eq_true rfl) rfl ?_
  intro p e s m args below meth cd Q A C hX hW9 htab hret
  refine z_aload_n C 3 dL_sees_0 rfl ?_
  refine z_iconst C dL_sees_1 ?_
  refine z_aload_n C 0 dL_sees_2 rfl ?_
  refine z_iload_n C 1 dL_sees_3 rfl ?_
  refine z_iload_n C 2 dL_sees_4 rfl ?_
  refine z_callVi C (As := [vI w, vI o]) (st := [vI 0, .ref ao]) (y := yX1_sees) (w := wsX1_sees) (rm := rm_X1_sees) (wr := [(ao, lo cJ fo)]) (k' := 0) (n' := 0) [1, 2, 3, 4, 5, 6, 7, 8, 9] [0] 1 (c_X1_sees l D cI cJ h σ LT γ φ w o hw ho hO hL) (cwV 2 C.1.2.2.2.2 gL_sees_X1_sees rfl rfl rfl (by decide +kernel) ⟨Nat.le_of_ble_eq_true rfl, Nat.le_of_ble_eq_true rfl⟩) rfl rfl rfl rfl rfl (by decide) rfl rfl rfl rfl (Nat.le_of_ble_eq_true rfl) rfl rfl ⟨Nat.le_of_ble_eq_true rfl, Nat.le_of_ble_eq_true rfl⟩ dL_sees_5 ?_
  rintro z_5 _ ⟨φ'_5, rfl, hz_5⟩
  refine z_ws (ws' := ((ao, lo cJ fo) :: (cw cI h σ LT γ φ'_5))) rfl ?_
  have r_5 : z_5 = 0 ∨ z_5 = 1 := by rw [hz_5]; exact bI_01 _
  have hz_5 : z_5 = bI (seeB σ LT w.toNat (σ 3 o.toNat).toNat) := hz_5
  refine z_if_eq C (tgt := 15) dL_sees_8 (by decide) (by omega) (fun c_8 => ?_) (fun c_8 => ?_)
  ·
    refine z_lconst C (w := 0) dL_sees_15 rfl ?_
    refine z_last C 0 1 rfl rfl dL_sees_16 (fun f' hf' => ?_)
    refine z_ws (ws' := ((ao, lo cJ f') :: (cw cI h σ LT γ φ'_5))) rfl ?_
    refine z_goto C (tgt := 24) dL_sees_17 (by decide) ?_
    refine z_iconst C dL_sees_24 ?_
    exact hret _ _ _ _ dL_sees_25 ⟨f', _, rfl, rfl, by rw [hf', ← hz_5, show z_5 = 0 by omega]; rfl⟩
  ·
    refine z_lconst C (w := 1) dL_sees_11 rfl ?_
    refine z_goto C (tgt := 16) dL_sees_12 (by decide) ?_
    refine z_last C 0 1 rfl rfl dL_sees_16 (fun f' hf' => ?_)
    refine z_ws (ws' := ((ao, lo cJ f') :: (cw cI h σ LT γ φ'_5))) rfl ?_
    refine z_goto C (tgt := 24) dL_sees_17 (by decide) ?_
    refine z_iconst C dL_sees_24 ?_
    exact hret _ _ _ _ dL_sees_25 ⟨f', _, rfl, rfl, by rw [hf', ← hz_5, show z_5 = 1 by omega]; rfl⟩

abbrev rxL_sees : Room := { frames := 8, cells := 1, slots := 6, locals := 143 }
set_option maxHeartbeats 4000000 in
set_option maxRecDepth 100000 in
theorem wx_L_sees (l : Launch) (D : va_G) (cI cJ : ClassId) (h : Nat → Nat) (σ : YS) (LT : Nat → Int) (γ : YS) (φ : Nat → Int) (w o : Int) (hr : rng w ∧ rng o) (hO : Ok σ) (hb : ¬ (0 ≤ w ∧ w < σ 4 1)) (ao : Nat) (fo : Nat → Int64) : Cw l yL_sees wsL_sees rxL_sees D [(cI, .int), (cJ, .long)] [.ref (h 0), vI w, vI o, .ref ao] ((ao, lo cJ fo) :: (cw cI h σ LT γ φ)) (fun z u => u = ((ao, lo cJ fo) :: (cw cI h σ LT γ φ)) ∧ z = 1) := by
  refine w_of (own := RL) (cc := cL_sees) (maxL := 5) (lv := [(0, .ref (h 0)), (1, vI w), (2, vI o), (3, .ref ao)]) (by decide) rfl rfl (Nat.le_of_ble_eq_true rfl) rfl ?_
  intro p e s m args below meth cd Q A C hX hW9 htab hret
  refine z_aload_n C 3 dL_sees_0 rfl ?_
  refine z_iconst C dL_sees_1 ?_
  refine z_aload_n C 0 dL_sees_2 rfl ?_
  refine z_iload_n C 1 dL_sees_3 rfl ?_
  refine z_iload_n C 2 dL_sees_4 rfl ?_
  refine x_callV C hX (As := [vI w, vI o]) (st := [vI 0, .ref ao]) (y := yX1_sees) (w := wsX1_sees) (rm := rx_X1_sees) (wr := [(ao, lo cJ fo)]) (k' := 1) (n' := 6) [1, 2, 3, 4, 5, 6, 7, 8, 9] [0] 1 (x_X1_sees l D cI cJ h σ LT γ φ w o hr hO hb) (cwV 2 C.1.2.2.2.2 gL_sees_X1_sees rfl rfl rfl (by decide +kernel) ⟨Nat.le_of_ble_eq_true rfl, Nat.le_of_ble_eq_true rfl⟩) rfl rfl rfl rfl rfl (by decide) rfl rfl rfl rfl (Nat.le_of_ble_eq_true rfl) rfl rfl ⟨Nat.le_of_ble_eq_true rfl, Nat.le_of_ble_eq_true rfl⟩ dL_sees_5 (fun u hu => ?_)
  obtain rfl := hu
  refine z_catch C (hW9.1 xIO (by simp)) [] _ _ htab (fun z9 hz9 => nomatch hz9) (by decide) (by decide) (by decide +kernel) (fun q9 => ?_)
  refine z_astore C _ dL_sees_20 (by decide) rfl ?_
  refine z_iconst C dL_sees_22 ?_
  exact hret _ _ _ _ dL_sees_23 ⟨rfl, rfl⟩

set_option maxHeartbeats 4000000 in
set_option maxRecDepth 100000 in
theorem wbx_L_sees (l : Launch) (D : va_G) (cI cJ : ClassId) (h : Nat → Nat) (σ : YS) (LT : Nat → Int) (γ : YS) (φ : Nat → Int) (w o : Int) (hr : rng w ∧ rng o) (hO : Ok σ) (hw : 0 ≤ w ∧ w < σ 4 1) (hb : ¬ (0 ≤ o ∧ o < σ 4 1)) (ao : Nat) (fo : Nat → Int64) : Cw l yL_sees wsL_sees rxL_sees D [(cI, .int), (cJ, .long)] [.ref (h 0), vI w, vI o, .ref ao] ((ao, lo cJ fo) :: (cw cI h σ LT γ φ)) (fun z u => u = ((ao, lo cJ fo) :: (cw cI h σ LT γ φ)) ∧ z = 1) := by
  refine w_of (own := RL) (cc := cL_sees) (maxL := 5) (lv := [(0, .ref (h 0)), (1, vI w), (2, vI o), (3, .ref ao)]) (by decide) rfl rfl (Nat.le_of_ble_eq_true rfl) rfl ?_
  intro p e s m args below meth cd Q A C hX hW9 htab hret
  refine z_aload_n C 3 dL_sees_0 rfl ?_
  refine z_iconst C dL_sees_1 ?_
  refine z_aload_n C 0 dL_sees_2 rfl ?_
  refine z_iload_n C 1 dL_sees_3 rfl ?_
  refine z_iload_n C 2 dL_sees_4 rfl ?_
  refine x_callV C hX (As := [vI w, vI o]) (st := [vI 0, .ref ao]) (y := yX1_sees) (w := wsX1_sees) (rm := rxb_X1_sees) (wr := [(ao, lo cJ fo)]) (k' := 1) (n' := 6) [1, 2, 3, 4, 5, 6, 7, 8, 9] [0] 1 (xb_X1_sees l D cI cJ h σ LT γ φ w o hr hO hw hb) (cwV 2 C.1.2.2.2.2 gL_sees_X1_sees rfl rfl rfl (by decide +kernel) ⟨Nat.le_of_ble_eq_true rfl, Nat.le_of_ble_eq_true rfl⟩) rfl rfl rfl rfl rfl (by decide) rfl rfl rfl rfl (Nat.le_of_ble_eq_true rfl) rfl rfl ⟨Nat.le_of_ble_eq_true rfl, Nat.le_of_ble_eq_true rfl⟩ dL_sees_5 (fun u hu => ?_)
  obtain rfl := hu
  refine z_catch C (hW9.1 xIO (by simp)) [] _ _ htab (fun z9 hz9 => nomatch hz9) (by decide) (by decide) (by decide +kernel) (fun q9 => ?_)
  refine z_astore C _ dL_sees_20 (by decide) rfl ?_
  refine z_iconst C dL_sees_22 ?_
  exact hret _ _ _ _ dL_sees_23 ⟨rfl, rfl⟩

abbrev rmL_count : Room := { frames := 8, cells := 0, slots := 0, locals := 157 }
set_option maxHeartbeats 4000000 in
set_option maxRecDepth 100000 in
theorem w_L_count (l : Launch) (D : va_G) (cI cJ : ClassId) (h : Nat → Nat) (σ : YS) (LT : Nat → Int) (γ : YS) (φ : Nat → Int) (wh : Int) (hwh : 0 ≤ wh ∧ wh < 8) (hO : Ok σ) (hL : LR LT) (ao : Nat) (fo : Nat → Int64) : Cw l yL_count wsL_count rmL_count D [(cI, .int), (cJ, .long)] [.ref (h 0), vI wh, .ref ao] ((ao, lo cJ fo) :: (cw cI h σ LT γ φ)) (fun z u => ∃ f' : Nat → Int64, ∃ φ' : Nat → Int, u = ((ao, lo cJ f') :: (cw cI h σ LT γ φ')) ∧ z = 0 ∧ f' 0 = (iI (couV σ LT wh)).toInt64) := by
  refine w_of (own := RL) (cc := cL_count) (maxL := 4) (lv := [(0, .ref (h 0)), (1, vI wh), (2, .ref ao)]) (by decide) rfl rfl (Nat.le_of_ble_eq_true rfl) rfl ?_
  intro p e s m args below meth cd Q A C hX hW9 htab hret
  refine z_aload_n C 2 dL_count_0 rfl ?_
  refine z_iconst C dL_count_1 ?_
  refine z_aload_n C 0 dL_count_2 rfl ?_
  refine z_iload_n C 1 dL_count_3 rfl ?_
  refine z_callVi C (As := [vI wh]) (st := [vI 0, .ref ao]) (y := yX1_count) (w := wsX1_count) (rm := rm_X1_count) (wr := [(ao, lo cJ fo)]) (k' := 0) (n' := 0) [1, 2, 3, 4, 5, 6, 7, 8, 9] [0] 1 (c_X1_count l D cI cJ h σ LT γ φ wh hwh hO hL) (cwV 1 C.1.2.2.2.2 gL_count_X1_count rfl rfl rfl (by decide +kernel) ⟨Nat.le_of_ble_eq_true rfl, Nat.le_of_ble_eq_true rfl⟩) rfl rfl rfl rfl rfl (by decide) rfl rfl rfl rfl (Nat.le_of_ble_eq_true rfl) rfl rfl ⟨Nat.le_of_ble_eq_true rfl, Nat.le_of_ble_eq_true rfl⟩ dL_count_4 ?_
  rintro z_4 _ ⟨φ'_4, rfl, hz_4⟩
  refine z_ws (ws' := ((ao, lo cJ fo) :: (cw cI h σ LT γ φ'_4))) rfl ?_
  have hz_4 : z_4 = couV σ LT wh := hz_4
  refine z_i2l C dL_count_7 ?_
  refine z_last C 0 1 rfl rfl dL_count_8 (fun f' hf' => ?_)
  refine z_ws (ws' := ((ao, lo cJ f') :: (cw cI h σ LT γ φ'_4))) rfl ?_
  refine z_goto C (tgt := 15) dL_count_9 (by decide) ?_
  refine z_iconst C dL_count_15 ?_
  exact hret _ _ _ _ dL_count_16 ⟨f', _, rfl, rfl, by rw [hf', hz_4]⟩

abbrev rxL_count : Room := { frames := 8, cells := 1, slots := 6, locals := 157 }
set_option maxHeartbeats 4000000 in
set_option maxRecDepth 100000 in
theorem wx_L_count (l : Launch) (D : va_G) (cI cJ : ClassId) (h : Nat → Nat) (σ : YS) (LT : Nat → Int) (γ : YS) (φ : Nat → Int) (wh : Int) (hr : rng wh) (hb : ¬ (0 ≤ wh ∧ wh < 8)) (ao : Nat) (fo : Nat → Int64) : Cw l yL_count wsL_count rxL_count D [(cI, .int), (cJ, .long)] [.ref (h 0), vI wh, .ref ao] ((ao, lo cJ fo) :: (cw cI h σ LT γ φ)) (fun z u => u = ((ao, lo cJ fo) :: (cw cI h σ LT γ φ)) ∧ z = 1) := by
  refine w_of (own := RL) (cc := cL_count) (maxL := 4) (lv := [(0, .ref (h 0)), (1, vI wh), (2, .ref ao)]) (by decide) rfl rfl (Nat.le_of_ble_eq_true rfl) rfl ?_
  intro p e s m args below meth cd Q A C hX hW9 htab hret
  refine z_aload_n C 2 dL_count_0 rfl ?_
  refine z_iconst C dL_count_1 ?_
  refine z_aload_n C 0 dL_count_2 rfl ?_
  refine z_iload_n C 1 dL_count_3 rfl ?_
  refine x_callV C hX (As := [vI wh]) (st := [vI 0, .ref ao]) (y := yX1_count) (w := wsX1_count) (rm := rx_X1_count) (wr := [(ao, lo cJ fo)]) (k' := 1) (n' := 6) [1, 2, 3, 4, 5, 6, 7, 8, 9] [0] 1 (x_X1_count l D cI cJ h σ LT γ φ wh hr hb) (cwV 1 C.1.2.2.2.2 gL_count_X1_count rfl rfl rfl (by decide +kernel) ⟨Nat.le_of_ble_eq_true rfl, Nat.le_of_ble_eq_true rfl⟩) rfl rfl rfl rfl rfl (by decide) rfl rfl rfl rfl (Nat.le_of_ble_eq_true rfl) rfl rfl ⟨Nat.le_of_ble_eq_true rfl, Nat.le_of_ble_eq_true rfl⟩ dL_count_4 (fun u hu => ?_)
  obtain rfl := hu
  refine z_catch C (hW9.1 xIO (by simp)) [] _ _ htab (fun z9 hz9 => nomatch hz9) (by decide) (by decide) (by decide +kernel) (fun q9 => ?_)
  refine z_astore_n C _ dL_count_12 (by decide) rfl ?_
  refine z_iconst C dL_count_13 ?_
  exact hret _ _ _ _ dL_count_14 ⟨rfl, rfl⟩

abbrev rmL_far : Room := { frames := 8, cells := 0, slots := 0, locals := 143 }
set_option maxHeartbeats 4000000 in
set_option maxRecDepth 100000 in
theorem w_L_far (l : Launch) (D : va_G) (cI cJ : ClassId) (h : Nat → Nat) (σ : YS) (LT : Nat → Int) (γ : YS) (φ : Nat → Int) (f t : Int) (hf : 0 ≤ f ∧ f < 144) (ht : 0 ≤ t ∧ t < 144) (ao : Nat) (fo : Nat → Int64) : Cw l yL_far wsL_far rmL_far D [(cI, .int), (cJ, .long)] [.ref (h 0), vI f, vI t, .ref ao] ((ao, lo cJ fo) :: (cw cI h σ LT γ φ)) (fun z u => ∃ f' : Nat → Int64, ∃ φ' : Nat → Int, u = ((ao, lo cJ f') :: (cw cI h σ LT γ φ')) ∧ z = 0 ∧ f' 0 = (iI ((ray (σ 0) f t).2)).toInt64) := by
  refine w_of (own := RL) (cc := cL_far) (maxL := 5) (lv := [(0, .ref (h 0)), (1, vI f), (2, vI t), (3, .ref ao)]) (by decide) rfl rfl (Nat.le_of_ble_eq_true rfl) rfl ?_
  intro p e s m args below meth cd Q A C hX hW9 htab hret
  refine z_aload_n C 3 dL_far_0 rfl ?_
  refine z_iconst C dL_far_1 ?_
  refine z_aload_n C 0 dL_far_2 rfl ?_
  refine z_iload_n C 1 dL_far_3 rfl ?_
  refine z_iload_n C 2 dL_far_4 rfl ?_
  refine z_callVi C (As := [vI f, vI t]) (st := [vI 0, .ref ao]) (y := yX1_far) (w := wsX1_far) (rm := rm_X1_far) (wr := [(ao, lo cJ fo)]) (k' := 0) (n' := 0) [1, 2, 3, 4, 5, 6, 7, 8, 9] [0] 1 (c_X1_far l D cI cJ h σ LT γ φ f t hf ht) (cwV 2 C.1.2.2.2.2 gL_far_X1_far rfl rfl rfl (by decide +kernel) ⟨Nat.le_of_ble_eq_true rfl, Nat.le_of_ble_eq_true rfl⟩) rfl rfl rfl rfl rfl (by decide) rfl rfl rfl rfl (Nat.le_of_ble_eq_true rfl) rfl rfl ⟨Nat.le_of_ble_eq_true rfl, Nat.le_of_ble_eq_true rfl⟩ dL_far_5 ?_
  rintro z_5 _ ⟨φ'_5, rfl, hz_5⟩
  refine z_ws (ws' := ((ao, lo cJ fo) :: (cw cI h σ LT γ φ'_5))) rfl ?_
  have hz_5 : z_5 = (ray (σ 0) f t).2 := hz_5
  refine z_i2l C dL_far_8 ?_
  refine z_last C 0 1 rfl rfl dL_far_9 (fun f' hf' => ?_)
  refine z_ws (ws' := ((ao, lo cJ f') :: (cw cI h σ LT γ φ'_5))) rfl ?_
  refine z_goto C (tgt := 17) dL_far_10 (by decide) ?_
  refine z_iconst C dL_far_17 ?_
  exact hret _ _ _ _ dL_far_18 ⟨f', _, rfl, rfl, by rw [hf', hz_5]⟩

abbrev rxL_far : Room := { frames := 8, cells := 1, slots := 6, locals := 143 }
set_option maxHeartbeats 4000000 in
set_option maxRecDepth 100000 in
theorem wx_L_far (l : Launch) (D : va_G) (cI cJ : ClassId) (h : Nat → Nat) (σ : YS) (LT : Nat → Int) (γ : YS) (φ : Nat → Int) (f t : Int) (hr : rng f ∧ rng t) (hb : ¬ (0 ≤ f ∧ f < 144)) (ao : Nat) (fo : Nat → Int64) : Cw l yL_far wsL_far rxL_far D [(cI, .int), (cJ, .long)] [.ref (h 0), vI f, vI t, .ref ao] ((ao, lo cJ fo) :: (cw cI h σ LT γ φ)) (fun z u => u = ((ao, lo cJ fo) :: (cw cI h σ LT γ φ)) ∧ z = 1) := by
  refine w_of (own := RL) (cc := cL_far) (maxL := 5) (lv := [(0, .ref (h 0)), (1, vI f), (2, vI t), (3, .ref ao)]) (by decide) rfl rfl (Nat.le_of_ble_eq_true rfl) rfl ?_
  intro p e s m args below meth cd Q A C hX hW9 htab hret
  refine z_aload_n C 3 dL_far_0 rfl ?_
  refine z_iconst C dL_far_1 ?_
  refine z_aload_n C 0 dL_far_2 rfl ?_
  refine z_iload_n C 1 dL_far_3 rfl ?_
  refine z_iload_n C 2 dL_far_4 rfl ?_
  refine x_callV C hX (As := [vI f, vI t]) (st := [vI 0, .ref ao]) (y := yX1_far) (w := wsX1_far) (rm := rx_X1_far) (wr := [(ao, lo cJ fo)]) (k' := 1) (n' := 6) [1, 2, 3, 4, 5, 6, 7, 8, 9] [0] 1 (x_X1_far l D cI cJ h σ LT γ φ f t hr hb) (cwV 2 C.1.2.2.2.2 gL_far_X1_far rfl rfl rfl (by decide +kernel) ⟨Nat.le_of_ble_eq_true rfl, Nat.le_of_ble_eq_true rfl⟩) rfl rfl rfl rfl rfl (by decide) rfl rfl rfl rfl (Nat.le_of_ble_eq_true rfl) rfl rfl ⟨Nat.le_of_ble_eq_true rfl, Nat.le_of_ble_eq_true rfl⟩ dL_far_5 (fun u hu => ?_)
  obtain rfl := hu
  refine z_catch C (hW9.1 xIO (by simp)) [] _ _ htab (fun z9 hz9 => nomatch hz9) (by decide) (by decide) (by decide +kernel) (fun q9 => ?_)
  refine z_astore C _ dL_far_13 (by decide) rfl ?_
  refine z_iconst C dL_far_15 ?_
  exact hret _ _ _ _ dL_far_16 ⟨rfl, rfl⟩

set_option maxHeartbeats 4000000 in
set_option maxRecDepth 100000 in
theorem wbx_L_far (l : Launch) (D : va_G) (cI cJ : ClassId) (h : Nat → Nat) (σ : YS) (LT : Nat → Int) (γ : YS) (φ : Nat → Int) (f t : Int) (hr : rng f ∧ rng t) (hf : 0 ≤ f ∧ f < 144) (hb : ¬ (0 ≤ t ∧ t < 144)) (ao : Nat) (fo : Nat → Int64) : Cw l yL_far wsL_far rxL_far D [(cI, .int), (cJ, .long)] [.ref (h 0), vI f, vI t, .ref ao] ((ao, lo cJ fo) :: (cw cI h σ LT γ φ)) (fun z u => u = ((ao, lo cJ fo) :: (cw cI h σ LT γ φ)) ∧ z = 1) := by
  refine w_of (own := RL) (cc := cL_far) (maxL := 5) (lv := [(0, .ref (h 0)), (1, vI f), (2, vI t), (3, .ref ao)]) (by decide) rfl rfl (Nat.le_of_ble_eq_true rfl) rfl ?_
  intro p e s m args below meth cd Q A C hX hW9 htab hret
  refine z_aload_n C 3 dL_far_0 rfl ?_
  refine z_iconst C dL_far_1 ?_
  refine z_aload_n C 0 dL_far_2 rfl ?_
  refine z_iload_n C 1 dL_far_3 rfl ?_
  refine z_iload_n C 2 dL_far_4 rfl ?_
  refine x_callV C hX (As := [vI f, vI t]) (st := [vI 0, .ref ao]) (y := yX1_far) (w := wsX1_far) (rm := rxb_X1_far) (wr := [(ao, lo cJ fo)]) (k' := 1) (n' := 6) [1, 2, 3, 4, 5, 6, 7, 8, 9] [0] 1 (xb_X1_far l D cI cJ h σ LT γ φ f t hr hf hb) (cwV 2 C.1.2.2.2.2 gL_far_X1_far rfl rfl rfl (by decide +kernel) ⟨Nat.le_of_ble_eq_true rfl, Nat.le_of_ble_eq_true rfl⟩) rfl rfl rfl rfl rfl (by decide) rfl rfl rfl rfl (Nat.le_of_ble_eq_true rfl) rfl rfl ⟨Nat.le_of_ble_eq_true rfl, Nat.le_of_ble_eq_true rfl⟩ dL_far_5 (fun u hu => ?_)
  obtain rfl := hu
  refine z_catch C (hW9.1 xIO (by simp)) [] _ _ htab (fun z9 hz9 => nomatch hz9) (by decide) (by decide) (by decide +kernel) (fun q9 => ?_)
  refine z_astore C _ dL_far_13 (by decide) rfl ?_
  refine z_iconst C dL_far_15 ?_
  exact hret _ _ _ _ dL_far_16 ⟨rfl, rfl⟩

abbrev rmL_stops : Room := { frames := 8, cells := 0, slots := 0, locals := 142 }
set_option maxHeartbeats 4000000 in
set_option maxRecDepth 100000 in
theorem w_L_stops (l : Launch) (D : va_G) (cI cJ : ClassId) (h : Nat → Nat) (σ : YS) (LT : Nat → Int) (γ : YS) (φ : Nat → Int) (f t : Int) (hf : 0 ≤ f ∧ f < 144) (ht : 0 ≤ t ∧ t < 144) (hO : Ok σ) (ao : Nat) (fo : Nat → Int64) : Cw l yL_stops wsL_stops rmL_stops D [(cI, .int), (cJ, .long)] [.ref (h 0), vI f, vI t, .ref ao] ((ao, lo cJ fo) :: (cw cI h σ LT γ φ)) (fun z u => ∃ f' : Nat → Int64, ∃ φ' : Nat → Int, u = ((ao, lo cJ f') :: (cw cI h σ LT γ φ')) ∧ z = 0 ∧ f' 0 = (iI ((ray (σ 0) f t).1)).toInt64) := by
  refine w_of (own := RL) (cc := cL_stops) (maxL := 5) (lv := [(0, .ref (h 0)), (1, vI f), (2, vI t), (3, .ref ao)]) (by decide) rfl rfl (Nat.le_of_ble_eq_true rfl) rfl ?_
  intro p e s m args below meth cd Q A C hX hW9 htab hret
  refine z_aload_n C 3 dL_stops_0 rfl ?_
  refine z_iconst C dL_stops_1 ?_
  refine z_aload_n C 0 dL_stops_2 rfl ?_
  refine z_iload_n C 1 dL_stops_3 rfl ?_
  refine z_iload_n C 2 dL_stops_4 rfl ?_
  refine z_callVi C (As := [vI f, vI t]) (st := [vI 0, .ref ao]) (y := yX1_stops) (w := wsX1_stops) (rm := rm_X1_stops) (wr := [(ao, lo cJ fo)]) (k' := 0) (n' := 0) [1, 2, 3, 4, 5, 6, 7, 8, 9] [0] 1 (c_X1_stops l D cI cJ h σ LT γ φ f t hf ht hO) (cwV 2 C.1.2.2.2.2 gL_stops_X1_stops rfl rfl rfl (by decide +kernel) ⟨Nat.le_of_ble_eq_true rfl, Nat.le_of_ble_eq_true rfl⟩) rfl rfl rfl rfl rfl (by decide) rfl rfl rfl rfl (Nat.le_of_ble_eq_true rfl) rfl rfl ⟨Nat.le_of_ble_eq_true rfl, Nat.le_of_ble_eq_true rfl⟩ dL_stops_5 ?_
  rintro z_5 _ ⟨φ'_5, rfl, hz_5⟩
  refine z_ws (ws' := ((ao, lo cJ fo) :: (cw cI h σ LT γ φ'_5))) rfl ?_
  have hz_5 : z_5 = (ray (σ 0) f t).1 := hz_5
  refine z_i2l C dL_stops_8 ?_
  refine z_last C 0 1 rfl rfl dL_stops_9 (fun f' hf' => ?_)
  refine z_ws (ws' := ((ao, lo cJ f') :: (cw cI h σ LT γ φ'_5))) rfl ?_
  refine z_goto C (tgt := 17) dL_stops_10 (by decide) ?_
  refine z_iconst C dL_stops_17 ?_
  exact hret _ _ _ _ dL_stops_18 ⟨f', _, rfl, rfl, by rw [hf', hz_5]⟩

abbrev rxL_stops : Room := { frames := 8, cells := 1, slots := 6, locals := 142 }
set_option maxHeartbeats 4000000 in
set_option maxRecDepth 100000 in
theorem wx_L_stops (l : Launch) (D : va_G) (cI cJ : ClassId) (h : Nat → Nat) (σ : YS) (LT : Nat → Int) (γ : YS) (φ : Nat → Int) (f t : Int) (hr : rng f ∧ rng t) (hb : ¬ (0 ≤ f ∧ f < 144)) (ao : Nat) (fo : Nat → Int64) : Cw l yL_stops wsL_stops rxL_stops D [(cI, .int), (cJ, .long)] [.ref (h 0), vI f, vI t, .ref ao] ((ao, lo cJ fo) :: (cw cI h σ LT γ φ)) (fun z u => u = ((ao, lo cJ fo) :: (cw cI h σ LT γ φ)) ∧ z = 1) := by
  refine w_of (own := RL) (cc := cL_stops) (maxL := 5) (lv := [(0, .ref (h 0)), (1, vI f), (2, vI t), (3, .ref ao)]) (by decide) rfl rfl (Nat.le_of_ble_eq_true rfl) rfl ?_
  intro p e s m args below meth cd Q A C hX hW9 htab hret
  refine z_aload_n C 3 dL_stops_0 rfl ?_
  refine z_iconst C dL_stops_1 ?_
  refine z_aload_n C 0 dL_stops_2 rfl ?_
  refine z_iload_n C 1 dL_stops_3 rfl ?_
  refine z_iload_n C 2 dL_stops_4 rfl ?_
  refine x_callV C hX (As := [vI f, vI t]) (st := [vI 0, .ref ao]) (y := yX1_stops) (w := wsX1_stops) (rm := rx_X1_stops) (wr := [(ao, lo cJ fo)]) (k' := 1) (n' := 6) [1, 2, 3, 4, 5, 6, 7, 8, 9] [0] 1 (x_X1_stops l D cI cJ h σ LT γ φ f t hr hb) (cwV 2 C.1.2.2.2.2 gL_stops_X1_stops rfl rfl rfl (by decide +kernel) ⟨Nat.le_of_ble_eq_true rfl, Nat.le_of_ble_eq_true rfl⟩) rfl rfl rfl rfl rfl (by decide) rfl rfl rfl rfl (Nat.le_of_ble_eq_true rfl) rfl rfl ⟨Nat.le_of_ble_eq_true rfl, Nat.le_of_ble_eq_true rfl⟩ dL_stops_5 (fun u hu => ?_)
  obtain rfl := hu
  refine z_catch C (hW9.1 xIO (by simp)) [] _ _ htab (fun z9 hz9 => nomatch hz9) (by decide) (by decide) (by decide +kernel) (fun q9 => ?_)
  refine z_astore C _ dL_stops_13 (by decide) rfl ?_
  refine z_iconst C dL_stops_15 ?_
  exact hret _ _ _ _ dL_stops_16 ⟨rfl, rfl⟩

set_option maxHeartbeats 4000000 in
set_option maxRecDepth 100000 in
theorem wbx_L_stops (l : Launch) (D : va_G) (cI cJ : ClassId) (h : Nat → Nat) (σ : YS) (LT : Nat → Int) (γ : YS) (φ : Nat → Int) (f t : Int) (hr : rng f ∧ rng t) (hf : 0 ≤ f ∧ f < 144) (hb : ¬ (0 ≤ t ∧ t < 144)) (ao : Nat) (fo : Nat → Int64) : Cw l yL_stops wsL_stops rxL_stops D [(cI, .int), (cJ, .long)] [.ref (h 0), vI f, vI t, .ref ao] ((ao, lo cJ fo) :: (cw cI h σ LT γ φ)) (fun z u => u = ((ao, lo cJ fo) :: (cw cI h σ LT γ φ)) ∧ z = 1) := by
  refine w_of (own := RL) (cc := cL_stops) (maxL := 5) (lv := [(0, .ref (h 0)), (1, vI f), (2, vI t), (3, .ref ao)]) (by decide) rfl rfl (Nat.le_of_ble_eq_true rfl) rfl ?_
  intro p e s m args below meth cd Q A C hX hW9 htab hret
  refine z_aload_n C 3 dL_stops_0 rfl ?_
  refine z_iconst C dL_stops_1 ?_
  refine z_aload_n C 0 dL_stops_2 rfl ?_
  refine z_iload_n C 1 dL_stops_3 rfl ?_
  refine z_iload_n C 2 dL_stops_4 rfl ?_
  refine x_callV C hX (As := [vI f, vI t]) (st := [vI 0, .ref ao]) (y := yX1_stops) (w := wsX1_stops) (rm := rxb_X1_stops) (wr := [(ao, lo cJ fo)]) (k' := 1) (n' := 6) [1, 2, 3, 4, 5, 6, 7, 8, 9] [0] 1 (xb_X1_stops l D cI cJ h σ LT γ φ f t hr hf hb) (cwV 2 C.1.2.2.2.2 gL_stops_X1_stops rfl rfl rfl (by decide +kernel) ⟨Nat.le_of_ble_eq_true rfl, Nat.le_of_ble_eq_true rfl⟩) rfl rfl rfl rfl rfl (by decide) rfl rfl rfl rfl (Nat.le_of_ble_eq_true rfl) rfl rfl ⟨Nat.le_of_ble_eq_true rfl, Nat.le_of_ble_eq_true rfl⟩ dL_stops_5 (fun u hu => ?_)
  obtain rfl := hu
  refine z_catch C (hW9.1 xIO (by simp)) [] _ _ htab (fun z9 hz9 => nomatch hz9) (by decide) (by decide) (by decide +kernel) (fun q9 => ?_)
  refine z_astore C _ dL_stops_13 (by decide) rfl ?_
  refine z_iconst C dL_stops_15 ?_
  exact hret _ _ _ _ dL_stops_16 ⟨rfl, rfl⟩

abbrev rmL_creeps : Room := { frames := 8, cells := 0, slots := 0, locals := 144 }
set_option maxHeartbeats 4000000 in
set_option maxRecDepth 100000 in
theorem w_L_creeps (l : Launch) (D : va_G) (cI cJ : ClassId) (h : Nat → Nat) (σ : YS) (LT : Nat → Int) (γ : YS) (φ : Nat → Int) (w x y : Int) (hw : 0 ≤ w ∧ w < σ 4 1) (hx : 0 ≤ x ∧ x < 12) (hy : 0 ≤ y ∧ y < 12) (hO : Ok σ) (hL : LR LT) (ao : Nat) (fo : Nat → Int64) : Cw l yL_creeps wsL_creeps rmL_creeps D [(cI, .int), (cJ, .long)] [.ref (h 0), vI w, vI x, vI y, .ref ao] ((ao, lo cJ fo) :: (cw cI h σ LT γ φ)) (fun z u => ∃ f' : Nat → Int64, ∃ γ' : YS, u = ((ao, lo cJ f') :: (cw cI h σ LT γ' φ)) ∧ z = 0 ∧ f' 0 = (iI (dS nbN (frB σ LT) (σ 3 w.toNat).toNat (12 * y + x).toNat)).toInt64) := by
  refine w_of (own := RL) (cc := cL_creeps) (maxL := 6) (lv := [(0, .ref (h 0)), (1, vI w), (2, vI x), (3, vI y), (4, .ref ao)]) (by decide) rfl rfl (Nat.le_of_ble_eq_true rfl) rfl ?_
  intro p e s m args below meth cd Q A C hX hW9 htab hret
  refine z_aload C 4 dL_creeps_0 rfl ?_
  refine z_iconst C dL_creeps_2 ?_
  refine z_aload_n C 0 dL_creeps_3 rfl ?_
  refine z_iload_n C 1 dL_creeps_4 rfl ?_
  refine z_iload_n C 2 dL_creeps_5 rfl ?_
  refine z_iload_n C 3 dL_creeps_6 rfl ?_
  refine z_callVi C (As := [vI w, vI x, vI y]) (st := [vI 0, .ref ao]) (y := yX1_creeps) (w := wsX1_creeps) (rm := rm_X1_creeps) (wr := [(ao, lo cJ fo)]) (k' := 0) (n' := 0) [1, 2, 3, 4, 5, 6, 7, 8, 9] [0] 1 (c_X1_creeps l D cI cJ h σ LT γ φ w x y hw hx hy hO hL) (cwV 3 C.1.2.2.2.2 gL_creeps_X1_creeps rfl rfl rfl (by decide +kernel) ⟨Nat.le_of_ble_eq_true rfl, Nat.le_of_ble_eq_true rfl⟩) rfl rfl rfl rfl rfl (by decide) rfl rfl rfl rfl (Nat.le_of_ble_eq_true rfl) rfl rfl ⟨Nat.le_of_ble_eq_true rfl, Nat.le_of_ble_eq_true rfl⟩ dL_creeps_7 ?_
  rintro z_7 _ ⟨γ'_7, rfl, hz_7⟩
  refine z_ws (ws' := ((ao, lo cJ fo) :: (cw cI h σ LT γ'_7 φ))) rfl ?_
  have hz_7 : z_7 = dS nbN (frB σ LT) (σ 3 w.toNat).toNat (12 * y + x).toNat := hz_7
  refine z_i2l C dL_creeps_10 ?_
  refine z_last C 0 1 rfl rfl dL_creeps_11 (fun f' hf' => ?_)
  refine z_ws (ws' := ((ao, lo cJ f') :: (cw cI h σ LT γ'_7 φ))) rfl ?_
  refine z_goto C (tgt := 19) dL_creeps_12 (by decide) ?_
  refine z_iconst C dL_creeps_19 ?_
  exact hret _ _ _ _ dL_creeps_20 ⟨f', _, rfl, rfl, by rw [hf', hz_7]⟩

abbrev rxL_creeps : Room := { frames := 8, cells := 1, slots := 6, locals := 144 }
set_option maxHeartbeats 4000000 in
set_option maxRecDepth 100000 in
theorem wx_L_creeps (l : Launch) (D : va_G) (cI cJ : ClassId) (h : Nat → Nat) (σ : YS) (LT : Nat → Int) (γ : YS) (φ : Nat → Int) (w x y : Int) (hr : rng w ∧ rng x ∧ rng y) (hO : Ok σ) (hb : ¬ (0 ≤ w ∧ w < σ 4 1)) (ao : Nat) (fo : Nat → Int64) : Cw l yL_creeps wsL_creeps rxL_creeps D [(cI, .int), (cJ, .long)] [.ref (h 0), vI w, vI x, vI y, .ref ao] ((ao, lo cJ fo) :: (cw cI h σ LT γ φ)) (fun z u => u = ((ao, lo cJ fo) :: (cw cI h σ LT γ φ)) ∧ z = 1) := by
  refine w_of (own := RL) (cc := cL_creeps) (maxL := 6) (lv := [(0, .ref (h 0)), (1, vI w), (2, vI x), (3, vI y), (4, .ref ao)]) (by decide) rfl rfl (Nat.le_of_ble_eq_true rfl) rfl ?_
  intro p e s m args below meth cd Q A C hX hW9 htab hret
  refine z_aload C 4 dL_creeps_0 rfl ?_
  refine z_iconst C dL_creeps_2 ?_
  refine z_aload_n C 0 dL_creeps_3 rfl ?_
  refine z_iload_n C 1 dL_creeps_4 rfl ?_
  refine z_iload_n C 2 dL_creeps_5 rfl ?_
  refine z_iload_n C 3 dL_creeps_6 rfl ?_
  refine x_callV C hX (As := [vI w, vI x, vI y]) (st := [vI 0, .ref ao]) (y := yX1_creeps) (w := wsX1_creeps) (rm := rx_X1_creeps) (wr := [(ao, lo cJ fo)]) (k' := 1) (n' := 6) [1, 2, 3, 4, 5, 6, 7, 8, 9] [0] 1 (x_X1_creeps l D cI cJ h σ LT γ φ w x y hr hO hb) (cwV 3 C.1.2.2.2.2 gL_creeps_X1_creeps rfl rfl rfl (by decide +kernel) ⟨Nat.le_of_ble_eq_true rfl, Nat.le_of_ble_eq_true rfl⟩) rfl rfl rfl rfl rfl (by decide) rfl rfl rfl rfl (Nat.le_of_ble_eq_true rfl) rfl rfl ⟨Nat.le_of_ble_eq_true rfl, Nat.le_of_ble_eq_true rfl⟩ dL_creeps_7 (fun u hu => ?_)
  obtain rfl := hu
  refine z_catch C (hW9.1 xIO (by simp)) [] _ _ htab (fun z9 hz9 => nomatch hz9) (by decide) (by decide) (by decide +kernel) (fun q9 => ?_)
  refine z_astore C _ dL_creeps_15 (by decide) rfl ?_
  refine z_iconst C dL_creeps_17 ?_
  exact hret _ _ _ _ dL_creeps_18 ⟨rfl, rfl⟩

set_option maxHeartbeats 4000000 in
set_option maxRecDepth 100000 in
theorem wbx_L_creeps (l : Launch) (D : va_G) (cI cJ : ClassId) (h : Nat → Nat) (σ : YS) (LT : Nat → Int) (γ : YS) (φ : Nat → Int) (w x y : Int) (hr : rng w ∧ rng x ∧ rng y) (hO : Ok σ) (hw : 0 ≤ w ∧ w < σ 4 1) (hb : ¬ ((0 ≤ x ∧ x < 12) ∧ 0 ≤ y ∧ y < 12)) (ao : Nat) (fo : Nat → Int64) : Cw l yL_creeps wsL_creeps rxL_creeps D [(cI, .int), (cJ, .long)] [.ref (h 0), vI w, vI x, vI y, .ref ao] ((ao, lo cJ fo) :: (cw cI h σ LT γ φ)) (fun z u => u = ((ao, lo cJ fo) :: (cw cI h σ LT γ φ)) ∧ z = 1) := by
  refine w_of (own := RL) (cc := cL_creeps) (maxL := 6) (lv := [(0, .ref (h 0)), (1, vI w), (2, vI x), (3, vI y), (4, .ref ao)]) (by decide) rfl rfl (Nat.le_of_ble_eq_true rfl) rfl ?_
  intro p e s m args below meth cd Q A C hX hW9 htab hret
  refine z_aload C 4 dL_creeps_0 rfl ?_
  refine z_iconst C dL_creeps_2 ?_
  refine z_aload_n C 0 dL_creeps_3 rfl ?_
  refine z_iload_n C 1 dL_creeps_4 rfl ?_
  refine z_iload_n C 2 dL_creeps_5 rfl ?_
  refine z_iload_n C 3 dL_creeps_6 rfl ?_
  refine x_callV C hX (As := [vI w, vI x, vI y]) (st := [vI 0, .ref ao]) (y := yX1_creeps) (w := wsX1_creeps) (rm := rxb_X1_creeps) (wr := [(ao, lo cJ fo)]) (k' := 1) (n' := 6) [1, 2, 3, 4, 5, 6, 7, 8, 9] [0] 1 (xb_X1_creeps l D cI cJ h σ LT γ φ w x y hr hO hw hb) (cwV 3 C.1.2.2.2.2 gL_creeps_X1_creeps rfl rfl rfl (by decide +kernel) ⟨Nat.le_of_ble_eq_true rfl, Nat.le_of_ble_eq_true rfl⟩) rfl rfl rfl rfl rfl (by decide) rfl rfl rfl rfl (Nat.le_of_ble_eq_true rfl) rfl rfl ⟨Nat.le_of_ble_eq_true rfl, Nat.le_of_ble_eq_true rfl⟩ dL_creeps_7 (fun u hu => ?_)
  obtain rfl := hu
  refine z_catch C (hW9.1 xIO (by simp)) [] _ _ htab (fun z9 hz9 => nomatch hz9) (by decide) (by decide) (by decide +kernel) (fun q9 => ?_)
  refine z_astore C _ dL_creeps_15 (by decide) rfl ?_
  refine z_iconst C dL_creeps_17 ?_
  exact hret _ _ _ _ dL_creeps_18 ⟨rfl, rfl⟩

abbrev rmL_would : Room := { frames := 8, cells := 0, slots := 0, locals := 166 }
set_option maxHeartbeats 4000000 in
set_option maxRecDepth 100000 in
theorem w_L_would (l : Launch) (D : va_G) (cI cJ : ClassId) (h : Nat → Nat) (σ : YS) (LT : Nat → Int) (γ : YS) (φ : Nat → Int) (x y kd : Int) (hx : 0 ≤ x ∧ x < 12) (hy : 0 ≤ y ∧ y < 12) (hk : 0 ≤ kd ∧ kd < 4) (hO : Ok σ) (hL : LR LT) (ao : Nat) (fo : Nat → Int64) : Cw l yL_would wsL_would rmL_would D [(cI, .int), (cJ, .long)] [.ref (h 0), vI x, vI y, vI kd, .ref ao] ((ao, lo cJ fo) :: (cw cI h σ LT γ φ)) (fun z u => ∃ f' : Nat → Int64, ∃ φ' : Nat → Int, u = ((ao, lo cJ f') :: (cw cI h σ LT γ φ')) ∧ z = 0 ∧ f' 0 = (iI (woV σ LT (12 * y + x).toNat kd)).toInt64) := by
  refine w_of (own := RL) (cc := cL_would) (maxL := 6) (lv := [(0, .ref (h 0)), (1, vI x), (2, vI y), (3, vI kd), (4, .ref ao)]) (by decide) rfl rfl (Nat.le_of_ble_eq_true rfl) rfl ?_
  intro p e s m args below meth cd Q A C hX hW9 htab hret
  refine z_aload C 4 dL_would_0 rfl ?_
  refine z_iconst C dL_would_2 ?_
  refine z_aload_n C 0 dL_would_3 rfl ?_
  refine z_iload_n C 1 dL_would_4 rfl ?_
  refine z_iload_n C 2 dL_would_5 rfl ?_
  refine z_iload_n C 3 dL_would_6 rfl ?_
  refine z_callVi C (As := [vI x, vI y, vI kd]) (st := [vI 0, .ref ao]) (y := yX1_would) (w := wsX1_would) (rm := rm_X1_would) (wr := [(ao, lo cJ fo)]) (k' := 0) (n' := 0) [1, 2, 3, 4, 5, 6, 7, 8, 9] [0] 1 (c_X1_would l D cI cJ h σ LT γ φ x y kd hx hy hk hO hL) (cwV 3 C.1.2.2.2.2 gL_would_X1_would rfl rfl rfl (by decide +kernel) ⟨Nat.le_of_ble_eq_true rfl, Nat.le_of_ble_eq_true rfl⟩) rfl rfl rfl rfl rfl (by decide) rfl rfl rfl rfl (Nat.le_of_ble_eq_true rfl) rfl rfl ⟨Nat.le_of_ble_eq_true rfl, Nat.le_of_ble_eq_true rfl⟩ dL_would_7 ?_
  rintro z_7 _ ⟨φ'_7, rfl, hz_7⟩
  refine z_ws (ws' := ((ao, lo cJ fo) :: (cw cI h σ LT γ φ'_7))) rfl ?_
  have hz_7 : z_7 = woV σ LT (12 * y + x).toNat kd := hz_7
  refine z_i2l C dL_would_10 ?_
  refine z_last C 0 1 rfl rfl dL_would_11 (fun f' hf' => ?_)
  refine z_ws (ws' := ((ao, lo cJ f') :: (cw cI h σ LT γ φ'_7))) rfl ?_
  refine z_goto C (tgt := 23) dL_would_12 (by decide) ?_
  refine z_iconst C dL_would_23 ?_
  exact hret _ _ _ _ dL_would_24 ⟨f', _, rfl, rfl, by rw [hf', hz_7]⟩

abbrev rxL_would : Room := { frames := 8, cells := 1, slots := 6, locals := 166 }
set_option maxHeartbeats 4000000 in
set_option maxRecDepth 100000 in
theorem wx_L_would (l : Launch) (D : va_G) (cI cJ : ClassId) (h : Nat → Nat) (σ : YS) (LT : Nat → Int) (γ : YS) (φ : Nat → Int) (x y kd : Int) (hr : rng x ∧ rng y ∧ rng kd) (hb : ¬ ((0 ≤ x ∧ x < 12) ∧ 0 ≤ y ∧ y < 12)) (ao : Nat) (fo : Nat → Int64) : Cw l yL_would wsL_would rxL_would D [(cI, .int), (cJ, .long)] [.ref (h 0), vI x, vI y, vI kd, .ref ao] ((ao, lo cJ fo) :: (cw cI h σ LT γ φ)) (fun z u => u = ((ao, lo cJ fo) :: (cw cI h σ LT γ φ)) ∧ z = 1) := by
  refine w_of (own := RL) (cc := cL_would) (maxL := 6) (lv := [(0, .ref (h 0)), (1, vI x), (2, vI y), (3, vI kd), (4, .ref ao)]) (by decide) rfl rfl (Nat.le_of_ble_eq_true rfl) rfl ?_
  intro p e s m args below meth cd Q A C hX hW9 htab hret
  refine z_aload C 4 dL_would_0 rfl ?_
  refine z_iconst C dL_would_2 ?_
  refine z_aload_n C 0 dL_would_3 rfl ?_
  refine z_iload_n C 1 dL_would_4 rfl ?_
  refine z_iload_n C 2 dL_would_5 rfl ?_
  refine z_iload_n C 3 dL_would_6 rfl ?_
  refine x_callV C hX (As := [vI x, vI y, vI kd]) (st := [vI 0, .ref ao]) (y := yX1_would) (w := wsX1_would) (rm := rx_X1_would) (wr := [(ao, lo cJ fo)]) (k' := 1) (n' := 6) [1, 2, 3, 4, 5, 6, 7, 8, 9] [0] 1 (x_X1_would l D cI cJ h σ LT γ φ x y kd hr hb) (cwV 3 C.1.2.2.2.2 gL_would_X1_would rfl rfl rfl (by decide +kernel) ⟨Nat.le_of_ble_eq_true rfl, Nat.le_of_ble_eq_true rfl⟩) rfl rfl rfl rfl rfl (by decide) rfl rfl rfl rfl (Nat.le_of_ble_eq_true rfl) rfl rfl ⟨Nat.le_of_ble_eq_true rfl, Nat.le_of_ble_eq_true rfl⟩ dL_would_7 (fun u hu => ?_)
  obtain rfl := hu
  refine z_catch C (hW9.1 xIO (by simp)) [] _ _ htab (fun z9 hz9 => nomatch hz9) (by decide) (by decide) (by decide +kernel) (fun q9 => ?_)
  refine z_astore C _ dL_would_15 (by decide) rfl ?_
  refine z_iconst C dL_would_17 ?_
  exact hret _ _ _ _ dL_would_18 ⟨rfl, rfl⟩

set_option maxHeartbeats 4000000 in
set_option maxRecDepth 100000 in
theorem wbx_L_would (l : Launch) (D : va_G) (cI cJ : ClassId) (h : Nat → Nat) (σ : YS) (LT : Nat → Int) (γ : YS) (φ : Nat → Int) (x y kd : Int) (hr : rng x ∧ rng y ∧ rng kd) (hp : ((0 ≤ x ∧ x < 12) ∧ 0 ≤ y ∧ y < 12)) (hb : ¬ (0 ≤ kd ∧ kd < 4)) (ao : Nat) (fo : Nat → Int64) : Cw l yL_would wsL_would rxL_would D [(cI, .int), (cJ, .long)] [.ref (h 0), vI x, vI y, vI kd, .ref ao] ((ao, lo cJ fo) :: (cw cI h σ LT γ φ)) (fun z u => u = ((ao, lo cJ fo) :: (cw cI h σ LT γ φ)) ∧ z = 2) := by
  refine w_of (own := RL) (cc := cL_would) (maxL := 6) (lv := [(0, .ref (h 0)), (1, vI x), (2, vI y), (3, vI kd), (4, .ref ao)]) (by decide) rfl rfl (Nat.le_of_ble_eq_true rfl) rfl ?_
  intro p e s m args below meth cd Q A C hX hW9 htab hret
  refine z_aload C 4 dL_would_0 rfl ?_
  refine z_iconst C dL_would_2 ?_
  refine z_aload_n C 0 dL_would_3 rfl ?_
  refine z_iload_n C 1 dL_would_4 rfl ?_
  refine z_iload_n C 2 dL_would_5 rfl ?_
  refine z_iload_n C 3 dL_would_6 rfl ?_
  refine x_callV C hX (As := [vI x, vI y, vI kd]) (st := [vI 0, .ref ao]) (y := yX1_would) (w := wsX1_would) (rm := rxb_X1_would) (wr := [(ao, lo cJ fo)]) (k' := 1) (n' := 6) [1, 2, 3, 4, 5, 6, 7, 8, 9] [0] 1 (xb_X1_would l D cI cJ h σ LT γ φ x y kd hr hp hb) (cwV 3 C.1.2.2.2.2 gL_would_X1_would rfl rfl rfl (by decide +kernel) ⟨Nat.le_of_ble_eq_true rfl, Nat.le_of_ble_eq_true rfl⟩) rfl rfl rfl rfl rfl (by decide) rfl rfl rfl rfl (Nat.le_of_ble_eq_true rfl) rfl rfl ⟨Nat.le_of_ble_eq_true rfl, Nat.le_of_ble_eq_true rfl⟩ dL_would_7 (fun u hu => ?_)
  obtain rfl := hu
  refine z_catch C (hW9.1 xIA (by simp)) (tableOf [(0, 12, 15, 13)]) _ _ htab (fun z9 hz9 => (List.mem_cons.mp hz9).elim (fun h9 => h9 ▸ Or.inr ⟨by decide, xIO, C.1.2.2.2.2 _ (by decide +kernel), hW9.2 xIA (by simp) xIO (by simp) (by decide)⟩) (fun hz9 => nomatch hz9)) (by decide) (by decide) (by decide +kernel) (fun q9 => ?_)
  refine z_astore C _ dL_would_19 (by decide) rfl ?_
  refine z_iconst C dL_would_21 ?_
  exact hret _ _ _ _ dL_would_22 ⟨rfl, rfl⟩

abbrev rmL_advise : Room := { frames := 8, cells := 0, slots := 0, locals := 148 }
set_option maxHeartbeats 4000000 in
set_option maxRecDepth 100000 in
theorem w_L_advise (l : Launch) (D : va_G) (cI cJ : ClassId) (h : Nat → Nat) (σ : YS) (LT : Nat → Int) (γ : YS) (φ : Nat → Int) (k : Int) (hk : 0 ≤ k ∧ k < σ 4 0) (hO : Ok σ) (hL : LR LT) (ao : Nat) (fo : Nat → Int64) : Cw l yL_advise wsL_advise rmL_advise D [(cI, .int), (cJ, .long)] [.ref (h 0), vI k, .ref ao] ((ao, lo cJ fo) :: (cw cI h σ LT γ φ)) (fun z u => ∃ f' : Nat → Int64, ∃ φ' : Nat → Int, u = ((ao, lo cJ f') :: (cw cI h σ LT γ φ')) ∧ z = 0 ∧ f' 0 = (iI ((adS σ LT k.toNat 4).1)).toInt64) := by
  refine w_of (own := RL) (cc := cL_advise) (maxL := 4) (lv := [(0, .ref (h 0)), (1, vI k), (2, .ref ao)]) (by decide) rfl rfl (Nat.le_of_ble_eq_true rfl) rfl ?_
  intro p e s m args below meth cd Q A C hX hW9 htab hret
  refine z_aload_n C 2 dL_advise_0 rfl ?_
  refine z_iconst C dL_advise_1 ?_
  refine z_aload_n C 0 dL_advise_2 rfl ?_
  refine z_iload_n C 1 dL_advise_3 rfl ?_
  refine z_callVi C (As := [vI k]) (st := [vI 0, .ref ao]) (y := yX1_advise) (w := wsX1_advise) (rm := rm_X1_advise) (wr := [(ao, lo cJ fo)]) (k' := 0) (n' := 0) [1, 2, 3, 4, 5, 6, 7, 8, 9] [0] 1 (c_X1_advise l D cI cJ h σ LT γ φ k hk hO hL) (cwV 1 C.1.2.2.2.2 gL_advise_X1_advise rfl rfl rfl (by decide +kernel) ⟨Nat.le_of_ble_eq_true rfl, Nat.le_of_ble_eq_true rfl⟩) rfl rfl rfl rfl rfl (by decide) rfl rfl rfl rfl (Nat.le_of_ble_eq_true rfl) rfl rfl ⟨Nat.le_of_ble_eq_true rfl, Nat.le_of_ble_eq_true rfl⟩ dL_advise_4 ?_
  rintro z_4 _ ⟨φ'_4, rfl, hz_4⟩
  refine z_ws (ws' := ((ao, lo cJ fo) :: (cw cI h σ LT γ φ'_4))) rfl ?_
  have hz_4 : z_4 = (adS σ LT k.toNat 4).1 := hz_4
  refine z_i2l C dL_advise_7 ?_
  refine z_last C 0 1 rfl rfl dL_advise_8 (fun f' hf' => ?_)
  refine z_ws (ws' := ((ao, lo cJ f') :: (cw cI h σ LT γ φ'_4))) rfl ?_
  refine z_goto C (tgt := 15) dL_advise_9 (by decide) ?_
  refine z_iconst C dL_advise_15 ?_
  exact hret _ _ _ _ dL_advise_16 ⟨f', _, rfl, rfl, by rw [hf', hz_4]⟩

abbrev rxL_advise : Room := { frames := 8, cells := 1, slots := 6, locals := 148 }
set_option maxHeartbeats 4000000 in
set_option maxRecDepth 100000 in
theorem wx_L_advise (l : Launch) (D : va_G) (cI cJ : ClassId) (h : Nat → Nat) (σ : YS) (LT : Nat → Int) (γ : YS) (φ : Nat → Int) (k : Int) (hr : rng k) (hO : Ok σ) (hb : ¬ (0 ≤ k ∧ k < σ 4 0)) (ao : Nat) (fo : Nat → Int64) : Cw l yL_advise wsL_advise rxL_advise D [(cI, .int), (cJ, .long)] [.ref (h 0), vI k, .ref ao] ((ao, lo cJ fo) :: (cw cI h σ LT γ φ)) (fun z u => u = ((ao, lo cJ fo) :: (cw cI h σ LT γ φ)) ∧ z = 1) := by
  refine w_of (own := RL) (cc := cL_advise) (maxL := 4) (lv := [(0, .ref (h 0)), (1, vI k), (2, .ref ao)]) (by decide) rfl rfl (Nat.le_of_ble_eq_true rfl) rfl ?_
  intro p e s m args below meth cd Q A C hX hW9 htab hret
  refine z_aload_n C 2 dL_advise_0 rfl ?_
  refine z_iconst C dL_advise_1 ?_
  refine z_aload_n C 0 dL_advise_2 rfl ?_
  refine z_iload_n C 1 dL_advise_3 rfl ?_
  refine x_callV C hX (As := [vI k]) (st := [vI 0, .ref ao]) (y := yX1_advise) (w := wsX1_advise) (rm := rx_X1_advise) (wr := [(ao, lo cJ fo)]) (k' := 1) (n' := 6) [1, 2, 3, 4, 5, 6, 7, 8, 9] [0] 1 (x_X1_advise l D cI cJ h σ LT γ φ k hr hO hb) (cwV 1 C.1.2.2.2.2 gL_advise_X1_advise rfl rfl rfl (by decide +kernel) ⟨Nat.le_of_ble_eq_true rfl, Nat.le_of_ble_eq_true rfl⟩) rfl rfl rfl rfl rfl (by decide) rfl rfl rfl rfl (Nat.le_of_ble_eq_true rfl) rfl rfl ⟨Nat.le_of_ble_eq_true rfl, Nat.le_of_ble_eq_true rfl⟩ dL_advise_4 (fun u hu => ?_)
  obtain rfl := hu
  refine z_catch C (hW9.1 xIO (by simp)) [] _ _ htab (fun z9 hz9 => nomatch hz9) (by decide) (by decide) (by decide +kernel) (fun q9 => ?_)
  refine z_astore_n C _ dL_advise_12 (by decide) rfl ?_
  refine z_iconst C dL_advise_13 ?_
  exact hret _ _ _ _ dL_advise_14 ⟨rfl, rfl⟩
