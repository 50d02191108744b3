theorem isIn_c {z v lo hi : Int} (h : z = bI (decide (lo ≤ v) && decide (v ≤ hi))) : (z = 1 ∧ lo ≤ v ∧ v ≤ hi) ∨ (z = 0 ∧ ¬ (lo ≤ v ∧ v ≤ hi)) := by
  by_cases q : lo ≤ v ∧ v ≤ hi
  · left; exact ⟨by rw [h, bI_t]; simp [q.1, q.2], q⟩
  · right; refine ⟨?_, q⟩; rw [h, bI_f]; simp; omega
theorem isC_c {z x y : Int} (h : z = bI (decide (0 ≤ x) && decide (x ≤ 11) && (decide (0 ≤ y) && decide (y ≤ 11)))) : (z = 1 ∧ (0 ≤ x ∧ x < 12) ∧ 0 ≤ y ∧ y < 12) ∨ (z = 0 ∧ ¬ ((0 ≤ x ∧ x < 12) ∧ 0 ≤ y ∧ y < 12)) := by
  by_cases q : (0 ≤ x ∧ x < 12) ∧ 0 ≤ y ∧ y < 12
  · left; refine ⟨?_, q⟩; rw [h, bI_t]; simp; omega
  · right; refine ⟨?_, q⟩; rw [h, bI_f]; simp; omega
set_option maxRecDepth 100000 in
theorem inU_X2_X2_no : ∀ w ∈ u_ws RX2 TX2 14, w ∈ wsX2_no := by decide +kernel
abbrev rm_X2_no : Room := { frames := 0, cells := 0, slots := 0, locals := 0 }
set_option maxHeartbeats 4000000 in
set_option maxRecDepth 100000 in
theorem c_X2_no (l : Launch) (D : va_G) (cI cJ : ClassId) (h : Nat → Nat) (σ : YS) (LI BR : Nat → Int) (γ : YS) (φ : Nat → Int) (θ : Int) (v : Int)  : Ci l yX2_no wsX2_no rm_X2_no D [(cI, .int), (cJ, .long)] [.ref (h 0), vI v] (mx cI h σ LI BR γ φ θ) (fun z u => u = (mx cI h σ LI BR γ φ v) ∧ z = 0) := by
  refine z_ofi (own := RX2) (cc := cX2_no) (maxL := 2) (lv := [(0, .ref (h 0)), (1, vI v)]) (by decide) rfl rfl (Nat.le_of_ble_eq_true rfl) rfl ?_
  intro p e s m args below meth cd Q A C hret
  refine z_aload_n C 0 dX2_no_0 rfl ?_
  refine z_iload_n C 1 dX2_no_1 rfl ?_
  refine z_put C (ref := "ShadowWallsModel") (T := TX2) (N := 14) (ci := 2) (ty := .int) (ws' := (mx cI h σ LI BR γ φ v)) 0 0 inU_X2_X2_no tyX2 tyX2_ok nmX2 rfl rfl (by decide) (by decide +kernel) (fun _ h9 => h9) rfl (by decide +kernel) (rfl) (rfl) (Nat.le_of_ble_eq_true rfl) rfl dX2_no_2 ?_
  refine z_iconst C dX2_no_5 ?_
  exact hret _ _ _ _ dX2_no_6 ⟨rfl, by rfl⟩

abbrev rm_X2_isIn : Room := { frames := 0, cells := 0, slots := 0, locals := 0 }
set_option maxHeartbeats 4000000 in
set_option maxRecDepth 100000 in
theorem c_X2_isIn (l : Launch) (D : va_G) (cI cJ : ClassId)  (v lo hi : Int) (hv : rng v) (h1 : rng lo) (h2 : rng hi) : Ci l yX2_isIn wsX2_isIn rm_X2_isIn D [(cI, .int), (cJ, .long)] [vI v, vI lo, vI hi] [] (fun z u => u = [] ∧ z = bI (decide (lo ≤ v) && decide (v ≤ hi))) := by
  refine z_ofz (own := RX2) (cc := cX2_isIn) (maxL := 3) (lv := [(0, vI v), (1, vI lo), (2, vI hi)]) (by decide) rfl rfl (Nat.le_of_ble_eq_true rfl) rfl ?_
  intro p e s m args below meth cd Q A C hret
  refine z_iload_n C 0 dX2_isIn_0 rfl ?_
  refine z_iload_n C 1 dX2_isIn_1 rfl ?_
  refine z_icmp_lt C (tgt := 14) dX2_isIn_2 (by decide) (by omega) (by omega) (fun c_2 => ?_) (fun c_2 => ?_)
  ·
    refine z_iconst C dX2_isIn_14 ?_
    exact hret _ _ _ _ dX2_isIn_15 (Or.inl rfl) ⟨rfl, by first | (rw [bI_t (by simp; omega)]; done) | (rw [bI_f (by simp; omega)]; done)⟩
  ·
    refine z_iload_n C 0 dX2_isIn_5 rfl ?_
    refine z_iload_n C 2 dX2_isIn_6 rfl ?_
    refine z_icmp_gt C (tgt := 14) dX2_isIn_7 (by decide) (by omega) (by omega) (fun c_7 => ?_) (fun c_7 => ?_)
    ·
      refine z_iconst C dX2_isIn_14 ?_
      exact hret _ _ _ _ dX2_isIn_15 (Or.inl rfl) ⟨rfl, by first | (rw [bI_t (by simp; omega)]; done) | (rw [bI_f (by simp; omega)]; done)⟩
    ·
      refine z_iconst C dX2_isIn_10 ?_
      refine z_goto C (tgt := 15) dX2_isIn_11 (by decide) ?_
      exact hret _ _ _ _ dX2_isIn_15 (Or.inr rfl) ⟨rfl, by first | (rw [bI_t (by simp; omega)]; done) | (rw [bI_f (by simp; omega)]; done)⟩

abbrev rm_X2_isCell : Room := { frames := 1, cells := 0, slots := 0, locals := 22 }
set_option maxHeartbeats 4000000 in
set_option maxRecDepth 100000 in
theorem c_X2_isCell (l : Launch) (D : va_G) (cI cJ : ClassId)  (x y : Int) (hx : rng x) (hy : rng y) : Ci l yX2_isCell wsX2_isCell rm_X2_isCell D [(cI, .int), (cJ, .long)] [vI x, vI y] [] (fun z u => u = [] ∧ z = bI (decide (0 ≤ x) && decide (x ≤ 11) && (decide (0 ≤ y) && decide (y ≤ 11)))) := by
  refine z_ofz (own := RX2) (cc := cX2_isCell) (maxL := 2) (lv := [(0, vI x), (1, vI y)]) (by decide) rfl rfl (Nat.le_of_ble_eq_true rfl) rfl ?_
  intro p e s m args below meth cd Q A C hret
  refine z_iload_n C 0 dX2_isCell_0 rfl ?_
  refine z_iconst C dX2_isCell_1 ?_
  refine z_bipush C dX2_isCell_2 (by decide) ?_
  refine z_callSi C (As := [vI x, vI 0, vI 11]) (st := []) (y := yX2_isIn) (w := wsX2_isIn) (rm := rm_X2_isIn) (wr := []) (k' := 0) (n' := 0) [] [] (c_X2_isIn l D cI cJ  x 0 11 (by omega) (by omega) (by omega)) (va_cwS 3 C.1.2.2.2.2 gX2_isCell_X2_isIn rfl rfl rfl (by decide +kernel) ⟨Nat.le_of_ble_eq_true rfl, Nat.le_of_ble_eq_true rfl⟩) rfl rfl rfl rfl rfl (by decide) rfl rfl (Nat.le_of_ble_eq_true rfl) rfl rfl ⟨Nat.le_of_ble_eq_true rfl, Nat.le_of_ble_eq_true rfl⟩ dX2_isCell_4 ?_
  rintro z_4 _ ⟨rfl, hz_4⟩
  refine z_ws (ws' := []) rfl ?_
  have r_4 : z_4 = 0 ∨ z_4 = 1 := by rw [hz_4]; exact bI_01 _
  have hz_4 : z_4 = bI (decide (0 ≤ x) && decide (x ≤ 11)) := hz_4
  have i_4 := isIn_c hz_4
  refine z_if_eq C (tgt := 24) dX2_isCell_7 (by decide) (by omega) (fun c_7 => ?_) (fun c_7 => ?_)
  ·
    refine z_iconst C dX2_isCell_24 ?_
    exact hret _ _ _ _ dX2_isCell_25 (Or.inl rfl) ⟨rfl, by first | (rw [bI_t (by simp; omega)]; done) | (rw [bI_f (by simp; omega)]; done)⟩
  ·
    refine z_iload_n C 1 dX2_isCell_10 rfl ?_
    refine z_iconst C dX2_isCell_11 ?_
    refine z_bipush C dX2_isCell_12 (by decide) ?_
    refine z_callSi C (As := [vI y, vI 0, vI 11]) (st := []) (y := yX2_isIn) (w := wsX2_isIn) (rm := rm_X2_isIn) (wr := []) (k' := 0) (n' := 0) [] [] (c_X2_isIn l D cI cJ  y 0 11 (by omega) (by omega) (by omega)) (va_cwS 3 C.1.2.2.2.2 gX2_isCell_X2_isIn rfl rfl rfl (by decide +kernel) ⟨Nat.le_of_ble_eq_true rfl, Nat.le_of_ble_eq_true rfl⟩) rfl rfl rfl rfl rfl (by decide) rfl rfl (Nat.le_of_ble_eq_true rfl) rfl rfl ⟨Nat.le_of_ble_eq_true rfl, Nat.le_of_ble_eq_true rfl⟩ dX2_isCell_14 ?_
    rintro z_14 _ ⟨rfl, hz_14⟩
    refine z_ws (ws' := []) rfl ?_
    have r_14 : z_14 = 0 ∨ z_14 = 1 := by rw [hz_14]; exact bI_01 _
    have hz_14 : z_14 = bI (decide (0 ≤ y) && decide (y ≤ 11)) := hz_14
    have i_14 := isIn_c hz_14
    refine z_if_eq C (tgt := 24) dX2_isCell_17 (by decide) (by omega) (fun c_17 => ?_) (fun c_17 => ?_)
    ·
      refine z_iconst C dX2_isCell_24 ?_
      exact hret _ _ _ _ dX2_isCell_25 (Or.inl rfl) ⟨rfl, by first | (rw [bI_t (by simp; omega)]; done) | (rw [bI_f (by simp; omega)]; done)⟩
    ·
      refine z_iconst C dX2_isCell_20 ?_
      refine z_goto C (tgt := 25) dX2_isCell_21 (by decide) ?_
      exact hret _ _ _ _ dX2_isCell_25 (Or.inr rfl) ⟨rfl, by first | (rw [bI_t (by simp; omega)]; done) | (rw [bI_f (by simp; omega)]; done)⟩

set_option maxRecDepth 100000 in
theorem inU_X2_X2_isLamp : ∀ w ∈ u_ws RX2 TX2 14, w ∈ wsX2_isLamp := by decide +kernel
abbrev rm_X2_isLamp : Room := { frames := 1, cells := 0, slots := 0, locals := 22 }
set_option maxHeartbeats 4000000 in
set_option maxRecDepth 100000 in
theorem c_X2_isLamp (l : Launch) (D : va_G) (cI cJ : ClassId) (h : Nat → Nat) (σ : YS) (LI BR : Nat → Int) (γ : YS) (φ : Nat → Int) (θ : Int) (k : Int) (hk : rng k) (hO : Ok σ) : Ci l yX2_isLamp wsX2_isLamp rm_X2_isLamp D [(cI, .int), (cJ, .long)] [.ref (h 0), vI k] (mx cI h σ LI BR γ φ θ) (fun z u => u = (mx cI h σ LI BR γ φ θ) ∧ z = bI (decide (0 ≤ k) && decide (k ≤ σ 4 0 - 1))) := by
  refine z_ofz (own := RX2) (cc := cX2_isLamp) (maxL := 2) (lv := [(0, .ref (h 0)), (1, vI k)]) (by decide) rfl rfl (Nat.le_of_ble_eq_true rfl) rfl ?_
  intro p e s m args below meth cd Q A C hret
  have hn := hO.1
  have hm := hO.2.1
  have en := nLa_e hO
  have em := nWa_e hO
  refine z_iload_n C 1 dX2_isLamp_0 rfl ?_
  refine z_iconst C dX2_isLamp_1 ?_
  refine z_aload_n C 0 dX2_isLamp_2 rfl ?_
  refine z_get C (v := vI (σ 4 0)) (ref := "ShadowWallsModel") (T := TX2) (N := 14) (ci := 2) 0 2 inU_X2_X2_isLamp rfl rfl (by decide) (by decide +kernel) (fun _ h9 => h9) rfl dX2_isLamp_3 ?_
  refine z_iconst C dX2_isLamp_6 ?_
  refine z_isub C dX2_isLamp_7 ?_
  refine z_callSi C (As := [vI k, vI 0, vI ((σ 4 0) - 1)]) (st := []) (y := yX2_isIn) (w := wsX2_isIn) (rm := rm_X2_isIn) (wr := (mx cI h σ LI BR γ φ θ)) (k' := 0) (n' := 0) [] [0, 1, 2, 3, 4, 5, 6, 7, 8] (c_X2_isIn l D cI cJ  k 0 ((σ 4 0) - 1) (by omega) (by omega) (by omega)) (va_cwS 3 C.1.2.2.2.2 gX2_isLamp_X2_isIn rfl rfl rfl (by decide +kernel) ⟨Nat.le_of_ble_eq_true rfl, Nat.le_of_ble_eq_true rfl⟩) rfl rfl rfl rfl rfl (by decide) rfl rfl (Nat.le_of_ble_eq_true rfl) rfl rfl ⟨Nat.le_of_ble_eq_true rfl, Nat.le_of_ble_eq_true rfl⟩ dX2_isLamp_8 ?_
  rintro z_8 _ ⟨rfl, hz_8⟩
  refine z_ws (ws' := (mx cI h σ LI BR γ φ θ)) rfl ?_
  have r_8 : z_8 = 0 ∨ z_8 = 1 := by rw [hz_8]; exact bI_01 _
  have hz_8 : z_8 = bI (decide (0 ≤ k) && decide (k ≤ ((σ 4 0) - 1))) := hz_8
  exact hret _ _ _ _ dX2_isLamp_11 (r_8) ⟨rfl, by exact hz_8⟩

set_option maxRecDepth 100000 in
theorem inU_X2_X2_isWatcher : ∀ w ∈ u_ws RX2 TX2 14, w ∈ wsX2_isWatcher := by decide +kernel
abbrev rm_X2_isWatcher : Room := { frames := 1, cells := 0, slots := 0, locals := 22 }
set_option maxHeartbeats 4000000 in
set_option maxRecDepth 100000 in
theorem c_X2_isWatcher (l : Launch) (D : va_G) (cI cJ : ClassId) (h : Nat → Nat) (σ : YS) (LI BR : Nat → Int) (γ : YS) (φ : Nat → Int) (θ : Int) (k : Int) (hk : rng k) (hO : Ok σ) : Ci l yX2_isWatcher wsX2_isWatcher rm_X2_isWatcher D [(cI, .int), (cJ, .long)] [.ref (h 0), vI k] (mx cI h σ LI BR γ φ θ) (fun z u => u = (mx cI h σ LI BR γ φ θ) ∧ z = bI (decide (0 ≤ k) && decide (k ≤ σ 4 1 - 1))) := by
  refine z_ofz (own := RX2) (cc := cX2_isWatcher) (maxL := 2) (lv := [(0, .ref (h 0)), (1, vI k)]) (by decide) rfl rfl (Nat.le_of_ble_eq_true rfl) rfl ?_
  intro p e s m args below meth cd Q A C hret
  have hn := hO.1
  have hm := hO.2.1
  have en := nLa_e hO
  have em := nWa_e hO
  refine z_iload_n C 1 dX2_isWatcher_0 rfl ?_
  refine z_iconst C dX2_isWatcher_1 ?_
  refine z_aload_n C 0 dX2_isWatcher_2 rfl ?_
  refine z_get C (v := vI (σ 4 1)) (ref := "ShadowWallsModel") (T := TX2) (N := 14) (ci := 2) 0 5 inU_X2_X2_isWatcher rfl rfl (by decide) (by decide +kernel) (fun _ h9 => h9) rfl dX2_isWatcher_3 ?_
  refine z_iconst C dX2_isWatcher_6 ?_
  refine z_isub C dX2_isWatcher_7 ?_
  refine z_callSi C (As := [vI k, vI 0, vI ((σ 4 1) - 1)]) (st := []) (y := yX2_isIn) (w := wsX2_isIn) (rm := rm_X2_isIn) (wr := (mx cI h σ LI BR γ φ θ)) (k' := 0) (n' := 0) [] [0, 1, 2, 3, 4, 5, 6, 7, 8] (c_X2_isIn l D cI cJ  k 0 ((σ 4 1) - 1) (by omega) (by omega) (by omega)) (va_cwS 3 C.1.2.2.2.2 gX2_isWatcher_X2_isIn rfl rfl rfl (by decide +kernel) ⟨Nat.le_of_ble_eq_true rfl, Nat.le_of_ble_eq_true rfl⟩) rfl rfl rfl rfl rfl (by decide) rfl rfl (Nat.le_of_ble_eq_true rfl) rfl rfl ⟨Nat.le_of_ble_eq_true rfl, Nat.le_of_ble_eq_true rfl⟩ dX2_isWatcher_8 ?_
  rintro z_8 _ ⟨rfl, hz_8⟩
  refine z_ws (ws' := (mx cI h σ LI BR γ φ θ)) rfl ?_
  have r_8 : z_8 = 0 ∨ z_8 = 1 := by rw [hz_8]; exact bI_01 _
  have hz_8 : z_8 = bI (decide (0 ≤ k) && decide (k ≤ ((σ 4 1) - 1))) := hz_8
  exact hret _ _ _ _ dX2_isWatcher_11 (r_8) ⟨rfl, by exact hz_8⟩

set_option maxRecDepth 100000 in
theorem inU_X2_X2_stopsAt : ∀ w ∈ u_ws RX2 TX2 14, w ∈ wsX2_stopsAt := by decide +kernel
abbrev rm_X2_stopsAt : Room := { frames := 0, cells := 0, slots := 0, locals := 0 }
set_option maxHeartbeats 4000000 in
set_option maxRecDepth 100000 in
theorem c_X2_stopsAt (l : Launch) (D : va_G) (cI cJ : ClassId) (h : Nat → Nat) (σ : YS) (LI BR : Nat → Int) (γ : YS) (φ : Nat → Int) (θ : Int) (c : Int) (hc : 0 ≤ c ∧ c < 144) (hO : Ok σ) : Ci l yX2_stopsAt wsX2_stopsAt rm_X2_stopsAt D [(cI, .int), (cJ, .long)] [.ref (h 0), vI c] (mx cI h σ LI BR γ φ θ) (fun z u => u = (mx cI h σ LI BR γ φ θ) ∧ z = sbK (σ 0) c) := by
  refine z_ofi (own := RX2) (cc := cX2_stopsAt) (maxL := 2) (lv := [(0, .ref (h 0)), (1, vI c)]) (by decide) rfl rfl (Nat.le_of_ble_eq_true rfl) rfl ?_
  intro p e s m args below meth cd Q A C hret
  have rk := hO.2.2.2.2 c.toNat
  refine z_aload_n C 0 dX2_stopsAt_0 rfl ?_
  refine z_get C (v := .ref (h 1)) (ref := "ShadowWallsModel") (T := TX2) (N := 14) (ci := 2) 0 1 inU_X2_X2_stopsAt rfl rfl (by decide) (by decide +kernel) (fun _ h9 => h9) rfl dX2_stopsAt_1 ?_
  refine z_iload_n C 1 dX2_stopsAt_4 rfl ?_
  refine z_iald C (cA := cI) (N := 144) (f := σ 0) 1 0 rfl rfl (by decide) (by omega) dX2_stopsAt_5 ?_
  refine z_iconst C dX2_stopsAt_6 ?_
  refine z_icmp_ne C (tgt := 14) dX2_stopsAt_7 (by decide) (by omega) (by omega) (fun c_7 => ?_) (fun c_7 => ?_)
  ·
    refine z_aload_n C 0 dX2_stopsAt_14 rfl ?_
    refine z_get C (v := .ref (h 1)) (ref := "ShadowWallsModel") (T := TX2) (N := 14) (ci := 2) 0 1 inU_X2_X2_stopsAt rfl rfl (by decide) (by decide +kernel) (fun _ h9 => h9) rfl dX2_stopsAt_15 ?_
    refine z_iload_n C 1 dX2_stopsAt_18 rfl ?_
    refine z_iald C (cA := cI) (N := 144) (f := σ 0) 1 0 rfl rfl (by decide) (by omega) dX2_stopsAt_19 ?_
    refine z_iconst C dX2_stopsAt_20 ?_
    refine z_icmp_ne C (tgt := 28) dX2_stopsAt_21 (by decide) (by omega) (by omega) (fun c_21 => ?_) (fun c_21 => ?_)
    ·
      refine z_iconst C dX2_stopsAt_28 ?_
      exact hret _ _ _ _ dX2_stopsAt_29 ⟨rfl, by first | exact (sb_e rfl).1 c_7 | exact (sb_e rfl).2.1 c_21 | exact (sb_e rfl).2.2 ⟨c_7, c_21⟩⟩
    ·
      refine z_iconst C dX2_stopsAt_24 ?_
      refine z_goto C (tgt := 29) dX2_stopsAt_25 (by decide) ?_
      exact hret _ _ _ _ dX2_stopsAt_29 ⟨rfl, by first | exact (sb_e rfl).1 c_7 | exact (sb_e rfl).2.1 c_21 | exact (sb_e rfl).2.2 ⟨c_7, c_21⟩⟩
  ·
    refine z_iconst C dX2_stopsAt_10 ?_
    refine z_goto C (tgt := 29) dX2_stopsAt_11 (by decide) ?_
    exact hret _ _ _ _ dX2_stopsAt_29 ⟨rfl, by first | exact (sb_e rfl).1 c_7 | exact (sb_e rfl).2.1 c_21 | exact (sb_e rfl).2.2 ⟨c_7, c_21⟩⟩

abbrev rm_X2_apartX : Room := { frames := 1, cells := 0, slots := 0, locals := 24 }
set_option maxHeartbeats 4000000 in
set_option maxRecDepth 100000 in
theorem c_X2_apartX (l : Launch) (D : va_G) (cI cJ : ClassId)  (x y : Int) (hx : 0 ≤ x ∧ x < 144) (hy : 0 ≤ y ∧ y < 144) : Ci l yX2_apartX wsX2_apartX rm_X2_apartX D [(cI, .int), (cJ, .long)] [vI x, vI y] [] (fun z u => u = [] ∧ z = abZ (x % 12 - y % 12)) := by
  refine z_ofi (own := RX2) (cc := cX2_apartX) (maxL := 2) (lv := [(0, vI x), (1, vI y)]) (by decide) rfl rfl (Nat.le_of_ble_eq_true rfl) rfl ?_
  intro p e s m args below meth cd Q A C hret
  refine z_iload_n C 0 dX2_apartX_0 rfl ?_
  refine z_bipush C dX2_apartX_1 (by decide) ?_
  refine z_irem C (r := x % 12) dX2_apartX_3 (by decide) (iI_rem12 (by omega)) ?_
  refine z_iload_n C 1 dX2_apartX_4 rfl ?_
  refine z_bipush C dX2_apartX_5 (by decide) ?_
  refine z_irem C (r := y % 12) dX2_apartX_7 (by decide) (iI_rem12 (by omega)) ?_
  refine z_isub C dX2_apartX_8 ?_
  refine z_mabs C dX2_apartX_9 (by decide +kernel) (by decide +kernel) (by decide +kernel) (by decide +kernel) (Nat.le_of_ble_eq_true rfl) (Nat.le_of_ble_eq_true rfl) (Nat.le_of_ble_eq_true rfl) (Nat.le_of_ble_eq_true rfl) (by omega) ?_
  refine z_st (v' := abZ ((x % 12) - (y % 12))) rfl ?_
  have a_9 := abZ_c ((x % 12) - (y % 12))
  exact hret _ _ _ _ dX2_apartX_12 ⟨rfl, by rfl⟩

abbrev rm_X2_apartY : Room := { frames := 1, cells := 0, slots := 0, locals := 24 }
set_option maxHeartbeats 4000000 in
set_option maxRecDepth 100000 in
theorem c_X2_apartY (l : Launch) (D : va_G) (cI cJ : ClassId)  (x y : Int) (hx : 0 ≤ x ∧ x < 144) (hy : 0 ≤ y ∧ y < 144) : Ci l yX2_apartY wsX2_apartY rm_X2_apartY D [(cI, .int), (cJ, .long)] [vI x, vI y] [] (fun z u => u = [] ∧ z = abZ (x / 12 - y / 12)) := by
  refine z_ofi (own := RX2) (cc := cX2_apartY) (maxL := 2) (lv := [(0, vI x), (1, vI y)]) (by decide) rfl rfl (Nat.le_of_ble_eq_true rfl) rfl ?_
  intro p e s m args below meth cd Q A C hret
  refine z_iload_n C 0 dX2_apartY_0 rfl ?_
  refine z_bipush C dX2_apartY_1 (by decide) ?_
  refine z_idiv C (r := x / 12) dX2_apartY_3 (by decide) (iI_div12 (by omega)) ?_
  refine z_iload_n C 1 dX2_apartY_4 rfl ?_
  refine z_bipush C dX2_apartY_5 (by decide) ?_
  refine z_idiv C (r := y / 12) dX2_apartY_7 (by decide) (iI_div12 (by omega)) ?_
  refine z_isub C dX2_apartY_8 ?_
  refine z_mabs C dX2_apartY_9 (by decide +kernel) (by decide +kernel) (by decide +kernel) (by decide +kernel) (Nat.le_of_ble_eq_true rfl) (Nat.le_of_ble_eq_true rfl) (Nat.le_of_ble_eq_true rfl) (Nat.le_of_ble_eq_true rfl) (by omega) ?_
  refine z_st (v' := abZ ((x / 12) - (y / 12))) rfl ?_
  have a_9 := abZ_c ((x / 12) - (y / 12))
  exact hret _ _ _ _ dX2_apartY_12 ⟨rfl, by rfl⟩

abbrev rm_X2_beside : Room := { frames := 2, cells := 0, slots := 0, locals := 43 }
set_option maxHeartbeats 4000000 in
set_option maxRecDepth 100000 in
theorem c_X2_beside (l : Launch) (D : va_G) (cI cJ : ClassId)  (c sd : Int) (hc : 0 ≤ c ∧ c < 144) (hs : 0 ≤ sd ∧ sd < 4) : Ci l yX2_beside wsX2_beside rm_X2_beside D [(cI, .int), (cJ, .long)] [vI c, vI sd] [] (fun z u => u = [] ∧ z = bes c sd) := by
  refine z_ofi (own := RX2) (cc := cX2_beside) (maxL := 4) (lv := [(0, vI c), (1, vI sd)]) (by decide) rfl rfl (Nat.le_of_ble_eq_true rfl) rfl ?_
  intro p e s m args below meth cd Q A C hret
  refine z_iload_n C 0 dX2_beside_0 rfl ?_
  refine z_bipush C dX2_beside_1 (by decide) ?_
  refine z_irem C (r := c % 12) dX2_beside_3 (by decide) (iI_rem12 (by omega)) ?_
  refine z_iload_n C 1 dX2_beside_4 rfl ?_
  refine z_if_ne C (tgt := 12) dX2_beside_5 (by decide) (by omega) (fun c_5 => ?_) (fun c_5 => ?_)
  ·
    refine z_iload_n C 1 dX2_beside_12 rfl ?_
    refine z_iconst C dX2_beside_13 ?_
    refine z_icmp_ne C (tgt := 21) dX2_beside_14 (by decide) (by omega) (by omega) (fun c_14 => ?_) (fun c_14 => ?_)
    ·
      refine z_iconst C dX2_beside_21 ?_
      refine z_iadd C dX2_beside_22 ?_
      refine z_istore_n C [(2, vI ((c % 12) + 0)), (0, vI c), (1, vI sd)] dX2_beside_23 (by decide) rfl ?_
      refine z_iload_n C 1 dX2_beside_24 rfl ?_
      refine z_bipush C dX2_beside_25 (by decide) ?_
      refine z_idiv C (r := c / 12) dX2_beside_27 (by decide) (iI_div12 (by omega)) ?_
      refine z_iload_n C 2 dX2_beside_28 rfl ?_
      refine z_iconst C dX2_beside_29 ?_
      refine z_icmp_ne C (tgt := 37) dX2_beside_30 (by decide) (by omega) (by omega) (fun c_30 => ?_) (fun c_30 => ?_)
      ·
        refine z_iload_n C 2 dX2_beside_37 rfl ?_
        refine z_iconst C dX2_beside_38 ?_
        refine z_icmp_ne C (tgt := 46) dX2_beside_39 (by decide) (by omega) (by omega) (fun c_39 => ?_) (fun c_39 => ?_)
        ·
          refine z_iconst C dX2_beside_46 ?_
          refine z_iadd C dX2_beside_47 ?_
          refine z_istore_n C [(3, vI ((c / 12) + 0)), (2, vI ((c % 12) + 0)), (0, vI c), (1, vI sd)] dX2_beside_48 (by decide) rfl ?_
          refine z_iload_n C 1 dX2_beside_49 rfl ?_
          refine z_iload_n C 0 dX2_beside_50 rfl ?_
          refine z_callSi C (As := [vI ((c % 12) + 0), vI ((c / 12) + 0)]) (st := []) (y := yX2_isCell) (w := wsX2_isCell) (rm := rm_X2_isCell) (wr := []) (k' := 0) (n' := 0) [] [] (c_X2_isCell l D cI cJ  ((c % 12) + 0) ((c / 12) + 0) (by omega) (by omega)) (va_cwS 2 C.1.2.2.2.2 gX2_beside_X2_isCell rfl rfl rfl (by decide +kernel) ⟨Nat.le_of_ble_eq_true rfl, Nat.le_of_ble_eq_true rfl⟩) rfl rfl rfl rfl rfl (by decide) rfl rfl (Nat.le_of_ble_eq_true rfl) rfl rfl ⟨Nat.le_of_ble_eq_true rfl, Nat.le_of_ble_eq_true rfl⟩ dX2_beside_51 ?_
          rintro z_51 _ ⟨rfl, hz_51⟩
          refine z_ws (ws' := []) rfl ?_
          have r_51 : z_51 = 0 ∨ z_51 = 1 := by rw [hz_51]; exact bI_01 _
          have hz_51 : z_51 = bI (decide (0 ≤ ((c % 12) + 0)) && decide (((c % 12) + 0) ≤ 11) && (decide (0 ≤ ((c / 12) + 0)) && decide (((c / 12) + 0) ≤ 11))) := hz_51
          have i_51 := isC_c hz_51
          refine z_if_eq C (tgt := 66) dX2_beside_54 (by decide) (by omega) (fun c_54 => ?_) (fun c_54 => ?_)
          ·
            refine z_iconst C dX2_beside_66 ?_
            first | exact hret _ _ _ _ dX2_beside_67 ⟨rfl, by (unfold bes; repeat' split) <;> omega⟩ | (exfalso; omega)
          ·
            refine z_bipush C dX2_beside_57 (by decide) ?_
            refine z_iload_n C 0 dX2_beside_59 rfl ?_
            refine z_imul C dX2_beside_60 ?_
            refine z_iload_n C 1 dX2_beside_61 rfl ?_
            refine z_iadd C dX2_beside_62 ?_
            refine z_goto C (tgt := 67) dX2_beside_63 (by decide) ?_
            first | exact hret _ _ _ _ dX2_beside_67 ⟨rfl, by (unfold bes; repeat' split) <;> omega⟩ | (exfalso; omega)
        ·
          refine z_iconst C dX2_beside_42 ?_
          refine z_goto C (tgt := 47) dX2_beside_43 (by decide) ?_
          refine z_iadd C dX2_beside_47 ?_
          refine z_istore_n C [(3, vI ((c / 12) + 1)), (2, vI ((c % 12) + 0)), (0, vI c), (1, vI sd)] dX2_beside_48 (by decide) rfl ?_
          refine z_iload_n C 1 dX2_beside_49 rfl ?_
          refine z_iload_n C 0 dX2_beside_50 rfl ?_
          refine z_callSi C (As := [vI ((c % 12) + 0), vI ((c / 12) + 1)]) (st := []) (y := yX2_isCell) (w := wsX2_isCell) (rm := rm_X2_isCell) (wr := []) (k' := 0) (n' := 0) [] [] (c_X2_isCell l D cI cJ  ((c % 12) + 0) ((c / 12) + 1) (by omega) (by omega)) (va_cwS 2 C.1.2.2.2.2 gX2_beside_X2_isCell rfl rfl rfl (by decide +kernel) ⟨Nat.le_of_ble_eq_true rfl, Nat.le_of_ble_eq_true rfl⟩) rfl rfl rfl rfl rfl (by decide) rfl rfl (Nat.le_of_ble_eq_true rfl) rfl rfl ⟨Nat.le_of_ble_eq_true rfl, Nat.le_of_ble_eq_true rfl⟩ dX2_beside_51 ?_
          rintro z_51 _ ⟨rfl, hz_51⟩
          refine z_ws (ws' := []) rfl ?_
          have r_51 : z_51 = 0 ∨ z_51 = 1 := by rw [hz_51]; exact bI_01 _
          have hz_51 : z_51 = bI (decide (0 ≤ ((c % 12) + 0)) && decide (((c % 12) + 0) ≤ 11) && (decide (0 ≤ ((c / 12) + 1)) && decide (((c / 12) + 1) ≤ 11))) := hz_51
          have i_51 := isC_c hz_51
          refine z_if_eq C (tgt := 66) dX2_beside_54 (by decide) (by omega) (fun c_54 => ?_) (fun c_54 => ?_)
          ·
            refine z_iconst C dX2_beside_66 ?_
            first | exact hret _ _ _ _ dX2_beside_67 ⟨rfl, by (unfold bes; repeat' split) <;> omega⟩ | (exfalso; omega)
          ·
            refine z_bipush C dX2_beside_57 (by decide) ?_
            refine z_iload_n C 0 dX2_beside_59 rfl ?_
            refine z_imul C dX2_beside_60 ?_
            refine z_iload_n C 1 dX2_beside_61 rfl ?_
            refine z_iadd C dX2_beside_62 ?_
            refine z_goto C (tgt := 67) dX2_beside_63 (by decide) ?_
            first | exact hret _ _ _ _ dX2_beside_67 ⟨rfl, by (unfold bes; repeat' split) <;> omega⟩ | (exfalso; omega)
      ·
        refine z_iconst C dX2_beside_33 ?_
        refine z_goto C (tgt := 47) dX2_beside_34 (by decide) ?_
        refine z_iadd C dX2_beside_47 ?_
        refine z_istore_n C [(3, vI ((c / 12) + (-1))), (2, vI ((c % 12) + 0)), (0, vI c), (1, vI sd)] dX2_beside_48 (by decide) rfl ?_
        refine z_iload_n C 1 dX2_beside_49 rfl ?_
        refine z_iload_n C 0 dX2_beside_50 rfl ?_
        refine z_callSi C (As := [vI ((c % 12) + 0), vI ((c / 12) + (-1))]) (st := []) (y := yX2_isCell) (w := wsX2_isCell) (rm := rm_X2_isCell) (wr := []) (k' := 0) (n' := 0) [] [] (c_X2_isCell l D cI cJ  ((c % 12) + 0) ((c / 12) + (-1)) (by omega) (by omega)) (va_cwS 2 C.1.2.2.2.2 gX2_beside_X2_isCell rfl rfl rfl (by decide +kernel) ⟨Nat.le_of_ble_eq_true rfl, Nat.le_of_ble_eq_true rfl⟩) rfl rfl rfl rfl rfl (by decide) rfl rfl (Nat.le_of_ble_eq_true rfl) rfl rfl ⟨Nat.le_of_ble_eq_true rfl, Nat.le_of_ble_eq_true rfl⟩ dX2_beside_51 ?_
        rintro z_51 _ ⟨rfl, hz_51⟩
        refine z_ws (ws' := []) rfl ?_
        have r_51 : z_51 = 0 ∨ z_51 = 1 := by rw [hz_51]; exact bI_01 _
        have hz_51 : z_51 = bI (decide (0 ≤ ((c % 12) + 0)) && decide (((c % 12) + 0) ≤ 11) && (decide (0 ≤ ((c / 12) + (-1))) && decide (((c / 12) + (-1)) ≤ 11))) := hz_51
        have i_51 := isC_c hz_51
        refine z_if_eq C (tgt := 66) dX2_beside_54 (by decide) (by omega) (fun c_54 => ?_) (fun c_54 => ?_)
        ·
          refine z_iconst C dX2_beside_66 ?_
          first | exact hret _ _ _ _ dX2_beside_67 ⟨rfl, by (unfold bes; repeat' split) <;> omega⟩ | (exfalso; omega)
        ·
          refine z_bipush C dX2_beside_57 (by decide) ?_
          refine z_iload_n C 0 dX2_beside_59 rfl ?_
          refine z_imul C dX2_beside_60 ?_
          refine z_iload_n C 1 dX2_beside_61 rfl ?_
          refine z_iadd C dX2_beside_62 ?_
          refine z_goto C (tgt := 67) dX2_beside_63 (by decide) ?_
          first | exact hret _ _ _ _ dX2_beside_67 ⟨rfl, by (unfold bes; repeat' split) <;> omega⟩ | (exfalso; omega)
    ·
      refine z_iconst C dX2_beside_17 ?_
      refine z_goto C (tgt := 22) dX2_beside_18 (by decide) ?_
      refine z_iadd C dX2_beside_22 ?_
      refine z_istore_n C [(2, vI ((c % 12) + 1)), (0, vI c), (1, vI sd)] dX2_beside_23 (by decide) rfl ?_
      refine z_iload_n C 1 dX2_beside_24 rfl ?_
      refine z_bipush C dX2_beside_25 (by decide) ?_
      refine z_idiv C (r := c / 12) dX2_beside_27 (by decide) (iI_div12 (by omega)) ?_
      refine z_iload_n C 2 dX2_beside_28 rfl ?_
      refine z_iconst C dX2_beside_29 ?_
      refine z_icmp_ne C (tgt := 37) dX2_beside_30 (by decide) (by omega) (by omega) (fun c_30 => ?_) (fun c_30 => ?_)
      ·
        refine z_iload_n C 2 dX2_beside_37 rfl ?_
        refine z_iconst C dX2_beside_38 ?_
        refine z_icmp_ne C (tgt := 46) dX2_beside_39 (by decide) (by omega) (by omega) (fun c_39 => ?_) (fun c_39 => ?_)
        ·
          refine z_iconst C dX2_beside_46 ?_
          refine z_iadd C dX2_beside_47 ?_
          refine z_istore_n C [(3, vI ((c / 12) + 0)), (2, vI ((c % 12) + 1)), (0, vI c), (1, vI sd)] dX2_beside_48 (by decide) rfl ?_
          refine z_iload_n C 1 dX2_beside_49 rfl ?_
          refine z_iload_n C 0 dX2_beside_50 rfl ?_
          refine z_callSi C (As := [vI ((c % 12) + 1), vI ((c / 12) + 0)]) (st := []) (y := yX2_isCell) (w := wsX2_isCell) (rm := rm_X2_isCell) (wr := []) (k' := 0) (n' := 0) [] [] (c_X2_isCell l D cI cJ  ((c % 12) + 1) ((c / 12) + 0) (by omega) (by omega)) (va_cwS 2 C.1.2.2.2.2 gX2_beside_X2_isCell rfl rfl rfl (by decide +kernel) ⟨Nat.le_of_ble_eq_true rfl, Nat.le_of_ble_eq_true rfl⟩) rfl rfl rfl rfl rfl (by decide) rfl rfl (Nat.le_of_ble_eq_true rfl) rfl rfl ⟨Nat.le_of_ble_eq_true rfl, Nat.le_of_ble_eq_true rfl⟩ dX2_beside_51 ?_
          rintro z_51 _ ⟨rfl, hz_51⟩
          refine z_ws (ws' := []) rfl ?_
          have r_51 : z_51 = 0 ∨ z_51 = 1 := by rw [hz_51]; exact bI_01 _
          have hz_51 : z_51 = bI (decide (0 ≤ ((c % 12) + 1)) && decide (((c % 12) + 1) ≤ 11) && (decide (0 ≤ ((c / 12) + 0)) && decide (((c / 12) + 0) ≤ 11))) := hz_51
          have i_51 := isC_c hz_51
          refine z_if_eq C (tgt := 66) dX2_beside_54 (by decide) (by omega) (fun c_54 => ?_) (fun c_54 => ?_)
          ·
            refine z_iconst C dX2_beside_66 ?_
            first | exact hret _ _ _ _ dX2_beside_67 ⟨rfl, by (unfold bes; repeat' split) <;> omega⟩ | (exfalso; omega)
          ·
            refine z_bipush C dX2_beside_57 (by decide) ?_
            refine z_iload_n C 0 dX2_beside_59 rfl ?_
            refine z_imul C dX2_beside_60 ?_
            refine z_iload_n C 1 dX2_beside_61 rfl ?_
            refine z_iadd C dX2_beside_62 ?_
            refine z_goto C (tgt := 67) dX2_beside_63 (by decide) ?_
            first | exact hret _ _ _ _ dX2_beside_67 ⟨rfl, by (unfold bes; repeat' split) <;> omega⟩ | (exfalso; omega)
        ·
          refine z_iconst C dX2_beside_42 ?_
          refine z_goto C (tgt := 47) dX2_beside_43 (by decide) ?_
          refine z_iadd C dX2_beside_47 ?_
          refine z_istore_n C [(3, vI ((c / 12) + 1)), (2, vI ((c % 12) + 1)), (0, vI c), (1, vI sd)] dX2_beside_48 (by decide) rfl ?_
          refine z_iload_n C 1 dX2_beside_49 rfl ?_
          refine z_iload_n C 0 dX2_beside_50 rfl ?_
          refine z_callSi C (As := [vI ((c % 12) + 1), vI ((c / 12) + 1)]) (st := []) (y := yX2_isCell) (w := wsX2_isCell) (rm := rm_X2_isCell) (wr := []) (k' := 0) (n' := 0) [] [] (c_X2_isCell l D cI cJ  ((c % 12) + 1) ((c / 12) + 1) (by omega) (by omega)) (va_cwS 2 C.1.2.2.2.2 gX2_beside_X2_isCell rfl rfl rfl (by decide +kernel) ⟨Nat.le_of_ble_eq_true rfl, Nat.le_of_ble_eq_true rfl⟩) rfl rfl rfl rfl rfl (by decide) rfl rfl (Nat.le_of_ble_eq_true rfl) rfl rfl ⟨Nat.le_of_ble_eq_true rfl, Nat.le_of_ble_eq_true rfl⟩ dX2_beside_51 ?_
          rintro z_51 _ ⟨rfl, hz_51⟩
          refine z_ws (ws' := []) rfl ?_
          have r_51 : z_51 = 0 ∨ z_51 = 1 := by rw [hz_51]; exact bI_01 _
          have hz_51 : z_51 = bI (decide (0 ≤ ((c % 12) + 1)) && decide (((c % 12) + 1) ≤ 11) && (decide (0 ≤ ((c / 12) + 1)) && decide (((c / 12) + 1) ≤ 11))) := hz_51
          have i_51 := isC_c hz_51
          refine z_if_eq C (tgt := 66) dX2_beside_54 (by decide) (by omega) (fun c_54 => ?_) (fun c_54 => ?_)
          ·
            refine z_iconst C dX2_beside_66 ?_
            first | exact hret _ _ _ _ dX2_beside_67 ⟨rfl, by (unfold bes; repeat' split) <;> omega⟩ | (exfalso; omega)
          ·
            refine z_bipush C dX2_beside_57 (by decide) ?_
            refine z_iload_n C 0 dX2_beside_59 rfl ?_
            refine z_imul C dX2_beside_60 ?_
            refine z_iload_n C 1 dX2_beside_61 rfl ?_
            refine z_iadd C dX2_beside_62 ?_
            refine z_goto C (tgt := 67) dX2_beside_63 (by decide) ?_
            first | exact hret _ _ _ _ dX2_beside_67 ⟨rfl, by (unfold bes; repeat' split) <;> omega⟩ | (exfalso; omega)
      ·
        refine z_iconst C dX2_beside_33 ?_
        refine z_goto C (tgt := 47) dX2_beside_34 (by decide) ?_
        refine z_iadd C dX2_beside_47 ?_
        refine z_istore_n C [(3, vI ((c / 12) + (-1))), (2, vI ((c % 12) + 1)), (0, vI c), (1, vI sd)] dX2_beside_48 (by decide) rfl ?_
        refine z_iload_n C 1 dX2_beside_49 rfl ?_
        refine z_iload_n C 0 dX2_beside_50 rfl ?_
        refine z_callSi C (As := [vI ((c % 12) + 1), vI ((c / 12) + (-1))]) (st := []) (y := yX2_isCell) (w := wsX2_isCell) (rm := rm_X2_isCell) (wr := []) (k' := 0) (n' := 0) [] [] (c_X2_isCell l D cI cJ  ((c % 12) + 1) ((c / 12) + (-1)) (by omega) (by omega)) (va_cwS 2 C.1.2.2.2.2 gX2_beside_X2_isCell rfl rfl rfl (by decide +kernel) ⟨Nat.le_of_ble_eq_true rfl, Nat.le_of_ble_eq_true rfl⟩) rfl rfl rfl rfl rfl (by decide) rfl rfl (Nat.le_of_ble_eq_true rfl) rfl rfl ⟨Nat.le_of_ble_eq_true rfl, Nat.le_of_ble_eq_true rfl⟩ dX2_beside_51 ?_
        rintro z_51 _ ⟨rfl, hz_51⟩
        refine z_ws (ws' := []) rfl ?_
        have r_51 : z_51 = 0 ∨ z_51 = 1 := by rw [hz_51]; exact bI_01 _
        have hz_51 : z_51 = bI (decide (0 ≤ ((c % 12) + 1)) && decide (((c % 12) + 1) ≤ 11) && (decide (0 ≤ ((c / 12) + (-1))) && decide (((c / 12) + (-1)) ≤ 11))) := hz_51
        have i_51 := isC_c hz_51
        refine z_if_eq C (tgt := 66) dX2_beside_54 (by decide) (by omega) (fun c_54 => ?_) (fun c_54 => ?_)
        ·
          refine z_iconst C dX2_beside_66 ?_
          first | exact hret _ _ _ _ dX2_beside_67 ⟨rfl, by (unfold bes; repeat' split) <;> omega⟩ | (exfalso; omega)
        ·
          refine z_bipush C dX2_beside_57 (by decide) ?_
          refine z_iload_n C 0 dX2_beside_59 rfl ?_
          refine z_imul C dX2_beside_60 ?_
          refine z_iload_n C 1 dX2_beside_61 rfl ?_
          refine z_iadd C dX2_beside_62 ?_
          refine z_goto C (tgt := 67) dX2_beside_63 (by decide) ?_
          first | exact hret _ _ _ _ dX2_beside_67 ⟨rfl, by (unfold bes; repeat' split) <;> omega⟩ | (exfalso; omega)
  ·
    refine z_iconst C dX2_beside_8 ?_
    refine z_goto C (tgt := 22) dX2_beside_9 (by decide) ?_
    refine z_iadd C dX2_beside_22 ?_
    refine z_istore_n C [(2, vI ((c % 12) + (-1))), (0, vI c), (1, vI sd)] dX2_beside_23 (by decide) rfl ?_
    refine z_iload_n C 1 dX2_beside_24 rfl ?_
    refine z_bipush C dX2_beside_25 (by decide) ?_
    refine z_idiv C (r := c / 12) dX2_beside_27 (by decide) (iI_div12 (by omega)) ?_
    refine z_iload_n C 2 dX2_beside_28 rfl ?_
    refine z_iconst C dX2_beside_29 ?_
    refine z_icmp_ne C (tgt := 37) dX2_beside_30 (by decide) (by omega) (by omega) (fun c_30 => ?_) (fun c_30 => ?_)
    ·
      refine z_iload_n C 2 dX2_beside_37 rfl ?_
      refine z_iconst C dX2_beside_38 ?_
      refine z_icmp_ne C (tgt := 46) dX2_beside_39 (by decide) (by omega) (by omega) (fun c_39 => ?_) (fun c_39 => ?_)
      ·
        refine z_iconst C dX2_beside_46 ?_
        refine z_iadd C dX2_beside_47 ?_
        refine z_istore_n C [(3, vI ((c / 12) + 0)), (2, vI ((c % 12) + (-1))), (0, vI c), (1, vI sd)] dX2_beside_48 (by decide) rfl ?_
        refine z_iload_n C 1 dX2_beside_49 rfl ?_
        refine z_iload_n C 0 dX2_beside_50 rfl ?_
        refine z_callSi C (As := [vI ((c % 12) + (-1)), vI ((c / 12) + 0)]) (st := []) (y := yX2_isCell) (w := wsX2_isCell) (rm := rm_X2_isCell) (wr := []) (k' := 0) (n' := 0) [] [] (c_X2_isCell l D cI cJ  ((c % 12) + (-1)) ((c / 12) + 0) (by omega) (by omega)) (va_cwS 2 C.1.2.2.2.2 gX2_beside_X2_isCell rfl rfl rfl (by decide +kernel) ⟨Nat.le_of_ble_eq_true rfl, Nat.le_of_ble_eq_true rfl⟩) rfl rfl rfl rfl rfl (by decide) rfl rfl (Nat.le_of_ble_eq_true rfl) rfl rfl ⟨Nat.le_of_ble_eq_true rfl, Nat.le_of_ble_eq_true rfl⟩ dX2_beside_51 ?_
        rintro z_51 _ ⟨rfl, hz_51⟩
        refine z_ws (ws' := []) rfl ?_
        have r_51 : z_51 = 0 ∨ z_51 = 1 := by rw [hz_51]; exact bI_01 _
        have hz_51 : z_51 = bI (decide (0 ≤ ((c % 12) + (-1))) && decide (((c % 12) + (-1)) ≤ 11) && (decide (0 ≤ ((c / 12) + 0)) && decide (((c / 12) + 0) ≤ 11))) := hz_51
        have i_51 := isC_c hz_51
        refine z_if_eq C (tgt := 66) dX2_beside_54 (by decide) (by omega) (fun c_54 => ?_) (fun c_54 => ?_)
        ·
          refine z_iconst C dX2_beside_66 ?_
          first | exact hret _ _ _ _ dX2_beside_67 ⟨rfl, by (unfold bes; repeat' split) <;> omega⟩ | (exfalso; omega)
        ·
          refine z_bipush C dX2_beside_57 (by decide) ?_
          refine z_iload_n C 0 dX2_beside_59 rfl ?_
          refine z_imul C dX2_beside_60 ?_
          refine z_iload_n C 1 dX2_beside_61 rfl ?_
          refine z_iadd C dX2_beside_62 ?_
          refine z_goto C (tgt := 67) dX2_beside_63 (by decide) ?_
          first | exact hret _ _ _ _ dX2_beside_67 ⟨rfl, by (unfold bes; repeat' split) <;> omega⟩ | (exfalso; omega)
      ·
        refine z_iconst C dX2_beside_42 ?_
        refine z_goto C (tgt := 47) dX2_beside_43 (by decide) ?_
        refine z_iadd C dX2_beside_47 ?_
        refine z_istore_n C [(3, vI ((c / 12) + 1)), (2, vI ((c % 12) + (-1))), (0, vI c), (1, vI sd)] dX2_beside_48 (by decide) rfl ?_
        refine z_iload_n C 1 dX2_beside_49 rfl ?_
        refine z_iload_n C 0 dX2_beside_50 rfl ?_
        refine z_callSi C (As := [vI ((c % 12) + (-1)), vI ((c / 12) + 1)]) (st := []) (y := yX2_isCell) (w := wsX2_isCell) (rm := rm_X2_isCell) (wr := []) (k' := 0) (n' := 0) [] [] (c_X2_isCell l D cI cJ  ((c % 12) + (-1)) ((c / 12) + 1) (by omega) (by omega)) (va_cwS 2 C.1.2.2.2.2 gX2_beside_X2_isCell rfl rfl rfl (by decide +kernel) ⟨Nat.le_of_ble_eq_true rfl, Nat.le_of_ble_eq_true rfl⟩) rfl rfl rfl rfl rfl (by decide) rfl rfl (Nat.le_of_ble_eq_true rfl) rfl rfl ⟨Nat.le_of_ble_eq_true rfl, Nat.le_of_ble_eq_true rfl⟩ dX2_beside_51 ?_
        rintro z_51 _ ⟨rfl, hz_51⟩
        refine z_ws (ws' := []) rfl ?_
        have r_51 : z_51 = 0 ∨ z_51 = 1 := by rw [hz_51]; exact bI_01 _
        have hz_51 : z_51 = bI (decide (0 ≤ ((c % 12) + (-1))) && decide (((c % 12) + (-1)) ≤ 11) && (decide (0 ≤ ((c / 12) + 1)) && decide (((c / 12) + 1) ≤ 11))) := hz_51
        have i_51 := isC_c hz_51
        refine z_if_eq C (tgt := 66) dX2_beside_54 (by decide) (by omega) (fun c_54 => ?_) (fun c_54 => ?_)
        ·
          refine z_iconst C dX2_beside_66 ?_
          first | exact hret _ _ _ _ dX2_beside_67 ⟨rfl, by (unfold bes; repeat' split) <;> omega⟩ | (exfalso; omega)
        ·
          refine z_bipush C dX2_beside_57 (by decide) ?_
          refine z_iload_n C 0 dX2_beside_59 rfl ?_
          refine z_imul C dX2_beside_60 ?_
          refine z_iload_n C 1 dX2_beside_61 rfl ?_
          refine z_iadd C dX2_beside_62 ?_
          refine z_goto C (tgt := 67) dX2_beside_63 (by decide) ?_
          first | exact hret _ _ _ _ dX2_beside_67 ⟨rfl, by (unfold bes; repeat' split) <;> omega⟩ | (exfalso; omega)
    ·
      refine z_iconst C dX2_beside_33 ?_
      refine z_goto C (tgt := 47) dX2_beside_34 (by decide) ?_
      refine z_iadd C dX2_beside_47 ?_
      refine z_istore_n C [(3, vI ((c / 12) + (-1))), (2, vI ((c % 12) + (-1))), (0, vI c), (1, vI sd)] dX2_beside_48 (by decide) rfl ?_
      refine z_iload_n C 1 dX2_beside_49 rfl ?_
      refine z_iload_n C 0 dX2_beside_50 rfl ?_
      refine z_callSi C (As := [vI ((c % 12) + (-1)), vI ((c / 12) + (-1))]) (st := []) (y := yX2_isCell) (w := wsX2_isCell) (rm := rm_X2_isCell) (wr := []) (k' := 0) (n' := 0) [] [] (c_X2_isCell l D cI cJ  ((c % 12) + (-1)) ((c / 12) + (-1)) (by omega) (by omega)) (va_cwS 2 C.1.2.2.2.2 gX2_beside_X2_isCell rfl rfl rfl (by decide +kernel) ⟨Nat.le_of_ble_eq_true rfl, Nat.le_of_ble_eq_true rfl⟩) rfl rfl rfl rfl rfl (by decide) rfl rfl (Nat.le_of_ble_eq_true rfl) rfl rfl ⟨Nat.le_of_ble_eq_true rfl, Nat.le_of_ble_eq_true rfl⟩ dX2_beside_51 ?_
      rintro z_51 _ ⟨rfl, hz_51⟩
      refine z_ws (ws' := []) rfl ?_
      have r_51 : z_51 = 0 ∨ z_51 = 1 := by rw [hz_51]; exact bI_01 _
      have hz_51 : z_51 = bI (decide (0 ≤ ((c % 12) + (-1))) && decide (((c % 12) + (-1)) ≤ 11) && (decide (0 ≤ ((c / 12) + (-1))) && decide (((c / 12) + (-1)) ≤ 11))) := hz_51
      have i_51 := isC_c hz_51
      refine z_if_eq C (tgt := 66) dX2_beside_54 (by decide) (by omega) (fun c_54 => ?_) (fun c_54 => ?_)
      ·
        refine z_iconst C dX2_beside_66 ?_
        first | exact hret _ _ _ _ dX2_beside_67 ⟨rfl, by (unfold bes; repeat' split) <;> omega⟩ | (exfalso; omega)
      ·
        refine z_bipush C dX2_beside_57 (by decide) ?_
        refine z_iload_n C 0 dX2_beside_59 rfl ?_
        refine z_imul C dX2_beside_60 ?_
        refine z_iload_n C 1 dX2_beside_61 rfl ?_
        refine z_iadd C dX2_beside_62 ?_
        refine z_goto C (tgt := 67) dX2_beside_63 (by decide) ?_
        first | exact hret _ _ _ _ dX2_beside_67 ⟨rfl, by (unfold bes; repeat' split) <;> omega⟩ | (exfalso; omega)

set_option maxRecDepth 100000 in
theorem inU_X2_X2_go : ∀ w ∈ u_ws RX2 TX2 14, w ∈ wsX2_go := by decide +kernel
abbrev rm_X2_go : Room := { frames := 1, cells := 0, slots := 0, locals := 24 }
set_option maxHeartbeats 4000000 in
set_option maxRecDepth 100000 in
theorem c_X2_go (l : Launch) (D : va_G) (cI cJ : ClassId) (h : Nat → Nat) (σ : YS) (LI BR : Nat → Int) (γ : YS) (φ : Nat → Int) (θ : Int) (f t : Int) (hf : 0 ≤ f ∧ f < 144) (ht : 0 ≤ t ∧ t < 144) (hO : Ok σ) : Cv l yX2_go wsX2_go rm_X2_go D [(cI, .int), (cJ, .long)] [.ref (h 0), vI f, vI t] (mx cI h σ LI BR γ φ θ) (fun u => ∃ φ' : Nat → Int, u = (mx cI h σ LI BR γ φ' θ) ∧ φ' 0 = (ray (σ 0) f t).1 ∧ φ' 1 = (ray (σ 0) f t).2) := by
  refine z_ofv (own := RX2) (cc := cX2_go) (maxL := 12) (lv := [(0, .ref (h 0)), (1, vI f), (2, vI t)]) (by decide) rfl rfl (Nat.le_of_ble_eq_true rfl) rfl ?_
  intro p e s m args below meth cd Q A C hret
  have a1 := abZ_c (t % 12 - f % 12)
  have a2 := abZ_c (t / 12 - f / 12)
  refine z_iload_n C 2 dX2_go_0 rfl ?_
  refine z_bipush C dX2_go_1 (by decide) ?_
  refine z_irem C (r := t % 12) dX2_go_3 (by decide) (iI_rem12 (by omega)) ?_
  refine z_iload_n C 1 dX2_go_4 rfl ?_
  refine z_bipush C dX2_go_5 (by decide) ?_
  refine z_irem C (r := f % 12) dX2_go_7 (by decide) (iI_rem12 (by omega)) ?_
  refine z_isub C dX2_go_8 ?_
  refine z_mabs C dX2_go_9 (by decide +kernel) (by decide +kernel) (by decide +kernel) (by decide +kernel) (Nat.le_of_ble_eq_true rfl) (Nat.le_of_ble_eq_true rfl) (Nat.le_of_ble_eq_true rfl) (Nat.le_of_ble_eq_true rfl) (by omega) ?_
  refine z_st (v' := abZ ((t % 12) - (f % 12))) rfl ?_
  have a_9 := abZ_c ((t % 12) - (f % 12))
  refine z_istore_n C [(3, vI (abZ ((t % 12) - (f % 12)))), (0, .ref (h 0)), (1, vI f), (2, vI t)] dX2_go_12 (by decide) rfl ?_
  refine z_iload_n C 3 dX2_go_13 rfl ?_
  refine z_bipush C dX2_go_14 (by decide) ?_
  refine z_idiv C (r := t / 12) dX2_go_16 (by decide) (iI_div12 (by omega)) ?_
  refine z_iload_n C 2 dX2_go_17 rfl ?_
  refine z_bipush C dX2_go_18 (by decide) ?_
  refine z_idiv C (r := f / 12) dX2_go_20 (by decide) (iI_div12 (by omega)) ?_
  refine z_isub C dX2_go_21 ?_
  refine z_mabs C dX2_go_22 (by decide +kernel) (by decide +kernel) (by decide +kernel) (by decide +kernel) (Nat.le_of_ble_eq_true rfl) (Nat.le_of_ble_eq_true rfl) (Nat.le_of_ble_eq_true rfl) (Nat.le_of_ble_eq_true rfl) (by omega) ?_
  refine z_st (v' := abZ ((t / 12) - (f / 12))) rfl ?_
  have a_22 := abZ_c ((t / 12) - (f / 12))
  refine z_istore C [(4, vI (abZ ((t / 12) - (f / 12)))), (3, vI (abZ ((t % 12) - (f % 12)))), (0, .ref (h 0)), (1, vI f), (2, vI t)] dX2_go_25 (by decide) rfl ?_
  have L_65 : ∀ (ax ay : Int) (hax : (t % 12 < f % 12 → ax = -1) ∧ (f % 12 ≤ t % 12 → ax = 1)) (hay : (t / 12 < f / 12 → ay = -12) ∧ (f / 12 ≤ t / 12 → ay = 12)), Zs p l e rm_X2_go s m args below meth cd Q A D 12 65 [(0, .ref (h 0)), (1, vI f), (2, vI t), (3, vI (abZ (t % 12 - f % 12))), (4, vI (abZ (t / 12 - f / 12))), (5, vI ax), (6, vI ay)] [] (mx cI h σ LI BR γ φ θ) 0 0 := by
    intro ax ay hax hay
    refine z_iconst C dX2_go_65 ?_
    refine z_istore C [(7, vI 0), (0, .ref (h 0)), (1, vI f), (2, vI t), (3, vI (abZ (t % 12 - f % 12))), (4, vI (abZ (t / 12 - f / 12))), (5, vI ax), (6, vI ay)] dX2_go_66 (by decide) rfl ?_
    refine z_iconst C dX2_go_68 ?_
    refine z_istore C [(8, vI 0), (7, vI 0), (0, .ref (h 0)), (1, vI f), (2, vI t), (3, vI (abZ (t % 12 - f % 12))), (4, vI (abZ (t / 12 - f / 12))), (5, vI ax), (6, vI ay)] dX2_go_69 (by decide) rfl ?_
    refine z_iload_n C 3 dX2_go_71 rfl ?_
    refine z_istore C [(9, vI f), (8, vI 0), (7, vI 0), (0, .ref (h 0)), (1, vI f), (2, vI t), (3, vI (abZ (t % 12 - f % 12))), (4, vI (abZ (t / 12 - f / 12))), (5, vI ax), (6, vI ay)] dX2_go_72 (by decide) rfl ?_
    refine z_aload_n C 3 dX2_go_74 rfl ?_
    refine z_iconst C dX2_go_75 ?_
    refine z_put C (ref := "ShadowWallsModel") (T := TX2) (N := 14) (ci := 2) (ty := .int) (ws' := (mx cI h σ LI BR γ (fU φ 0 0) θ)) 0 12 inU_X2_X2_go tyX2 tyX2_ok nmX2 rfl rfl (by decide) (by decide +kernel) (fun _ h9 => h9) rfl (by decide +kernel) (rfl) (rfl) (Nat.le_of_ble_eq_true rfl) rfl dX2_go_76 ?_
    refine z_aload_n C 3 dX2_go_79 rfl ?_
    refine z_iconst C dX2_go_80 ?_
    refine z_put C (ref := "ShadowWallsModel") (T := TX2) (N := 14) (ci := 2) (ty := .int) (ws' := (mx cI h σ LI BR γ (fU (fU φ 0 0) 1 0) θ)) 0 13 inU_X2_X2_go tyX2 tyX2_ok nmX2 rfl rfl (by decide) (by decide +kernel) (fun _ h9 => h9) rfl (by decide +kernel) (rfl) (rfl) (Nat.le_of_ble_eq_true rfl) rfl dX2_go_81 ?_
    have L_84 : ∀ (d9 i : Nat) (φ1 : Nat → Int) (ix iy : Int) (hd : 23 ≤ i + d9) (hi : (i : Int) ≤ ix + iy) (hx : 0 ≤ ix ∧ ix ≤ abZ (t % 12 - f % 12)) (hy : 0 ≤ iy ∧ iy ≤ abZ (t / 12 - f / 12)) (hs : 0 ≤ φ1 0 ∧ φ1 0 < 4) (hr : ryH (σ 0) (f % 12) (f / 12) (sgZ (t % 12 - f % 12)) (sgZ (t / 12 - f / 12)) (abZ (t % 12 - f % 12)) (abZ (t / 12 - f / 12)) (22 - i) ix iy (φ1 0) (φ1 1) = ray (σ 0) f t), Zs p l e rm_X2_go s m args below meth cd Q A D 12 84 [(0, .ref (h 0)), (1, vI f), (2, vI t), (3, vI (abZ (t % 12 - f % 12))), (4, vI (abZ (t / 12 - f / 12))), (5, vI ax), (6, vI ay), (7, vI ix), (8, vI iy), (9, vI (cl (f % 12) (f / 12) (sgZ (t % 12 - f % 12)) (sgZ (t / 12 - f / 12)) ix iy))] [] (mx cI h σ LI BR γ φ1 θ) 0 0 := by
      intro d9
      induction d9 with
      | zero =>
        intro i φ1 ix iy hd hi hx hy hs hr
        exfalso; omega
      | succ d9 ih9 =>
        intro i φ1 ix iy hd hi hx hy hs hr
        have hm : i ≤ 22 := by omega
        have g1 := pos_in (f := f % 12) (t := t % 12) (i := ix) (by omega) (by omega) (by omega)
        have g2 := pos_in (f := f / 12) (t := t / 12) (i := iy) (by omega) (by omega) (by omega)
        have m1 := mulr (a := 1 + 2 * ix) (b := abZ (t / 12 - f / 12)) (A := 23) (B := 11) (by omega) (by omega)
        have m2 := mulr (a := 1 + 2 * iy) (b := abZ (t % 12 - f % 12)) (A := 23) (B := 11) (by omega) (by omega)
        have hE := fun q => ryH_end (K := σ 0) (fx := f % 12) (fy := f / 12) (sx := sgZ (t % 12 - f % 12)) (sy := sgZ (t / 12 - f / 12)) (nx := abZ (t % 12 - f % 12)) (ny := abZ (t / 12 - f / 12)) (ix := ix) (iy := iy) (s := φ1 0) (g := φ1 1) q (22 - i)
        have L_97 : ∀ (hg : ix < abZ (t % 12 - f % 12) ∨ iy < abZ (t / 12 - f / 12)), Zs p l e rm_X2_go s m args below meth cd Q A D 12 97 [(0, .ref (h 0)), (1, vI f), (2, vI t), (3, vI (abZ (t % 12 - f % 12))), (4, vI (abZ (t / 12 - f / 12))), (5, vI ax), (6, vI ay), (7, vI ix), (8, vI iy), (9, vI (cl (f % 12) (f / 12) (sgZ (t % 12 - f % 12)) (sgZ (t / 12 - f / 12)) ix iy))] [] (mx cI h σ LI BR γ φ1 θ) 0 0 := by
          intro hg
          have hc := nix_c hx.1 hx.2 hy.1 hy.2 hg
          have hmm := nix_m (abZ (t % 12 - f % 12)) (abZ (t / 12 - f / 12)) ix iy
          have g3 := pos_in (f := f % 12) (t := t % 12) (i := nix (abZ (t % 12 - f % 12)) (abZ (t / 12 - f / 12)) ix iy) (by omega) (by omega) (by omega)
          have g4 := pos_in (f := f / 12) (t := t / 12) (i := niy (abZ (t % 12 - f % 12)) (abZ (t / 12 - f / 12)) ix iy) (by omega) (by omega) (by omega)
          have ht9 := cl_t (f := f) (t := t) (ix := nix (abZ (t % 12 - f % 12)) (abZ (t / 12 - f / 12)) ix iy) (iy := niy (abZ (t % 12 - f % 12)) (abZ (t / 12 - f / 12)) ix iy) (by omega) (by omega) ⟨hc.1, hc.2.1⟩ hc.2.2
          have hr1 := hr
          rw [show 22 - i = (22 - (i + 1)) + 1 by omega] at hr1
          simp only [ryH] at hr1
          rw [if_pos hg] at hr1
          have hcl : cl (f % 12) (f / 12) (sgZ (t % 12 - f % 12)) (sgZ (t / 12 - f / 12)) ix iy = 12 * (f / 12 + sgZ (t / 12 - f / 12) * iy) + (f % 12 + sgZ (t % 12 - f % 12) * ix) := rfl
          have s1 := sgZ_c (t % 12 - f % 12)
          have s2 := sgZ_c (t / 12 - f / 12)
          refine z_iconst C dX2_go_97 ?_
          refine z_iconst C dX2_go_98 ?_
          refine z_iload C 7 dX2_go_99 rfl ?_
          refine z_imul C dX2_go_101 ?_
          refine z_iadd C dX2_go_102 ?_
          refine z_iload C 4 dX2_go_103 rfl ?_
          refine z_imul C dX2_go_105 ?_
          refine z_istore C [(10, vI ((1 + (2 * ix)) * (abZ (t / 12 - f / 12)))), (0, .ref (h 0)), (1, vI f), (2, vI t), (3, vI (abZ (t % 12 - f % 12))), (4, vI (abZ (t / 12 - f / 12))), (5, vI ax), (6, vI ay), (7, vI ix), (8, vI iy), (9, vI (cl (f % 12) (f / 12) (sgZ (t % 12 - f % 12)) (sgZ (t / 12 - f / 12)) ix iy))] dX2_go_106 (by decide) rfl ?_
          refine z_iconst C dX2_go_108 ?_
          refine z_iconst C dX2_go_109 ?_
          refine z_iload C 9 dX2_go_110 rfl ?_
          refine z_imul C dX2_go_112 ?_
          refine z_iadd C dX2_go_113 ?_
          refine z_iload_n C 4 dX2_go_114 rfl ?_
          refine z_imul C dX2_go_115 ?_
          refine z_istore C [(11, vI ((1 + (2 * iy)) * (abZ (t % 12 - f % 12)))), (10, vI ((1 + (2 * ix)) * (abZ (t / 12 - f / 12)))), (0, .ref (h 0)), (1, vI f), (2, vI t), (3, vI (abZ (t % 12 - f % 12))), (4, vI (abZ (t / 12 - f / 12))), (5, vI ax), (6, vI ay), (7, vI ix), (8, vI iy), (9, vI (cl (f % 12) (f / 12) (sgZ (t % 12 - f % 12)) (sgZ (t / 12 - f / 12)) ix iy))] dX2_go_116 (by decide) rfl ?_
          refine z_iload C 1 dX2_go_118 rfl ?_
          refine z_iload C 0 dX2_go_120 rfl ?_
          refine z_icmp_ne C (tgt := 153) dX2_go_122 (by decide) (by omega) (by omega) (fun c_122 => ?_) (fun c_122 => ?_)
          ·
            refine z_iload C 1 dX2_go_153 rfl ?_
            refine z_iload C 0 dX2_go_155 rfl ?_
            refine z_icmp_gt C (tgt := 170) dX2_go_157 (by decide) (by omega) (by omega) (fun c_157 => ?_) (fun c_157 => ?_)
            ·
              refine z_iload C 1 dX2_go_170 rfl ?_
              refine z_iload C 0 dX2_go_172 rfl ?_
              refine z_icmp_lt C (tgt := 187) dX2_go_174 (by decide) (by omega) (by omega) (fun c_174 => ?_) (fun c_174 => ?_)
              ·
                exfalso; omega
              ·
                refine z_iload C 11 dX2_go_177 rfl ?_
                refine z_iload C 8 dX2_go_179 rfl ?_
                refine z_iadd C dX2_go_181 ?_
                refine z_istore C [(9, vI ((cl (f % 12) (f / 12) (sgZ (t % 12 - f % 12)) (sgZ (t / 12 - f / 12)) ix iy) + ay)), (11, vI ((1 + (2 * iy)) * (abZ (t % 12 - f % 12)))), (10, vI ((1 + (2 * ix)) * (abZ (t / 12 - f / 12)))), (0, .ref (h 0)), (1, vI f), (2, vI t), (3, vI (abZ (t % 12 - f % 12))), (4, vI (abZ (t / 12 - f / 12))), (5, vI ax), (6, vI ay), (7, vI ix), (8, vI iy)] dX2_go_182 (by decide) rfl ?_
                refine z_iinc C 11 [(8, vI (iy + 1)), (9, vI ((cl (f % 12) (f / 12) (sgZ (t % 12 - f % 12)) (sgZ (t / 12 - f / 12)) ix iy) + ay)), (11, vI ((1 + (2 * iy)) * (abZ (t % 12 - f % 12)))), (10, vI ((1 + (2 * ix)) * (abZ (t / 12 - f / 12)))), (0, .ref (h 0)), (1, vI f), (2, vI t), (3, vI (abZ (t % 12 - f % 12))), (4, vI (abZ (t / 12 - f / 12))), (5, vI ax), (6, vI ay), (7, vI ix)] dX2_go_184 rfl (by decide) rfl ?_
                have e1 : nix (abZ (t % 12 - f % 12)) (abZ (t / 12 - f / 12)) ix iy = ix := if_neg (by omega)
                have e2 : niy (abZ (t % 12 - f % 12)) (abZ (t / 12 - f / 12)) ix iy = iy + 1 := if_pos (by omega)
                have e9 : (cl (f % 12) (f / 12) (sgZ (t % 12 - f % 12)) (sgZ (t / 12 - f / 12)) ix iy) + ay = cl (f % 12) (f / 12) (sgZ (t % 12 - f % 12)) (sgZ (t / 12 - f / 12)) (nix (abZ (t % 12 - f % 12)) (abZ (t / 12 - f / 12)) ix iy) (niy (abZ (t % 12 - f % 12)) (abZ (t / 12 - f / 12)) ix iy) := by rw [e1, e2]; unfold cl; rw [Int.mul_add (sgZ (t / 12 - f / 12)) iy 1]; omega
                have hA : ns1 (σ 0) (f % 12) (f / 12) (sgZ (t % 12 - f % 12)) (sgZ (t / 12 - f / 12)) (abZ (t % 12 - f % 12)) (abZ (t / 12 - f / 12)) ix iy (φ1 0) = φ1 0 := if_neg c_122
                have e7 : ix = nix (abZ (t % 12 - f % 12)) (abZ (t / 12 - f / 12)) ix iy := e1.symm
                have e8 : iy + 1 = niy (abZ (t % 12 - f % 12)) (abZ (t / 12 - f / 12)) ix iy := e2.symm
                have y3 : 0 ≤ ((cl (f % 12) (f / 12) (sgZ (t % 12 - f % 12)) (sgZ (t / 12 - f / 12)) ix iy) + ay) ∧ ((cl (f % 12) (f / 12) (sgZ (t % 12 - f % 12)) (sgZ (t / 12 - f / 12)) ix iy) + ay) < 144 := by rw [e9]; unfold cl; omega
                refine z_aload_n C 4 dX2_go_187 rfl ?_
                refine z_dup C dX2_go_188 rfl ?_
                refine z_get C (v := vI (φ1 1)) (ref := "ShadowWallsModel") (T := TX2) (N := 14) (ci := 2) 0 13 inU_X2_X2_go rfl rfl (by decide) (by decide +kernel) (fun _ h9 => h9) rfl dX2_go_189 ?_
                refine z_iconst C dX2_go_192 ?_
                refine z_iadd C dX2_go_193 ?_
                refine z_put C (ref := "ShadowWallsModel") (T := TX2) (N := 14) (ci := 2) (ty := .int) (ws' := (mx cI h σ LI BR γ (fU φ1 1 ((φ1 1) + 1)) θ)) 0 13 inU_X2_X2_go tyX2 tyX2_ok nmX2 rfl rfl (by decide) (by decide +kernel) (fun _ h9 => h9) rfl (by decide +kernel) (rfl) (rfl) (Nat.le_of_ble_eq_true rfl) rfl dX2_go_194 ?_
                refine z_iload C 1 dX2_go_197 rfl ?_
                refine z_iload_n C 6 dX2_go_199 rfl ?_
                refine z_icmp_eq C (tgt := 218) dX2_go_200 (by decide) (by omega) (by omega) (fun c_200 => ?_) (fun c_200 => ?_)
                ·
                  have hB := ht9.mp (e9.symm.trans c_200)
                  have hN : nsv (σ 0) (f % 12) (f / 12) (sgZ (t % 12 - f % 12)) (sgZ (t / 12 - f / 12)) (abZ (t % 12 - f % 12)) (abZ (t / 12 - f / 12)) ix iy (φ1 0) = (fU φ1 1 ((φ1 1) + 1)) 0 := by unfold nsv; rw [if_neg hB, hA]; first | done | rfl
                  have hsv := (nsv_r (K := σ 0) (fx := f % 12) (fy := f / 12) (sx := sgZ (t % 12 - f % 12)) (sy := sgZ (t / 12 - f / 12)) (nx := abZ (t % 12 - f % 12)) (ny := abZ (t / 12 - f / 12)) (ix := ix) (iy := iy) (s := φ1 0) hs).2
                  rw [hN] at hsv
                  have hr2 := hr1
                  rw [hN] at hr2
                  refine z_goto C (tgt := 84) dX2_go_218 (by decide) ?_
                  refine z_chg 11 (x' := nix (abZ (t % 12 - f % 12)) (abZ (t / 12 - f / 12)) ix iy) (lv' := [(8, vI (iy + 1)), (9, vI ((cl (f % 12) (f / 12) (sgZ (t % 12 - f % 12)) (sgZ (t / 12 - f / 12)) ix iy) + ay)), (11, vI ((1 + (2 * iy)) * (abZ (t % 12 - f % 12)))), (10, vI ((1 + (2 * ix)) * (abZ (t / 12 - f / 12)))), (0, .ref (h 0)), (1, vI f), (2, vI t), (3, vI (abZ (t % 12 - f % 12))), (4, vI (abZ (t / 12 - f / 12))), (5, vI ax), (6, vI ay), (7, vI (nix (abZ (t % 12 - f % 12)) (abZ (t / 12 - f / 12)) ix iy))]) rfl (e7) rfl ?_
                  refine z_chg 0 (x' := niy (abZ (t % 12 - f % 12)) (abZ (t / 12 - f / 12)) ix iy) (lv' := [(8, vI (niy (abZ (t % 12 - f % 12)) (abZ (t / 12 - f / 12)) ix iy)), (9, vI ((cl (f % 12) (f / 12) (sgZ (t % 12 - f % 12)) (sgZ (t / 12 - f / 12)) ix iy) + ay)), (11, vI ((1 + (2 * iy)) * (abZ (t % 12 - f % 12)))), (10, vI ((1 + (2 * ix)) * (abZ (t / 12 - f / 12)))), (0, .ref (h 0)), (1, vI f), (2, vI t), (3, vI (abZ (t % 12 - f % 12))), (4, vI (abZ (t / 12 - f / 12))), (5, vI ax), (6, vI ay), (7, vI (nix (abZ (t % 12 - f % 12)) (abZ (t / 12 - f / 12)) ix iy))]) rfl (e8) rfl ?_
                  refine z_chg 1 (x' := cl (f % 12) (f / 12) (sgZ (t % 12 - f % 12)) (sgZ (t / 12 - f / 12)) (nix (abZ (t % 12 - f % 12)) (abZ (t / 12 - f / 12)) ix iy) (niy (abZ (t % 12 - f % 12)) (abZ (t / 12 - f / 12)) ix iy)) (lv' := [(8, vI (niy (abZ (t % 12 - f % 12)) (abZ (t / 12 - f / 12)) ix iy)), (9, vI (cl (f % 12) (f / 12) (sgZ (t % 12 - f % 12)) (sgZ (t / 12 - f / 12)) (nix (abZ (t % 12 - f % 12)) (abZ (t / 12 - f / 12)) ix iy) (niy (abZ (t % 12 - f % 12)) (abZ (t / 12 - f / 12)) ix iy))), (11, vI ((1 + (2 * iy)) * (abZ (t % 12 - f % 12)))), (10, vI ((1 + (2 * ix)) * (abZ (t / 12 - f / 12)))), (0, .ref (h 0)), (1, vI f), (2, vI t), (3, vI (abZ (t % 12 - f % 12))), (4, vI (abZ (t / 12 - f / 12))), (5, vI ax), (6, vI ay), (7, vI (nix (abZ (t % 12 - f % 12)) (abZ (t / 12 - f / 12)) ix iy))]) rfl (e9) rfl ?_
                  refine z_sub (lv' := [(0, .ref (h 0)), (1, vI f), (2, vI t), (3, vI (abZ (t % 12 - f % 12))), (4, vI (abZ (t / 12 - f / 12))), (5, vI ax), (6, vI ay), (7, vI (nix (abZ (t % 12 - f % 12)) (abZ (t / 12 - f / 12)) ix iy)), (8, vI (niy (abZ (t % 12 - f % 12)) (abZ (t / 12 - f / 12)) ix iy)), (9, vI (cl (f % 12) (f / 12) (sgZ (t % 12 - f % 12)) (sgZ (t / 12 - f / 12)) (nix (abZ (t % 12 - f % 12)) (abZ (t / 12 - f / 12)) ix iy) (niy (abZ (t % 12 - f % 12)) (abZ (t / 12 - f / 12)) ix iy)))]) [4, 5, 6, 7, 8, 9, 10, 11, 0, 1] rfl ?_
                  exact ih9 (i + 1) _ (nix (abZ (t % 12 - f % 12)) (abZ (t / 12 - f / 12)) ix iy) (niy (abZ (t % 12 - f % 12)) (abZ (t / 12 - f / 12)) ix iy) (by omega) (by omega) (by omega) (by omega) (by exact hsv) (by exact hr2)
                ·
                  refine z_aload_n C 4 dX2_go_203 rfl ?_
                  refine z_dup C dX2_go_204 rfl ?_
                  refine z_get C (v := vI ((fU φ1 1 ((φ1 1) + 1)) 0)) (ref := "ShadowWallsModel") (T := TX2) (N := 14) (ci := 2) 0 12 inU_X2_X2_go rfl rfl (by decide) (by decide +kernel) (fun _ h9 => h9) rfl dX2_go_205 ?_
                  refine z_aload_n C 4 dX2_go_208 rfl ?_
                  refine z_iload C 1 dX2_go_209 rfl ?_
                  refine z_callVi C (As := [vI ((cl (f % 12) (f / 12) (sgZ (t % 12 - f % 12)) (sgZ (t / 12 - f / 12)) ix iy) + ay)]) (st := [vI ((fU φ1 1 ((φ1 1) + 1)) 0), .ref (h 0)]) (y := yX2_stopsAt) (w := wsX2_stopsAt) (rm := rm_X2_stopsAt) (wr := []) (k' := 0) (n' := 0) [0, 1, 2, 3, 4, 5, 6, 7, 8] [] 0 (c_X2_stopsAt l D cI cJ h σ LI BR γ (fU φ1 1 ((φ1 1) + 1)) θ ((cl (f % 12) (f / 12) (sgZ (t % 12 - f % 12)) (sgZ (t / 12 - f / 12)) ix iy) + ay) (by omega) hO) (cwV 1 C.1.2.2.2.2 gX2_go_X2_stopsAt rfl rfl rfl (by decide +kernel) ⟨Nat.le_of_ble_eq_true rfl, Nat.le_of_ble_eq_true rfl⟩) rfl rfl rfl rfl rfl (by decide) rfl rfl rfl rfl (Nat.le_of_ble_eq_true rfl) rfl rfl ⟨Nat.le_of_ble_eq_true rfl, Nat.le_of_ble_eq_true rfl⟩ dX2_go_211 ?_
                  rintro z_211 _ ⟨rfl, hz_211⟩
                  refine z_ws (ws' := (mx cI h σ LI BR γ ((fU φ1 1 ((φ1 1) + 1))) θ)) rfl ?_
                  have r_211 : 0 ≤ z_211 ∧ z_211 ≤ 3 := by rw [hz_211]; exact sbK_r _ _
                  have hz_211 : z_211 = sbK (σ 0) ((cl (f % 12) (f / 12) (sgZ (t % 12 - f % 12)) (sgZ (t / 12 - f / 12)) ix iy) + ay) := hz_211
                  have cu2 : (fU φ1 1 ((φ1 1) + 1)) 0 = φ1 0 := rfl
                  refine z_ior C (r := bor ((fU φ1 1 ((φ1 1) + 1)) 0) z_211) dX2_go_214 ((bits_e (by omega) (by omega)).1.2) ?_
                  refine z_put C (ref := "ShadowWallsModel") (T := TX2) (N := 14) (ci := 2) (ty := .int) (ws' := (mx cI h σ LI BR γ (fU (fU φ1 1 ((φ1 1) + 1)) 0 (bor ((fU φ1 1 ((φ1 1) + 1)) 0) z_211)) θ)) 0 12 inU_X2_X2_go tyX2 tyX2_ok nmX2 rfl rfl (by decide) (by decide +kernel) (fun _ h9 => h9) rfl (by decide +kernel) (rfl) (rfl) (Nat.le_of_ble_eq_true rfl) rfl dX2_go_215 ?_
                  have hB := Classical.not_not.mp (fun q => c_200 (e9.trans (ht9.mpr q)))
                  have hN : nsv (σ 0) (f % 12) (f / 12) (sgZ (t % 12 - f % 12)) (sgZ (t / 12 - f / 12)) (abZ (t % 12 - f % 12)) (abZ (t / 12 - f / 12)) ix iy (φ1 0) = bor ((fU φ1 1 ((φ1 1) + 1)) 0) z_211 := by unfold nsv; rw [if_pos hB, hA, hz_211, e9]; first | done | rfl
                  have hsv := (nsv_r (K := σ 0) (fx := f % 12) (fy := f / 12) (sx := sgZ (t % 12 - f % 12)) (sy := sgZ (t / 12 - f / 12)) (nx := abZ (t % 12 - f % 12)) (ny := abZ (t / 12 - f / 12)) (ix := ix) (iy := iy) (s := φ1 0) hs).2
                  rw [hN] at hsv
                  have hr2 := hr1
                  rw [hN] at hr2
                  refine z_goto C (tgt := 84) dX2_go_218 (by decide) ?_
                  refine z_chg 11 (x' := nix (abZ (t % 12 - f % 12)) (abZ (t / 12 - f / 12)) ix iy) (lv' := [(8, vI (iy + 1)), (9, vI ((cl (f % 12) (f / 12) (sgZ (t % 12 - f % 12)) (sgZ (t / 12 - f / 12)) ix iy) + ay)), (11, vI ((1 + (2 * iy)) * (abZ (t % 12 - f % 12)))), (10, vI ((1 + (2 * ix)) * (abZ (t / 12 - f / 12)))), (0, .ref (h 0)), (1, vI f), (2, vI t), (3, vI (abZ (t % 12 - f % 12))), (4, vI (abZ (t / 12 - f / 12))), (5, vI ax), (6, vI ay), (7, vI (nix (abZ (t % 12 - f % 12)) (abZ (t / 12 - f / 12)) ix iy))]) rfl (e7) rfl ?_
                  refine z_chg 0 (x' := niy (abZ (t % 12 - f % 12)) (abZ (t / 12 - f / 12)) ix iy) (lv' := [(8, vI (niy (abZ (t % 12 - f % 12)) (abZ (t / 12 - f / 12)) ix iy)), (9, vI ((cl (f % 12) (f / 12) (sgZ (t % 12 - f % 12)) (sgZ (t / 12 - f / 12)) ix iy) + ay)), (11, vI ((1 + (2 * iy)) * (abZ (t % 12 - f % 12)))), (10, vI ((1 + (2 * ix)) * (abZ (t / 12 - f / 12)))), (0, .ref (h 0)), (1, vI f), (2, vI t), (3, vI (abZ (t % 12 - f % 12))), (4, vI (abZ (t / 12 - f / 12))), (5, vI ax), (6, vI ay), (7, vI (nix (abZ (t % 12 - f % 12)) (abZ (t / 12 - f / 12)) ix iy))]) rfl (e8) rfl ?_
                  refine z_chg 1 (x' := cl (f % 12) (f / 12) (sgZ (t % 12 - f % 12)) (sgZ (t / 12 - f / 12)) (nix (abZ (t % 12 - f % 12)) (abZ (t / 12 - f / 12)) ix iy) (niy (abZ (t % 12 - f % 12)) (abZ (t / 12 - f / 12)) ix iy)) (lv' := [(8, vI (niy (abZ (t % 12 - f % 12)) (abZ (t / 12 - f / 12)) ix iy)), (9, vI (cl (f % 12) (f / 12) (sgZ (t % 12 - f % 12)) (sgZ (t / 12 - f / 12)) (nix (abZ (t % 12 - f % 12)) (abZ (t / 12 - f / 12)) ix iy) (niy (abZ (t % 12 - f % 12)) (abZ (t / 12 - f / 12)) ix iy))), (11, vI ((1 + (2 * iy)) * (abZ (t % 12 - f % 12)))), (10, vI ((1 + (2 * ix)) * (abZ (t / 12 - f / 12)))), (0, .ref (h 0)), (1, vI f), (2, vI t), (3, vI (abZ (t % 12 - f % 12))), (4, vI (abZ (t / 12 - f / 12))), (5, vI ax), (6, vI ay), (7, vI (nix (abZ (t % 12 - f % 12)) (abZ (t / 12 - f / 12)) ix iy))]) rfl (e9) rfl ?_
                  refine z_sub (lv' := [(0, .ref (h 0)), (1, vI f), (2, vI t), (3, vI (abZ (t % 12 - f % 12))), (4, vI (abZ (t / 12 - f / 12))), (5, vI ax), (6, vI ay), (7, vI (nix (abZ (t % 12 - f % 12)) (abZ (t / 12 - f / 12)) ix iy)), (8, vI (niy (abZ (t % 12 - f % 12)) (abZ (t / 12 - f / 12)) ix iy)), (9, vI (cl (f % 12) (f / 12) (sgZ (t % 12 - f % 12)) (sgZ (t / 12 - f / 12)) (nix (abZ (t % 12 - f % 12)) (abZ (t / 12 - f / 12)) ix iy) (niy (abZ (t % 12 - f % 12)) (abZ (t / 12 - f / 12)) ix iy)))]) [4, 5, 6, 7, 8, 9, 10, 11, 0, 1] rfl ?_
                  exact ih9 (i + 1) _ (nix (abZ (t % 12 - f % 12)) (abZ (t / 12 - f / 12)) ix iy) (niy (abZ (t % 12 - f % 12)) (abZ (t / 12 - f / 12)) ix iy) (by omega) (by omega) (by omega) (by omega) (by exact hsv) (by exact hr2)
            ·
              refine z_iload C 11 dX2_go_160 rfl ?_
              refine z_iload C 7 dX2_go_162 rfl ?_
              refine z_iadd C dX2_go_164 ?_
              refine z_istore C [(9, vI ((cl (f % 12) (f / 12) (sgZ (t % 12 - f % 12)) (sgZ (t / 12 - f / 12)) ix iy) + ax)), (11, vI ((1 + (2 * iy)) * (abZ (t % 12 - f % 12)))), (10, vI ((1 + (2 * ix)) * (abZ (t / 12 - f / 12)))), (0, .ref (h 0)), (1, vI f), (2, vI t), (3, vI (abZ (t % 12 - f % 12))), (4, vI (abZ (t / 12 - f / 12))), (5, vI ax), (6, vI ay), (7, vI ix), (8, vI iy)] dX2_go_165 (by decide) rfl ?_
              refine z_iinc C 10 [(7, vI (ix + 1)), (9, vI ((cl (f % 12) (f / 12) (sgZ (t % 12 - f % 12)) (sgZ (t / 12 - f / 12)) ix iy) + ax)), (11, vI ((1 + (2 * iy)) * (abZ (t % 12 - f % 12)))), (10, vI ((1 + (2 * ix)) * (abZ (t / 12 - f / 12)))), (0, .ref (h 0)), (1, vI f), (2, vI t), (3, vI (abZ (t % 12 - f % 12))), (4, vI (abZ (t / 12 - f / 12))), (5, vI ax), (6, vI ay), (8, vI iy)] dX2_go_167 rfl (by decide) rfl ?_
              refine z_iload C 3 dX2_go_170 rfl ?_
              refine z_iload C 2 dX2_go_172 rfl ?_
              refine z_icmp_lt C (tgt := 187) dX2_go_174 (by decide) (by omega) (by omega) (fun c_174 => ?_) (fun c_174 => ?_)
              ·
                have e1 : nix (abZ (t % 12 - f % 12)) (abZ (t / 12 - f / 12)) ix iy = ix + 1 := if_pos (by omega)
                have e2 : niy (abZ (t % 12 - f % 12)) (abZ (t / 12 - f / 12)) ix iy = iy := if_neg (by omega)
                have e9 : (cl (f % 12) (f / 12) (sgZ (t % 12 - f % 12)) (sgZ (t / 12 - f / 12)) ix iy) + ax = cl (f % 12) (f / 12) (sgZ (t % 12 - f % 12)) (sgZ (t / 12 - f / 12)) (nix (abZ (t % 12 - f % 12)) (abZ (t / 12 - f / 12)) ix iy) (niy (abZ (t % 12 - f % 12)) (abZ (t / 12 - f / 12)) ix iy) := by rw [e1, e2]; unfold cl; rw [Int.mul_add (sgZ (t % 12 - f % 12)) ix 1]; omega
                have hA : ns1 (σ 0) (f % 12) (f / 12) (sgZ (t % 12 - f % 12)) (sgZ (t / 12 - f / 12)) (abZ (t % 12 - f % 12)) (abZ (t / 12 - f / 12)) ix iy (φ1 0) = φ1 0 := if_neg c_122
                have e7 : ix + 1 = nix (abZ (t % 12 - f % 12)) (abZ (t / 12 - f / 12)) ix iy := e1.symm
                have e8 : iy = niy (abZ (t % 12 - f % 12)) (abZ (t / 12 - f / 12)) ix iy := e2.symm
                have y3 : 0 ≤ ((cl (f % 12) (f / 12) (sgZ (t % 12 - f % 12)) (sgZ (t / 12 - f / 12)) ix iy) + ax) ∧ ((cl (f % 12) (f / 12) (sgZ (t % 12 - f % 12)) (sgZ (t / 12 - f / 12)) ix iy) + ax) < 144 := by rw [e9]; unfold cl; omega
                refine z_aload_n C 4 dX2_go_187 rfl ?_
                refine z_dup C dX2_go_188 rfl ?_
                refine z_get C (v := vI (φ1 1)) (ref := "ShadowWallsModel") (T := TX2) (N := 14) (ci := 2) 0 13 inU_X2_X2_go rfl rfl (by decide) (by decide +kernel) (fun _ h9 => h9) rfl dX2_go_189 ?_
                refine z_iconst C dX2_go_192 ?_
                refine z_iadd C dX2_go_193 ?_
                refine z_put C (ref := "ShadowWallsModel") (T := TX2) (N := 14) (ci := 2) (ty := .int) (ws' := (mx cI h σ LI BR γ (fU φ1 1 ((φ1 1) + 1)) θ)) 0 13 inU_X2_X2_go tyX2 tyX2_ok nmX2 rfl rfl (by decide) (by decide +kernel) (fun _ h9 => h9) rfl (by decide +kernel) (rfl) (rfl) (Nat.le_of_ble_eq_true rfl) rfl dX2_go_194 ?_
                refine z_iload C 1 dX2_go_197 rfl ?_
                refine z_iload_n C 6 dX2_go_199 rfl ?_
                refine z_icmp_eq C (tgt := 218) dX2_go_200 (by decide) (by omega) (by omega) (fun c_200 => ?_) (fun c_200 => ?_)
                ·
                  have hB := ht9.mp (e9.symm.trans c_200)
                  have hN : nsv (σ 0) (f % 12) (f / 12) (sgZ (t % 12 - f % 12)) (sgZ (t / 12 - f / 12)) (abZ (t % 12 - f % 12)) (abZ (t / 12 - f / 12)) ix iy (φ1 0) = (fU φ1 1 ((φ1 1) + 1)) 0 := by unfold nsv; rw [if_neg hB, hA]; first | done | rfl
                  have hsv := (nsv_r (K := σ 0) (fx := f % 12) (fy := f / 12) (sx := sgZ (t % 12 - f % 12)) (sy := sgZ (t / 12 - f / 12)) (nx := abZ (t % 12 - f % 12)) (ny := abZ (t / 12 - f / 12)) (ix := ix) (iy := iy) (s := φ1 0) hs).2
                  rw [hN] at hsv
                  have hr2 := hr1
                  rw [hN] at hr2
                  refine z_goto C (tgt := 84) dX2_go_218 (by decide) ?_
                  refine z_chg 0 (x' := nix (abZ (t % 12 - f % 12)) (abZ (t / 12 - f / 12)) ix iy) (lv' := [(7, vI (nix (abZ (t % 12 - f % 12)) (abZ (t / 12 - f / 12)) ix iy)), (9, vI ((cl (f % 12) (f / 12) (sgZ (t % 12 - f % 12)) (sgZ (t / 12 - f / 12)) ix iy) + ax)), (11, vI ((1 + (2 * iy)) * (abZ (t % 12 - f % 12)))), (10, vI ((1 + (2 * ix)) * (abZ (t / 12 - f / 12)))), (0, .ref (h 0)), (1, vI f), (2, vI t), (3, vI (abZ (t % 12 - f % 12))), (4, vI (abZ (t / 12 - f / 12))), (5, vI ax), (6, vI ay), (8, vI iy)]) rfl (e7) rfl ?_
                  refine z_chg 11 (x' := niy (abZ (t % 12 - f % 12)) (abZ (t / 12 - f / 12)) ix iy) (lv' := [(7, vI (nix (abZ (t % 12 - f % 12)) (abZ (t / 12 - f / 12)) ix iy)), (9, vI ((cl (f % 12) (f / 12) (sgZ (t % 12 - f % 12)) (sgZ (t / 12 - f / 12)) ix iy) + ax)), (11, vI ((1 + (2 * iy)) * (abZ (t % 12 - f % 12)))), (10, vI ((1 + (2 * ix)) * (abZ (t / 12 - f / 12)))), (0, .ref (h 0)), (1, vI f), (2, vI t), (3, vI (abZ (t % 12 - f % 12))), (4, vI (abZ (t / 12 - f / 12))), (5, vI ax), (6, vI ay), (8, vI (niy (abZ (t % 12 - f % 12)) (abZ (t / 12 - f / 12)) ix iy))]) rfl (e8) rfl ?_
                  refine z_chg 1 (x' := cl (f % 12) (f / 12) (sgZ (t % 12 - f % 12)) (sgZ (t / 12 - f / 12)) (nix (abZ (t % 12 - f % 12)) (abZ (t / 12 - f / 12)) ix iy) (niy (abZ (t % 12 - f % 12)) (abZ (t / 12 - f / 12)) ix iy)) (lv' := [(7, vI (nix (abZ (t % 12 - f % 12)) (abZ (t / 12 - f / 12)) ix iy)), (9, vI (cl (f % 12) (f / 12) (sgZ (t % 12 - f % 12)) (sgZ (t / 12 - f / 12)) (nix (abZ (t % 12 - f % 12)) (abZ (t / 12 - f / 12)) ix iy) (niy (abZ (t % 12 - f % 12)) (abZ (t / 12 - f / 12)) ix iy))), (11, vI ((1 + (2 * iy)) * (abZ (t % 12 - f % 12)))), (10, vI ((1 + (2 * ix)) * (abZ (t / 12 - f / 12)))), (0, .ref (h 0)), (1, vI f), (2, vI t), (3, vI (abZ (t % 12 - f % 12))), (4, vI (abZ (t / 12 - f / 12))), (5, vI ax), (6, vI ay), (8, vI (niy (abZ (t % 12 - f % 12)) (abZ (t / 12 - f / 12)) ix iy))]) rfl (e9) rfl ?_
                  refine z_sub (lv' := [(0, .ref (h 0)), (1, vI f), (2, vI t), (3, vI (abZ (t % 12 - f % 12))), (4, vI (abZ (t / 12 - f / 12))), (5, vI ax), (6, vI ay), (7, vI (nix (abZ (t % 12 - f % 12)) (abZ (t / 12 - f / 12)) ix iy)), (8, vI (niy (abZ (t % 12 - f % 12)) (abZ (t / 12 - f / 12)) ix iy)), (9, vI (cl (f % 12) (f / 12) (sgZ (t % 12 - f % 12)) (sgZ (t / 12 - f / 12)) (nix (abZ (t % 12 - f % 12)) (abZ (t / 12 - f / 12)) ix iy) (niy (abZ (t % 12 - f % 12)) (abZ (t / 12 - f / 12)) ix iy)))]) [4, 5, 6, 7, 8, 9, 10, 0, 11, 1] rfl ?_
                  exact ih9 (i + 1) _ (nix (abZ (t % 12 - f % 12)) (abZ (t / 12 - f / 12)) ix iy) (niy (abZ (t % 12 - f % 12)) (abZ (t / 12 - f / 12)) ix iy) (by omega) (by omega) (by omega) (by omega) (by exact hsv) (by exact hr2)
                ·
                  refine z_aload_n C 4 dX2_go_203 rfl ?_
                  refine z_dup C dX2_go_204 rfl ?_
                  refine z_get C (v := vI ((fU φ1 1 ((φ1 1) + 1)) 0)) (ref := "ShadowWallsModel") (T := TX2) (N := 14) (ci := 2) 0 12 inU_X2_X2_go rfl rfl (by decide) (by decide +kernel) (fun _ h9 => h9) rfl dX2_go_205 ?_
                  refine z_aload_n C 4 dX2_go_208 rfl ?_
                  refine z_iload C 1 dX2_go_209 rfl ?_
                  refine z_callVi C (As := [vI ((cl (f % 12) (f / 12) (sgZ (t % 12 - f % 12)) (sgZ (t / 12 - f / 12)) ix iy) + ax)]) (st := [vI ((fU φ1 1 ((φ1 1) + 1)) 0), .ref (h 0)]) (y := yX2_stopsAt) (w := wsX2_stopsAt) (rm := rm_X2_stopsAt) (wr := []) (k' := 0) (n' := 0) [0, 1, 2, 3, 4, 5, 6, 7, 8] [] 0 (c_X2_stopsAt l D cI cJ h σ LI BR γ (fU φ1 1 ((φ1 1) + 1)) θ ((cl (f % 12) (f / 12) (sgZ (t % 12 - f % 12)) (sgZ (t / 12 - f / 12)) ix iy) + ax) (by omega) hO) (cwV 1 C.1.2.2.2.2 gX2_go_X2_stopsAt rfl rfl rfl (by decide +kernel) ⟨Nat.le_of_ble_eq_true rfl, Nat.le_of_ble_eq_true rfl⟩) rfl rfl rfl rfl rfl (by decide) rfl rfl rfl rfl (Nat.le_of_ble_eq_true rfl) rfl rfl ⟨Nat.le_of_ble_eq_true rfl, Nat.le_of_ble_eq_true rfl⟩ dX2_go_211 ?_
                  rintro z_211 _ ⟨rfl, hz_211⟩
                  refine z_ws (ws' := (mx cI h σ LI BR γ ((fU φ1 1 ((φ1 1) + 1))) θ)) rfl ?_
                  have r_211 : 0 ≤ z_211 ∧ z_211 ≤ 3 := by rw [hz_211]; exact sbK_r _ _
                  have hz_211 : z_211 = sbK (σ 0) ((cl (f % 12) (f / 12) (sgZ (t % 12 - f % 12)) (sgZ (t / 12 - f / 12)) ix iy) + ax) := hz_211
                  have cu2 : (fU φ1 1 ((φ1 1) + 1)) 0 = φ1 0 := rfl
                  refine z_ior C (r := bor ((fU φ1 1 ((φ1 1) + 1)) 0) z_211) dX2_go_214 ((bits_e (by omega) (by omega)).1.2) ?_
                  refine z_put C (ref := "ShadowWallsModel") (T := TX2) (N := 14) (ci := 2) (ty := .int) (ws' := (mx cI h σ LI BR γ (fU (fU φ1 1 ((φ1 1) + 1)) 0 (bor ((fU φ1 1 ((φ1 1) + 1)) 0) z_211)) θ)) 0 12 inU_X2_X2_go tyX2 tyX2_ok nmX2 rfl rfl (by decide) (by decide +kernel) (fun _ h9 => h9) rfl (by decide +kernel) (rfl) (rfl) (Nat.le_of_ble_eq_true rfl) rfl dX2_go_215 ?_
                  have hB := Classical.not_not.mp (fun q => c_200 (e9.trans (ht9.mpr q)))
                  have hN : nsv (σ 0) (f % 12) (f / 12) (sgZ (t % 12 - f % 12)) (sgZ (t / 12 - f / 12)) (abZ (t % 12 - f % 12)) (abZ (t / 12 - f / 12)) ix iy (φ1 0) = bor ((fU φ1 1 ((φ1 1) + 1)) 0) z_211 := by unfold nsv; rw [if_pos hB, hA, hz_211, e9]; first | done | rfl
                  have hsv := (nsv_r (K := σ 0) (fx := f % 12) (fy := f / 12) (sx := sgZ (t % 12 - f % 12)) (sy := sgZ (t / 12 - f / 12)) (nx := abZ (t % 12 - f % 12)) (ny := abZ (t / 12 - f / 12)) (ix := ix) (iy := iy) (s := φ1 0) hs).2
                  rw [hN] at hsv
                  have hr2 := hr1
                  rw [hN] at hr2
                  refine z_goto C (tgt := 84) dX2_go_218 (by decide) ?_
                  refine z_chg 0 (x' := nix (abZ (t % 12 - f % 12)) (abZ (t / 12 - f / 12)) ix iy) (lv' := [(7, vI (nix (abZ (t % 12 - f % 12)) (abZ (t / 12 - f / 12)) ix iy)), (9, vI ((cl (f % 12) (f / 12) (sgZ (t % 12 - f % 12)) (sgZ (t / 12 - f / 12)) ix iy) + ax)), (11, vI ((1 + (2 * iy)) * (abZ (t % 12 - f % 12)))), (10, vI ((1 + (2 * ix)) * (abZ (t / 12 - f / 12)))), (0, .ref (h 0)), (1, vI f), (2, vI t), (3, vI (abZ (t % 12 - f % 12))), (4, vI (abZ (t / 12 - f / 12))), (5, vI ax), (6, vI ay), (8, vI iy)]) rfl (e7) rfl ?_
                  refine z_chg 11 (x' := niy (abZ (t % 12 - f % 12)) (abZ (t / 12 - f / 12)) ix iy) (lv' := [(7, vI (nix (abZ (t % 12 - f % 12)) (abZ (t / 12 - f / 12)) ix iy)), (9, vI ((cl (f % 12) (f / 12) (sgZ (t % 12 - f % 12)) (sgZ (t / 12 - f / 12)) ix iy) + ax)), (11, vI ((1 + (2 * iy)) * (abZ (t % 12 - f % 12)))), (10, vI ((1 + (2 * ix)) * (abZ (t / 12 - f / 12)))), (0, .ref (h 0)), (1, vI f), (2, vI t), (3, vI (abZ (t % 12 - f % 12))), (4, vI (abZ (t / 12 - f / 12))), (5, vI ax), (6, vI ay), (8, vI (niy (abZ (t % 12 - f % 12)) (abZ (t / 12 - f / 12)) ix iy))]) rfl (e8) rfl ?_
                  refine z_chg 1 (x' := cl (f % 12) (f / 12) (sgZ (t % 12 - f % 12)) (sgZ (t / 12 - f / 12)) (nix (abZ (t % 12 - f % 12)) (abZ (t / 12 - f / 12)) ix iy) (niy (abZ (t % 12 - f % 12)) (abZ (t / 12 - f / 12)) ix iy)) (lv' := [(7, vI (nix (abZ (t % 12 - f % 12)) (abZ (t / 12 - f / 12)) ix iy)), (9, vI (cl (f % 12) (f / 12) (sgZ (t % 12 - f % 12)) (sgZ (t / 12 - f / 12)) (nix (abZ (t % 12 - f % 12)) (abZ (t / 12 - f / 12)) ix iy) (niy (abZ (t % 12 - f % 12)) (abZ (t / 12 - f / 12)) ix iy))), (11, vI ((1 + (2 * iy)) * (abZ (t % 12 - f % 12)))), (10, vI ((1 + (2 * ix)) * (abZ (t / 12 - f / 12)))), (0, .ref (h 0)), (1, vI f), (2, vI t), (3, vI (abZ (t % 12 - f % 12))), (4, vI (abZ (t / 12 - f / 12))), (5, vI ax), (6, vI ay), (8, vI (niy (abZ (t % 12 - f % 12)) (abZ (t / 12 - f / 12)) ix iy))]) rfl (e9) rfl ?_
                  refine z_sub (lv' := [(0, .ref (h 0)), (1, vI f), (2, vI t), (3, vI (abZ (t % 12 - f % 12))), (4, vI (abZ (t / 12 - f / 12))), (5, vI ax), (6, vI ay), (7, vI (nix (abZ (t % 12 - f % 12)) (abZ (t / 12 - f / 12)) ix iy)), (8, vI (niy (abZ (t % 12 - f % 12)) (abZ (t / 12 - f / 12)) ix iy)), (9, vI (cl (f % 12) (f / 12) (sgZ (t % 12 - f % 12)) (sgZ (t / 12 - f / 12)) (nix (abZ (t % 12 - f % 12)) (abZ (t / 12 - f / 12)) ix iy) (niy (abZ (t % 12 - f % 12)) (abZ (t / 12 - f / 12)) ix iy)))]) [4, 5, 6, 7, 8, 9, 10, 0, 11, 1] rfl ?_
                  exact ih9 (i + 1) _ (nix (abZ (t % 12 - f % 12)) (abZ (t / 12 - f / 12)) ix iy) (niy (abZ (t % 12 - f % 12)) (abZ (t / 12 - f / 12)) ix iy) (by omega) (by omega) (by omega) (by omega) (by exact hsv) (by exact hr2)
              ·
                exfalso; omega
          ·
            have e1 : nix (abZ (t % 12 - f % 12)) (abZ (t / 12 - f / 12)) ix iy = ix + 1 := if_pos (by omega)
            have e2 : niy (abZ (t % 12 - f % 12)) (abZ (t / 12 - f / 12)) ix iy = iy + 1 := if_pos (by omega)
            have x1 : cl (f % 12) (f / 12) (sgZ (t % 12 - f % 12)) (sgZ (t / 12 - f / 12)) ix iy + ax = cl (f % 12) (f / 12) (sgZ (t % 12 - f % 12)) (sgZ (t / 12 - f / 12)) (ix + 1) iy := by
              unfold cl; rw [Int.mul_add (sgZ (t % 12 - f % 12)) ix 1]; omega
            have x2 : cl (f % 12) (f / 12) (sgZ (t % 12 - f % 12)) (sgZ (t / 12 - f / 12)) ix iy + ay = cl (f % 12) (f / 12) (sgZ (t % 12 - f % 12)) (sgZ (t / 12 - f / 12)) ix (iy + 1) := by
              unfold cl; rw [Int.mul_add (sgZ (t / 12 - f / 12)) iy 1]; omega
            have g5 := g3
            rw [e1] at g5
            have g6 := g4
            rw [e2] at g6
            have y1 : 0 ≤ cl (f % 12) (f / 12) (sgZ (t % 12 - f % 12)) (sgZ (t / 12 - f / 12)) ix iy + ax ∧ cl (f % 12) (f / 12) (sgZ (t % 12 - f % 12)) (sgZ (t / 12 - f / 12)) ix iy + ax < 144 := by rw [x1]; unfold cl; omega
            have y2 : 0 ≤ cl (f % 12) (f / 12) (sgZ (t % 12 - f % 12)) (sgZ (t / 12 - f / 12)) ix iy + ay ∧ cl (f % 12) (f / 12) (sgZ (t % 12 - f % 12)) (sgZ (t / 12 - f / 12)) ix iy + ay < 144 := by rw [x2]; unfold cl; omega
            refine z_aload_n C 2 dX2_go_125 rfl ?_
            refine z_dup C dX2_go_126 rfl ?_
            refine z_get C (v := vI (φ1 0)) (ref := "ShadowWallsModel") (T := TX2) (N := 14) (ci := 2) 0 12 inU_X2_X2_go rfl rfl (by decide) (by decide +kernel) (fun _ h9 => h9) rfl dX2_go_127 ?_
            refine z_aload_n C 2 dX2_go_130 rfl ?_
            refine z_iload C 11 dX2_go_131 rfl ?_
            refine z_iload C 7 dX2_go_133 rfl ?_
            refine z_iadd C dX2_go_135 ?_
            refine z_callVi C (As := [vI ((cl (f % 12) (f / 12) (sgZ (t % 12 - f % 12)) (sgZ (t / 12 - f / 12)) ix iy) + ax)]) (st := [vI (φ1 0), .ref (h 0)]) (y := yX2_stopsAt) (w := wsX2_stopsAt) (rm := rm_X2_stopsAt) (wr := []) (k' := 0) (n' := 0) [0, 1, 2, 3, 4, 5, 6, 7, 8] [] 0 (c_X2_stopsAt l D cI cJ h σ LI BR γ φ1 θ ((cl (f % 12) (f / 12) (sgZ (t % 12 - f % 12)) (sgZ (t / 12 - f / 12)) ix iy) + ax) (by omega) hO) (cwV 1 C.1.2.2.2.2 gX2_go_X2_stopsAt rfl rfl rfl (by decide +kernel) ⟨Nat.le_of_ble_eq_true rfl, Nat.le_of_ble_eq_true rfl⟩) rfl rfl rfl rfl rfl (by decide) rfl rfl rfl rfl (Nat.le_of_ble_eq_true rfl) rfl rfl ⟨Nat.le_of_ble_eq_true rfl, Nat.le_of_ble_eq_true rfl⟩ dX2_go_136 ?_
            rintro z_136 _ ⟨rfl, hz_136⟩
            refine z_ws (ws' := (mx cI h σ LI BR γ φ1 θ)) rfl ?_
            have r_136 : 0 ≤ z_136 ∧ z_136 ≤ 3 := by rw [hz_136]; exact sbK_r _ _
            have hz_136 : z_136 = sbK (σ 0) ((cl (f % 12) (f / 12) (sgZ (t % 12 - f % 12)) (sgZ (t / 12 - f / 12)) ix iy) + ax) := hz_136
            refine z_aload_n C 2 dX2_go_139 rfl ?_
            refine z_iload C 11 dX2_go_140 rfl ?_
            refine z_iload C 8 dX2_go_142 rfl ?_
            refine z_iadd C dX2_go_144 ?_
            refine z_callVi C (As := [vI ((cl (f % 12) (f / 12) (sgZ (t % 12 - f % 12)) (sgZ (t / 12 - f / 12)) ix iy) + ay)]) (st := [vI z_136, vI (φ1 0), .ref (h 0)]) (y := yX2_stopsAt) (w := wsX2_stopsAt) (rm := rm_X2_stopsAt) (wr := []) (k' := 0) (n' := 0) [0, 1, 2, 3, 4, 5, 6, 7, 8] [] 0 (c_X2_stopsAt l D cI cJ h σ LI BR γ φ1 θ ((cl (f % 12) (f / 12) (sgZ (t % 12 - f % 12)) (sgZ (t / 12 - f / 12)) ix iy) + ay) (by omega) hO) (cwV 1 C.1.2.2.2.2 gX2_go_X2_stopsAt rfl rfl rfl (by decide +kernel) ⟨Nat.le_of_ble_eq_true rfl, Nat.le_of_ble_eq_true rfl⟩) rfl rfl rfl rfl rfl (by decide) rfl rfl rfl rfl (Nat.le_of_ble_eq_true rfl) rfl rfl ⟨Nat.le_of_ble_eq_true rfl, Nat.le_of_ble_eq_true rfl⟩ dX2_go_145 ?_
            rintro z_145 _ ⟨rfl, hz_145⟩
            refine z_ws (ws' := (mx cI h σ LI BR γ φ1 θ)) rfl ?_
            have r_145 : 0 ≤ z_145 ∧ z_145 ≤ 3 := by rw [hz_145]; exact sbK_r _ _
            have hz_145 : z_145 = sbK (σ 0) ((cl (f % 12) (f / 12) (sgZ (t % 12 - f % 12)) (sgZ (t / 12 - f / 12)) ix iy) + ay) := hz_145
            have b_148 := bits_e (a := z_136) (b := z_145) (by omega) (by omega)
            refine z_iand C (r := band z_136 z_145) dX2_go_148 (b_148.1.1) ?_
            have b_149 := bits_e (a := φ1 0) (b := band z_136 z_145) (by omega) (by omega)
            refine z_ior C (r := bor (φ1 0) (band z_136 z_145)) dX2_go_149 (b_149.1.2) ?_
            refine z_put C (ref := "ShadowWallsModel") (T := TX2) (N := 14) (ci := 2) (ty := .int) (ws' := (mx cI h σ LI BR γ (fU φ1 0 (bor (φ1 0) (band z_136 z_145))) θ)) 0 12 inU_X2_X2_go tyX2 tyX2_ok nmX2 rfl rfl (by decide) (by decide +kernel) (fun _ h9 => h9) rfl (by decide +kernel) (rfl) (rfl) (Nat.le_of_ble_eq_true rfl) rfl dX2_go_150 ?_
            refine z_iload C 1 dX2_go_153 rfl ?_
            refine z_iload C 0 dX2_go_155 rfl ?_
            refine z_icmp_gt C (tgt := 170) dX2_go_157 (by decide) (by omega) (by omega) (fun c_157 => ?_) (fun c_157 => ?_)
            ·
              exfalso; omega
            ·
              refine z_iload C 11 dX2_go_160 rfl ?_
              refine z_iload C 7 dX2_go_162 rfl ?_
              refine z_iadd C dX2_go_164 ?_
              refine z_istore C [(9, vI ((cl (f % 12) (f / 12) (sgZ (t % 12 - f % 12)) (sgZ (t / 12 - f / 12)) ix iy) + ax)), (11, vI ((1 + (2 * iy)) * (abZ (t % 12 - f % 12)))), (10, vI ((1 + (2 * ix)) * (abZ (t / 12 - f / 12)))), (0, .ref (h 0)), (1, vI f), (2, vI t), (3, vI (abZ (t % 12 - f % 12))), (4, vI (abZ (t / 12 - f / 12))), (5, vI ax), (6, vI ay), (7, vI ix), (8, vI iy)] dX2_go_165 (by decide) rfl ?_
              refine z_iinc C 10 [(7, vI (ix + 1)), (9, vI ((cl (f % 12) (f / 12) (sgZ (t % 12 - f % 12)) (sgZ (t / 12 - f / 12)) ix iy) + ax)), (11, vI ((1 + (2 * iy)) * (abZ (t % 12 - f % 12)))), (10, vI ((1 + (2 * ix)) * (abZ (t / 12 - f / 12)))), (0, .ref (h 0)), (1, vI f), (2, vI t), (3, vI (abZ (t % 12 - f % 12))), (4, vI (abZ (t / 12 - f / 12))), (5, vI ax), (6, vI ay), (8, vI iy)] dX2_go_167 rfl (by decide) rfl ?_
              refine z_iload C 3 dX2_go_170 rfl ?_
              refine z_iload C 2 dX2_go_172 rfl ?_
              refine z_icmp_lt C (tgt := 187) dX2_go_174 (by decide) (by omega) (by omega) (fun c_174 => ?_) (fun c_174 => ?_)
              ·
                exfalso; omega
              ·
                refine z_iload C 1 dX2_go_177 rfl ?_
                refine z_iload C 10 dX2_go_179 rfl ?_
                refine z_iadd C dX2_go_181 ?_
                refine z_istore C [(9, vI (((cl (f % 12) (f / 12) (sgZ (t % 12 - f % 12)) (sgZ (t / 12 - f / 12)) ix iy) + ax) + ay)), (7, vI (ix + 1)), (11, vI ((1 + (2 * iy)) * (abZ (t % 12 - f % 12)))), (10, vI ((1 + (2 * ix)) * (abZ (t / 12 - f / 12)))), (0, .ref (h 0)), (1, vI f), (2, vI t), (3, vI (abZ (t % 12 - f % 12))), (4, vI (abZ (t / 12 - f / 12))), (5, vI ax), (6, vI ay), (8, vI iy)] dX2_go_182 (by decide) rfl ?_
                refine z_iinc C 11 [(8, vI (iy + 1)), (9, vI (((cl (f % 12) (f / 12) (sgZ (t % 12 - f % 12)) (sgZ (t / 12 - f / 12)) ix iy) + ax) + ay)), (7, vI (ix + 1)), (11, vI ((1 + (2 * iy)) * (abZ (t % 12 - f % 12)))), (10, vI ((1 + (2 * ix)) * (abZ (t / 12 - f / 12)))), (0, .ref (h 0)), (1, vI f), (2, vI t), (3, vI (abZ (t % 12 - f % 12))), (4, vI (abZ (t / 12 - f / 12))), (5, vI ax), (6, vI ay)] dX2_go_184 rfl (by decide) rfl ?_
                have e9 : ((cl (f % 12) (f / 12) (sgZ (t % 12 - f % 12)) (sgZ (t / 12 - f / 12)) ix iy) + ax) + ay = cl (f % 12) (f / 12) (sgZ (t % 12 - f % 12)) (sgZ (t / 12 - f / 12)) (nix (abZ (t % 12 - f % 12)) (abZ (t / 12 - f / 12)) ix iy) (niy (abZ (t % 12 - f % 12)) (abZ (t / 12 - f / 12)) ix iy) := by rw [e1, e2]; unfold cl; rw [Int.mul_add (sgZ (t % 12 - f % 12)) ix 1, Int.mul_add (sgZ (t / 12 - f / 12)) iy 1]; omega
                have hA : ns1 (σ 0) (f % 12) (f / 12) (sgZ (t % 12 - f % 12)) (sgZ (t / 12 - f / 12)) (abZ (t % 12 - f % 12)) (abZ (t / 12 - f / 12)) ix iy (φ1 0) = bor (φ1 0) (band z_136 z_145) := by unfold ns1; rw [if_pos c_122, hz_136, hz_145, x1, x2]
                have hs1 : 0 ≤ bor (φ1 0) (band z_136 z_145) ∧ bor (φ1 0) (band z_136 z_145) < 4 := ⟨b_149.2.2.1.1, b_149.2.2.2 (by omega) (by omega)⟩
                have e7 : ix + 1 = nix (abZ (t % 12 - f % 12)) (abZ (t / 12 - f / 12)) ix iy := e1.symm
                have e8 : iy + 1 = niy (abZ (t % 12 - f % 12)) (abZ (t / 12 - f / 12)) ix iy := e2.symm
                have y3 : 0 ≤ (((cl (f % 12) (f / 12) (sgZ (t % 12 - f % 12)) (sgZ (t / 12 - f / 12)) ix iy) + ax) + ay) ∧ (((cl (f % 12) (f / 12) (sgZ (t % 12 - f % 12)) (sgZ (t / 12 - f / 12)) ix iy) + ax) + ay) < 144 := by rw [e9]; unfold cl; omega
                refine z_aload_n C 5 dX2_go_187 rfl ?_
                refine z_dup C dX2_go_188 rfl ?_
                refine z_get C (v := vI ((fU φ1 0 (bor (φ1 0) (band z_136 z_145))) 1)) (ref := "ShadowWallsModel") (T := TX2) (N := 14) (ci := 2) 0 13 inU_X2_X2_go rfl rfl (by decide) (by decide +kernel) (fun _ h9 => h9) rfl dX2_go_189 ?_
                refine z_iconst C dX2_go_192 ?_
                refine z_iadd C dX2_go_193 ?_
                refine z_put C (ref := "ShadowWallsModel") (T := TX2) (N := 14) (ci := 2) (ty := .int) (ws' := (mx cI h σ LI BR γ (fU (fU φ1 0 (bor (φ1 0) (band z_136 z_145))) 1 (((fU φ1 0 (bor (φ1 0) (band z_136 z_145))) 1) + 1)) θ)) 0 13 inU_X2_X2_go tyX2 tyX2_ok nmX2 rfl rfl (by decide) (by decide +kernel) (fun _ h9 => h9) rfl (by decide +kernel) (rfl) (rfl) (Nat.le_of_ble_eq_true rfl) rfl dX2_go_194 ?_
                refine z_iload C 1 dX2_go_197 rfl ?_
                refine z_iload_n C 7 dX2_go_199 rfl ?_
                refine z_icmp_eq C (tgt := 218) dX2_go_200 (by decide) (by omega) (by omega) (fun c_200 => ?_) (fun c_200 => ?_)
                ·
                  have hB := ht9.mp (e9.symm.trans c_200)
                  have hN : nsv (σ 0) (f % 12) (f / 12) (sgZ (t % 12 - f % 12)) (sgZ (t / 12 - f / 12)) (abZ (t % 12 - f % 12)) (abZ (t / 12 - f / 12)) ix iy (φ1 0) = bor (φ1 0) (band z_136 z_145) := by unfold nsv; rw [if_neg hB, hA]; first | done | rfl
                  have hsv := (nsv_r (K := σ 0) (fx := f % 12) (fy := f / 12) (sx := sgZ (t % 12 - f % 12)) (sy := sgZ (t / 12 - f / 12)) (nx := abZ (t % 12 - f % 12)) (ny := abZ (t / 12 - f / 12)) (ix := ix) (iy := iy) (s := φ1 0) hs).2
                  rw [hN] at hsv
                  have hr2 := hr1
                  rw [hN] at hr2
                  refine z_goto C (tgt := 84) dX2_go_218 (by decide) ?_
                  refine z_chg 2 (x' := nix (abZ (t % 12 - f % 12)) (abZ (t / 12 - f / 12)) ix iy) (lv' := [(8, vI (iy + 1)), (9, vI (((cl (f % 12) (f / 12) (sgZ (t % 12 - f % 12)) (sgZ (t / 12 - f / 12)) ix iy) + ax) + ay)), (7, vI (nix (abZ (t % 12 - f % 12)) (abZ (t / 12 - f / 12)) ix iy)), (11, vI ((1 + (2 * iy)) * (abZ (t % 12 - f % 12)))), (10, vI ((1 + (2 * ix)) * (abZ (t / 12 - f / 12)))), (0, .ref (h 0)), (1, vI f), (2, vI t), (3, vI (abZ (t % 12 - f % 12))), (4, vI (abZ (t / 12 - f / 12))), (5, vI ax), (6, vI ay)]) rfl (e7) rfl ?_
                  refine z_chg 0 (x' := niy (abZ (t % 12 - f % 12)) (abZ (t / 12 - f / 12)) ix iy) (lv' := [(8, vI (niy (abZ (t % 12 - f % 12)) (abZ (t / 12 - f / 12)) ix iy)), (9, vI (((cl (f % 12) (f / 12) (sgZ (t % 12 - f % 12)) (sgZ (t / 12 - f / 12)) ix iy) + ax) + ay)), (7, vI (nix (abZ (t % 12 - f % 12)) (abZ (t / 12 - f / 12)) ix iy)), (11, vI ((1 + (2 * iy)) * (abZ (t % 12 - f % 12)))), (10, vI ((1 + (2 * ix)) * (abZ (t / 12 - f / 12)))), (0, .ref (h 0)), (1, vI f), (2, vI t), (3, vI (abZ (t % 12 - f % 12))), (4, vI (abZ (t / 12 - f / 12))), (5, vI ax), (6, vI ay)]) rfl (e8) rfl ?_
                  refine z_chg 1 (x' := cl (f % 12) (f / 12) (sgZ (t % 12 - f % 12)) (sgZ (t / 12 - f / 12)) (nix (abZ (t % 12 - f % 12)) (abZ (t / 12 - f / 12)) ix iy) (niy (abZ (t % 12 - f % 12)) (abZ (t / 12 - f / 12)) ix iy)) (lv' := [(8, vI (niy (abZ (t % 12 - f % 12)) (abZ (t / 12 - f / 12)) ix iy)), (9, vI (cl (f % 12) (f / 12) (sgZ (t % 12 - f % 12)) (sgZ (t / 12 - f / 12)) (nix (abZ (t % 12 - f % 12)) (abZ (t / 12 - f / 12)) ix iy) (niy (abZ (t % 12 - f % 12)) (abZ (t / 12 - f / 12)) ix iy))), (7, vI (nix (abZ (t % 12 - f % 12)) (abZ (t / 12 - f / 12)) ix iy)), (11, vI ((1 + (2 * iy)) * (abZ (t % 12 - f % 12)))), (10, vI ((1 + (2 * ix)) * (abZ (t / 12 - f / 12)))), (0, .ref (h 0)), (1, vI f), (2, vI t), (3, vI (abZ (t % 12 - f % 12))), (4, vI (abZ (t / 12 - f / 12))), (5, vI ax), (6, vI ay)]) rfl (e9) rfl ?_
                  refine z_sub (lv' := [(0, .ref (h 0)), (1, vI f), (2, vI t), (3, vI (abZ (t % 12 - f % 12))), (4, vI (abZ (t / 12 - f / 12))), (5, vI ax), (6, vI ay), (7, vI (nix (abZ (t % 12 - f % 12)) (abZ (t / 12 - f / 12)) ix iy)), (8, vI (niy (abZ (t % 12 - f % 12)) (abZ (t / 12 - f / 12)) ix iy)), (9, vI (cl (f % 12) (f / 12) (sgZ (t % 12 - f % 12)) (sgZ (t / 12 - f / 12)) (nix (abZ (t % 12 - f % 12)) (abZ (t / 12 - f / 12)) ix iy) (niy (abZ (t % 12 - f % 12)) (abZ (t / 12 - f / 12)) ix iy)))]) [5, 6, 7, 8, 9, 10, 11, 2, 0, 1] rfl ?_
                  exact ih9 (i + 1) _ (nix (abZ (t % 12 - f % 12)) (abZ (t / 12 - f / 12)) ix iy) (niy (abZ (t % 12 - f % 12)) (abZ (t / 12 - f / 12)) ix iy) (by omega) (by omega) (by omega) (by omega) (by exact hsv) (by exact hr2)
                ·
                  refine z_aload_n C 5 dX2_go_203 rfl ?_
                  refine z_dup C dX2_go_204 rfl ?_
                  refine z_get C (v := vI (bor (φ1 0) (band z_136 z_145))) (ref := "ShadowWallsModel") (T := TX2) (N := 14) (ci := 2) 0 12 inU_X2_X2_go rfl rfl (by decide) (by decide +kernel) (fun _ h9 => h9) rfl dX2_go_205 ?_
                  refine z_aload_n C 5 dX2_go_208 rfl ?_
                  refine z_iload C 1 dX2_go_209 rfl ?_
                  refine z_callVi C (As := [vI (((cl (f % 12) (f / 12) (sgZ (t % 12 - f % 12)) (sgZ (t / 12 - f / 12)) ix iy) + ax) + ay)]) (st := [vI (bor (φ1 0) (band z_136 z_145)), .ref (h 0)]) (y := yX2_stopsAt) (w := wsX2_stopsAt) (rm := rm_X2_stopsAt) (wr := []) (k' := 0) (n' := 0) [0, 1, 2, 3, 4, 5, 6, 7, 8] [] 0 (c_X2_stopsAt l D cI cJ h σ LI BR γ (fU (fU φ1 0 (bor (φ1 0) (band z_136 z_145))) 1 (((fU φ1 0 (bor (φ1 0) (band z_136 z_145))) 1) + 1)) θ (((cl (f % 12) (f / 12) (sgZ (t % 12 - f % 12)) (sgZ (t / 12 - f / 12)) ix iy) + ax) + ay) (by omega) hO) (cwV 1 C.1.2.2.2.2 gX2_go_X2_stopsAt rfl rfl rfl (by decide +kernel) ⟨Nat.le_of_ble_eq_true rfl, Nat.le_of_ble_eq_true rfl⟩) rfl rfl rfl rfl rfl (by decide) rfl rfl rfl rfl (Nat.le_of_ble_eq_true rfl) rfl rfl ⟨Nat.le_of_ble_eq_true rfl, Nat.le_of_ble_eq_true rfl⟩ dX2_go_211 ?_
                  rintro z_211 _ ⟨rfl, hz_211⟩
                  refine z_ws (ws' := (mx cI h σ LI BR γ ((fU (fU φ1 0 (bor (φ1 0) (band z_136 z_145))) 1 (((fU φ1 0 (bor (φ1 0) (band z_136 z_145))) 1) + 1))) θ)) rfl ?_
                  have r_211 : 0 ≤ z_211 ∧ z_211 ≤ 3 := by rw [hz_211]; exact sbK_r _ _
                  have hz_211 : z_211 = sbK (σ 0) (((cl (f % 12) (f / 12) (sgZ (t % 12 - f % 12)) (sgZ (t / 12 - f / 12)) ix iy) + ax) + ay) := hz_211
                  refine z_ior C (r := bor (bor (φ1 0) (band z_136 z_145)) z_211) dX2_go_214 ((bits_e (by omega) (by omega)).1.2) ?_
                  refine z_put C (ref := "ShadowWallsModel") (T := TX2) (N := 14) (ci := 2) (ty := .int) (ws' := (mx cI h σ LI BR γ (fU (fU (fU φ1 0 (bor (φ1 0) (band z_136 z_145))) 1 (((fU φ1 0 (bor (φ1 0) (band z_136 z_145))) 1) + 1)) 0 (bor (bor (φ1 0) (band z_136 z_145)) z_211)) θ)) 0 12 inU_X2_X2_go tyX2 tyX2_ok nmX2 rfl rfl (by decide) (by decide +kernel) (fun _ h9 => h9) rfl (by decide +kernel) (rfl) (rfl) (Nat.le_of_ble_eq_true rfl) rfl dX2_go_215 ?_
                  have hB := Classical.not_not.mp (fun q => c_200 (e9.trans (ht9.mpr q)))
                  have hN : nsv (σ 0) (f % 12) (f / 12) (sgZ (t % 12 - f % 12)) (sgZ (t / 12 - f / 12)) (abZ (t % 12 - f % 12)) (abZ (t / 12 - f / 12)) ix iy (φ1 0) = bor (bor (φ1 0) (band z_136 z_145)) z_211 := by unfold nsv; rw [if_pos hB, hA, hz_211, e9]; first | done | rfl
                  have hsv := (nsv_r (K := σ 0) (fx := f % 12) (fy := f / 12) (sx := sgZ (t % 12 - f % 12)) (sy := sgZ (t / 12 - f / 12)) (nx := abZ (t % 12 - f % 12)) (ny := abZ (t / 12 - f / 12)) (ix := ix) (iy := iy) (s := φ1 0) hs).2
                  rw [hN] at hsv
                  have hr2 := hr1
                  rw [hN] at hr2
                  refine z_goto C (tgt := 84) dX2_go_218 (by decide) ?_
                  refine z_chg 2 (x' := nix (abZ (t % 12 - f % 12)) (abZ (t / 12 - f / 12)) ix iy) (lv' := [(8, vI (iy + 1)), (9, vI (((cl (f % 12) (f / 12) (sgZ (t % 12 - f % 12)) (sgZ (t / 12 - f / 12)) ix iy) + ax) + ay)), (7, vI (nix (abZ (t % 12 - f % 12)) (abZ (t / 12 - f / 12)) ix iy)), (11, vI ((1 + (2 * iy)) * (abZ (t % 12 - f % 12)))), (10, vI ((1 + (2 * ix)) * (abZ (t / 12 - f / 12)))), (0, .ref (h 0)), (1, vI f), (2, vI t), (3, vI (abZ (t % 12 - f % 12))), (4, vI (abZ (t / 12 - f / 12))), (5, vI ax), (6, vI ay)]) rfl (e7) rfl ?_
                  refine z_chg 0 (x' := niy (abZ (t % 12 - f % 12)) (abZ (t / 12 - f / 12)) ix iy) (lv' := [(8, vI (niy (abZ (t % 12 - f % 12)) (abZ (t / 12 - f / 12)) ix iy)), (9, vI (((cl (f % 12) (f / 12) (sgZ (t % 12 - f % 12)) (sgZ (t / 12 - f / 12)) ix iy) + ax) + ay)), (7, vI (nix (abZ (t % 12 - f % 12)) (abZ (t / 12 - f / 12)) ix iy)), (11, vI ((1 + (2 * iy)) * (abZ (t % 12 - f % 12)))), (10, vI ((1 + (2 * ix)) * (abZ (t / 12 - f / 12)))), (0, .ref (h 0)), (1, vI f), (2, vI t), (3, vI (abZ (t % 12 - f % 12))), (4, vI (abZ (t / 12 - f / 12))), (5, vI ax), (6, vI ay)]) rfl (e8) rfl ?_
                  refine z_chg 1 (x' := cl (f % 12) (f / 12) (sgZ (t % 12 - f % 12)) (sgZ (t / 12 - f / 12)) (nix (abZ (t % 12 - f % 12)) (abZ (t / 12 - f / 12)) ix iy) (niy (abZ (t % 12 - f % 12)) (abZ (t / 12 - f / 12)) ix iy)) (lv' := [(8, vI (niy (abZ (t % 12 - f % 12)) (abZ (t / 12 - f / 12)) ix iy)), (9, vI (cl (f % 12) (f / 12) (sgZ (t % 12 - f % 12)) (sgZ (t / 12 - f / 12)) (nix (abZ (t % 12 - f % 12)) (abZ (t / 12 - f / 12)) ix iy) (niy (abZ (t % 12 - f % 12)) (abZ (t / 12 - f / 12)) ix iy))), (7, vI (nix (abZ (t % 12 - f % 12)) (abZ (t / 12 - f / 12)) ix iy)), (11, vI ((1 + (2 * iy)) * (abZ (t % 12 - f % 12)))), (10, vI ((1 + (2 * ix)) * (abZ (t / 12 - f / 12)))), (0, .ref (h 0)), (1, vI f), (2, vI t), (3, vI (abZ (t % 12 - f % 12))), (4, vI (abZ (t / 12 - f / 12))), (5, vI ax), (6, vI ay)]) rfl (e9) rfl ?_
                  refine z_sub (lv' := [(0, .ref (h 0)), (1, vI f), (2, vI t), (3, vI (abZ (t % 12 - f % 12))), (4, vI (abZ (t / 12 - f / 12))), (5, vI ax), (6, vI ay), (7, vI (nix (abZ (t % 12 - f % 12)) (abZ (t / 12 - f / 12)) ix iy)), (8, vI (niy (abZ (t % 12 - f % 12)) (abZ (t / 12 - f / 12)) ix iy)), (9, vI (cl (f % 12) (f / 12) (sgZ (t % 12 - f % 12)) (sgZ (t / 12 - f / 12)) (nix (abZ (t % 12 - f % 12)) (abZ (t / 12 - f / 12)) ix iy) (niy (abZ (t % 12 - f % 12)) (abZ (t / 12 - f / 12)) ix iy)))]) [5, 6, 7, 8, 9, 10, 11, 2, 0, 1] rfl ?_
                  exact ih9 (i + 1) _ (nix (abZ (t % 12 - f % 12)) (abZ (t / 12 - f / 12)) ix iy) (niy (abZ (t % 12 - f % 12)) (abZ (t / 12 - f / 12)) ix iy) (by omega) (by omega) (by omega) (by omega) (by exact hsv) (by exact hr2)
        refine z_iload C 7 dX2_go_84 rfl ?_
        refine z_iload_n C 3 dX2_go_86 rfl ?_
        refine z_icmp_lt C (tgt := 97) dX2_go_87 (by decide) (by omega) (by omega) (fun c_87 => ?_) (fun c_87 => ?_)
        ·
          exact L_97 (by first | exact Or.inl c_87 | exact Or.inr (by omega))
        ·
          refine z_iload C 8 dX2_go_90 rfl ?_
          refine z_iload C 4 dX2_go_92 rfl ?_
          refine z_icmp_ge C (tgt := 221) dX2_go_94 (by decide) (by omega) (by omega) (fun c_94 => ?_) (fun c_94 => ?_)
          ·
            have hx9 := hE (by omega)
            rw [hr] at hx9
            exact hret _ _ _ dX2_go_221 ⟨φ1, rfl, by rw [hx9], by rw [hx9]⟩
          ·
            exact L_97 (by first | exact Or.inl c_87 | exact Or.inr (by omega))
    refine z_chg 0 (x' := cl (f % 12) (f / 12) (sgZ (t % 12 - f % 12)) (sgZ (t / 12 - f / 12)) 0 0) (lv' := [(9, vI (cl (f % 12) (f / 12) (sgZ (t % 12 - f % 12)) (sgZ (t / 12 - f / 12)) 0 0)), (8, vI 0), (7, vI 0), (0, .ref (h 0)), (1, vI f), (2, vI t), (3, vI (abZ (t % 12 - f % 12))), (4, vI (abZ (t / 12 - f / 12))), (5, vI ax), (6, vI ay)]) rfl (by unfold cl; simp; omega) rfl ?_
    refine z_sub (lv' := [(0, .ref (h 0)), (1, vI f), (2, vI t), (3, vI (abZ (t % 12 - f % 12))), (4, vI (abZ (t / 12 - f / 12))), (5, vI ax), (6, vI ay), (7, vI 0), (8, vI 0), (9, vI (cl (f % 12) (f / 12) (sgZ (t % 12 - f % 12)) (sgZ (t / 12 - f / 12)) 0 0))]) [3, 4, 5, 6, 7, 8, 9, 2, 1, 0] rfl ?_
    exact L_84 23 0 _ 0 0 (by omega) (by omega) (by omega) (by omega) (by show (0 : Int) ≤ 0 ∧ (0 : Int) < 4; omega) rfl
  refine z_iload_n C 4 dX2_go_27 rfl ?_
  refine z_bipush C dX2_go_28 (by decide) ?_
  refine z_irem C (r := t % 12) dX2_go_30 (by decide) (iI_rem12 (by omega)) ?_
  refine z_iload_n C 3 dX2_go_31 rfl ?_
  refine z_bipush C dX2_go_32 (by decide) ?_
  refine z_irem C (r := f % 12) dX2_go_34 (by decide) (iI_rem12 (by omega)) ?_
  refine z_icmp_ge C (tgt := 42) dX2_go_35 (by decide) (by omega) (by omega) (fun c_35 => ?_) (fun c_35 => ?_)
  ·
    refine z_iconst C dX2_go_42 ?_
    refine z_istore C [(5, vI 1), (4, vI (abZ ((t / 12) - (f / 12)))), (3, vI (abZ ((t % 12) - (f % 12)))), (0, .ref (h 0)), (1, vI f), (2, vI t)] dX2_go_43 (by decide) rfl ?_
    refine z_iload_n C 5 dX2_go_45 rfl ?_
    refine z_bipush C dX2_go_46 (by decide) ?_
    refine z_idiv C (r := t / 12) dX2_go_48 (by decide) (iI_div12 (by omega)) ?_
    refine z_iload_n C 4 dX2_go_49 rfl ?_
    refine z_bipush C dX2_go_50 (by decide) ?_
    refine z_idiv C (r := f / 12) dX2_go_52 (by decide) (iI_div12 (by omega)) ?_
    refine z_icmp_ge C (tgt := 61) dX2_go_53 (by decide) (by omega) (by omega) (fun c_53 => ?_) (fun c_53 => ?_)
    ·
      refine z_bipush C dX2_go_61 (by decide) ?_
      refine z_istore C [(6, vI 12), (5, vI 1), (4, vI (abZ ((t / 12) - (f / 12)))), (3, vI (abZ ((t % 12) - (f % 12)))), (0, .ref (h 0)), (1, vI f), (2, vI t)] dX2_go_63 (by decide) rfl ?_
      refine z_sub (lv' := [(0, .ref (h 0)), (1, vI f), (2, vI t), (3, vI (abZ ((t % 12) - (f % 12)))), (4, vI (abZ ((t / 12) - (f / 12)))), (5, vI 1), (6, vI 12)]) [4, 5, 6, 3, 2, 1, 0] rfl ?_
      exact L_65 1 12 (by omega) (by omega)
    ·
      refine z_bipush C dX2_go_56 (by decide) ?_
      refine z_goto C (tgt := 63) dX2_go_58 (by decide) ?_
      refine z_istore C [(6, vI (-12)), (5, vI 1), (4, vI (abZ ((t / 12) - (f / 12)))), (3, vI (abZ ((t % 12) - (f % 12)))), (0, .ref (h 0)), (1, vI f), (2, vI t)] dX2_go_63 (by decide) rfl ?_
      refine z_sub (lv' := [(0, .ref (h 0)), (1, vI f), (2, vI t), (3, vI (abZ ((t % 12) - (f % 12)))), (4, vI (abZ ((t / 12) - (f / 12)))), (5, vI 1), (6, vI (-12))]) [4, 5, 6, 3, 2, 1, 0] rfl ?_
      exact L_65 1 (-12) (by omega) (by omega)
  ·
    refine z_iconst C dX2_go_38 ?_
    refine z_goto C (tgt := 43) dX2_go_39 (by decide) ?_
    refine z_istore C [(5, vI (-1)), (4, vI (abZ ((t / 12) - (f / 12)))), (3, vI (abZ ((t % 12) - (f % 12)))), (0, .ref (h 0)), (1, vI f), (2, vI t)] dX2_go_43 (by decide) rfl ?_
    refine z_iload_n C 5 dX2_go_45 rfl ?_
    refine z_bipush C dX2_go_46 (by decide) ?_
    refine z_idiv C (r := t / 12) dX2_go_48 (by decide) (iI_div12 (by omega)) ?_
    refine z_iload_n C 4 dX2_go_49 rfl ?_
    refine z_bipush C dX2_go_50 (by decide) ?_
    refine z_idiv C (r := f / 12) dX2_go_52 (by decide) (iI_div12 (by omega)) ?_
    refine z_icmp_ge C (tgt := 61) dX2_go_53 (by decide) (by omega) (by omega) (fun c_53 => ?_) (fun c_53 => ?_)
    ·
      refine z_bipush C dX2_go_61 (by decide) ?_
      refine z_istore C [(6, vI 12), (5, vI (-1)), (4, vI (abZ ((t / 12) - (f / 12)))), (3, vI (abZ ((t % 12) - (f % 12)))), (0, .ref (h 0)), (1, vI f), (2, vI t)] dX2_go_63 (by decide) rfl ?_
      refine z_sub (lv' := [(0, .ref (h 0)), (1, vI f), (2, vI t), (3, vI (abZ ((t % 12) - (f % 12)))), (4, vI (abZ ((t / 12) - (f / 12)))), (5, vI (-1)), (6, vI 12)]) [4, 5, 6, 3, 2, 1, 0] rfl ?_
      exact L_65 (-1) 12 (by omega) (by omega)
    ·
      refine z_bipush C dX2_go_56 (by decide) ?_
      refine z_goto C (tgt := 63) dX2_go_58 (by decide) ?_
      refine z_istore C [(6, vI (-12)), (5, vI (-1)), (4, vI (abZ ((t / 12) - (f / 12)))), (3, vI (abZ ((t % 12) - (f % 12)))), (0, .ref (h 0)), (1, vI f), (2, vI t)] dX2_go_63 (by decide) rfl ?_
      refine z_sub (lv' := [(0, .ref (h 0)), (1, vI f), (2, vI t), (3, vI (abZ ((t % 12) - (f % 12)))), (4, vI (abZ ((t / 12) - (f / 12)))), (5, vI (-1)), (6, vI (-12))]) [4, 5, 6, 3, 2, 1, 0] rfl ?_
      exact L_65 (-1) (-12) (by omega) (by omega)
