theorem sU4 {σ : YS} {k : Nat} {g : Int} (j : Nat) : sU σ 1 k g 4 j = σ 4 j := rfl
theorem Ok_carry {σ : YS} {k : Nat} {g : Int} (h : Ok σ) (hk : (k : Int) < σ 4 0) (hg : 0 ≤ g ∧ g < 144) : Ok (sU σ 1 k g) := by
  obtain ⟨h1, h2, h3, h4, h5⟩ := h
  refine ⟨h1, h2, fun j hj => ?_, h4, h5⟩
  have h6 := h3 j hj
  refine ⟨?_, h6.2⟩
  show 0 ≤ (if j = k then g else σ 1 j) ∧ (if j = k then g else σ 1 j) < 144
  split
  · exact hg
  · exact h6.1
theorem bI_inj {a b : Bool} (h : bI a = bI b) : a = b := by cases a <;> cases b <;> simp_all [bI]
theorem drk_n {σ : YS} {LT : Nat → Int} {x y z : Int} {c o : Nat} (h1 : x = bI (decide (LT c ≠ 0))) (h2 : y = bI (decide (LT o ≠ 0))) (h3 : z = bI (decide (LT o ≠ 0))) (h : x ≠ y) : bI (drk σ LT c o) = z := by
  unfold drk
  rw [if_pos, h3]
  rw [h1, h2] at h
  cases q : decide (LT c ≠ 0) <;> cases r : decide (LT o ≠ 0) <;> simp_all [bI]
theorem drk_t {σ : YS} {LT : Nat → Int} {x y : Int} {c o : Nat} (h1 : x = bI (decide (LT c ≠ 0))) (h2 : y = bI (decide (LT o ≠ 0))) (h : x = y) (hb : brC σ LT c < brC σ LT o) : drk σ LT c o = true := by
  have e := bI_inj (h1.symm.trans (h.trans h2))
  unfold drk
  rw [e, if_neg (by simp)]
  exact decide_eq_true hb
theorem drk_f {σ : YS} {LT : Nat → Int} {x y : Int} {c o : Nat} (h1 : x = bI (decide (LT c ≠ 0))) (h2 : y = bI (decide (LT o ≠ 0))) (h : x = y) (hb : ¬ brC σ LT c < brC σ LT o) : drk σ LT c o = false := by
  have e := bI_inj (h1.symm.trans (h.trans h2))
  unfold drk
  rw [e, if_neg (by simp)]
  exact decide_eq_false hb
abbrev edS (LT : Nat → Int) (i j : Nat) : Int := sm (fun c => bI (edF LT c 2) + bI (edF LT c 3)) i + (if 1 ≤ j then bI (edF LT i 2) else 0) + (if 2 ≤ j then bI (edF LT i 3) else 0)
theorem ed_s {LT : Nat → Int} {i j : Nat} (hj : j < 2) : edS LT i (j + 1) = edS LT i j + bI (edF LT i (2 + (j : Int))) := by
  unfold edS
  rcases (show j = 0 ∨ j = 1 by omega) with rfl | rfl <;> simp
theorem ed_t {LT : Nat → Int} {i j : Nat} {f z x y : Int} (hf : f = edS LT i j) (hj : j < 2) (hz : z = nb (i : Int) (2 + (j : Int))) (hx : x = bI (decide (LT i ≠ 0))) (hy : y = bI (decide (LT z.toNat ≠ 0))) (c1 : ¬ z = -1) (c2 : ¬ x = y) : f + 1 = edS LT i (j + 1) := by
  rw [ed_s hj, hf]
  congr 1
  refine (bI_t ?_).symm
  unfold edF
  rw [← hz, decide_eq_true c1]
  rw [hx, hy] at c2
  cases q : decide (LT i ≠ 0) <;> cases r : decide (LT z.toNat ≠ 0) <;> simp_all [bI]
theorem ed_e {LT : Nat → Int} {i j : Nat} {f z x y : Int} (hf : f = edS LT i j) (hj : j < 2) (hz : z = nb (i : Int) (2 + (j : Int))) (hx : x = bI (decide (LT i ≠ 0))) (hy : y = bI (decide (LT z.toNat ≠ 0))) (c2 : x = y) : f = edS LT i (j + 1) := by
  rw [ed_s hj, hf]
  have e := bI_inj (hx.symm.trans (c2.trans hy))
  rw [bI_f]
  · omega
  unfold edF
  rw [← hz, e]
  simp
theorem ed_n {LT : Nat → Int} {i j : Nat} {f z : Int} (hf : f = edS LT i j) (hj : j < 2) (hz : z = nb (i : Int) (2 + (j : Int))) (c1 : z = -1) : f = edS LT i (j + 1) := by
  rw [ed_s hj, hf, bI_f]
  · omega
  unfold edF
  rw [← hz, c1]
  rfl
abbrev rm_X1_brightnessOfAll : Room := { frames := 2, cells := 0, slots := 0, locals := 50 }
set_option maxHeartbeats 4000000 in
set_option maxRecDepth 100000 in
theorem c_X1_brightnessOfAll (l : Launch) (D : va_G) (cI cJ : ClassId) (h : Nat → Nat) (σ : YS) (LT : Nat → Int) (γ : YS) (φ : Nat → Int)  (hO : Ok σ) (hL : LR LT) : Ci l yX1_brightnessOfAll wsX1_brightnessOfAll rm_X1_brightnessOfAll D [(cI, .int), (cJ, .long)] [.ref (h 0)] (cw cI h σ LT γ φ) (fun z u => u = (cw cI h σ LT γ φ) ∧ z = sm (brC σ LT) 144) := by
  refine z_ofi (own := RX1) (cc := cX1_brightnessOfAll) (maxL := 3) (lv := [(0, .ref (h 0))]) (by decide) rfl rfl (Nat.le_of_ble_eq_true rfl) rfl ?_
  intro p e s m args below meth cd Q A C hret
  have hn := hO.1
  have hm := hO.2.1
  have en := nLa_e hO
  have em := nWa_e hO
  refine z_iconst C dX1_brightnessOfAll_0 ?_
  refine z_istore_n C [(1, vI 0), (0, .ref (h 0))] dX1_brightnessOfAll_1 (by decide) rfl ?_
  refine z_iconst C dX1_brightnessOfAll_2 ?_
  refine z_istore_n C [(2, vI 0), (1, vI 0), (0, .ref (h 0))] dX1_brightnessOfAll_3 (by decide) rfl ?_
  have L_4 : ∀ (d9 i : Nat) (hi : i ≤ 144) (hd : 144 + 1 ≤ i + d9), Zs p l e rm_X1_brightnessOfAll s m args below meth cd Q A D 3 4 [(0, .ref (h 0)), (1, vI (sm (brC σ LT) i)), (2, vI (i : Int))] [] (cw cI h σ LT γ φ) 0 0 := by
    intro d9
    induction d9 with
    | zero =>
      intro i hi hd
      exfalso; omega
    | succ d9 ih9 =>
      intro i hi hd
      refine z_iload_n C 2 dX1_brightnessOfAll_4 rfl ?_
      refine z_sipush C dX1_brightnessOfAll_5 (by decide) ?_
      refine z_icmp_ge C (tgt := 25) dX1_brightnessOfAll_8 (by decide) (by omega) (by omega) (fun c_8 => ?_) (fun c_8 => ?_)
      ·
        obtain rfl : i = 144 := by omega
        refine z_iload_n C 1 dX1_brightnessOfAll_25 rfl ?_
        exact hret _ _ _ _ dX1_brightnessOfAll_26 ⟨rfl, by rfl⟩
      ·
        refine z_iload_n C 1 dX1_brightnessOfAll_11 rfl ?_
        refine z_aload_n C 0 dX1_brightnessOfAll_12 rfl ?_
        refine z_iload_n C 2 dX1_brightnessOfAll_13 rfl ?_
        refine z_callVi C (As := [vI (i : Int)]) (st := [vI (sm (brC σ LT) i)]) (y := yX1_brightness) (w := wsX1_brightness) (rm := rm_X1_brightness) (wr := []) (k' := 0) (n' := 0) [0, 1, 2, 3, 4, 5, 6, 7, 8] [] 0 (c_X1_brightness l D cI cJ h σ LT γ φ (i : Int) (by omega) hO hL) (cwV 1 C.1.2.2.2.2 gX1_brightnessOfAll_X1_brightness rfl rfl rfl (by decide +kernel) ⟨Nat.le_of_ble_eq_true rfl, Nat.le_of_ble_eq_true rfl⟩) rfl rfl rfl rfl rfl (by decide) rfl rfl rfl rfl (Nat.le_of_ble_eq_true rfl) rfl rfl ⟨Nat.le_of_ble_eq_true rfl, Nat.le_of_ble_eq_true rfl⟩ dX1_brightnessOfAll_14 ?_
        rintro z_14 _ ⟨rfl, hz_14⟩
        refine z_ws (ws' := (cw cI h σ LT γ φ)) rfl ?_
        have r_14 := brC_r hO LT (show ((i : Int)).toNat < 144 by omega)
        rw [← hz_14] at r_14
        have hz_14 : z_14 = brC σ LT i := hz_14
        refine z_iadd C dX1_brightnessOfAll_17 ?_
        refine z_istore_n C [(1, vI ((sm (brC σ LT) i) + z_14)), (0, .ref (h 0)), (2, vI (i : Int))] dX1_brightnessOfAll_18 (by decide) rfl ?_
        refine z_iinc C 2 [(2, vI ((i : Int) + 1)), (1, vI ((sm (brC σ LT) i) + z_14)), (0, .ref (h 0))] dX1_brightnessOfAll_19 rfl (by decide) rfl ?_
        refine z_goto C (tgt := 4) dX1_brightnessOfAll_22 (by decide) ?_
        refine z_chg 1 (x' := sm (brC σ LT) (i + 1)) (lv' := [(2, vI ((i : Int) + 1)), (1, vI (sm (brC σ LT) (i + 1))), (0, .ref (h 0))]) rfl (by rw [hz_14]; rfl) rfl ?_
        refine z_chg 0 (x' := ((i + 1 : Nat) : Int)) (lv' := [(2, vI ((i + 1 : Nat) : Int)), (1, vI (sm (brC σ LT) (i + 1))), (0, .ref (h 0))]) rfl (by omega) rfl ?_
        refine z_sub (lv' := [(0, .ref (h 0)), (1, vI (sm (brC σ LT) (i + 1))), (2, vI ((i + 1 : Nat) : Int))]) [2, 1, 0] rfl ?_
        exact ih9 (i + 1) (by omega) (by omega)
  refine z_sub (lv' := [(0, .ref (h 0)), (1, vI 0), (2, vI 0)]) [2, 1, 0] rfl ?_
  exact L_4 (144 + 1) 0 (Nat.zero_le _) (by omega)

abbrev rm_X1_isDarkerThan : Room := { frames := 2, cells := 0, slots := 0, locals := 50 }
set_option maxHeartbeats 4000000 in
set_option maxRecDepth 100000 in
theorem c_X1_isDarkerThan (l : Launch) (D : va_G) (cI cJ : ClassId) (h : Nat → Nat) (σ : YS) (LT : Nat → Int) (γ : YS) (φ : Nat → Int) (c o : Int) (hc : 0 ≤ c ∧ c < 144) (ho : 0 ≤ o ∧ o < 144) (hO : Ok σ) (hL : LR LT) : Ci l yX1_isDarkerThan wsX1_isDarkerThan rm_X1_isDarkerThan D [(cI, .int), (cJ, .long)] [.ref (h 0), vI c, vI o] (cw cI h σ LT γ φ) (fun z u => u = (cw cI h σ LT γ φ) ∧ z = bI (drk σ LT c.toNat o.toNat)) := by
  refine z_ofz (own := RX1) (cc := cX1_isDarkerThan) (maxL := 3) (lv := [(0, .ref (h 0)), (1, vI c), (2, vI o)]) (by decide) rfl rfl (Nat.le_of_ble_eq_true rfl) rfl ?_
  intro p e s m args below meth cd Q A C hret
  have hn := hO.1
  have hm := hO.2.1
  have en := nLa_e hO
  have em := nWa_e hO
  refine z_aload_n C 0 dX1_isDarkerThan_0 rfl ?_
  refine z_iload_n C 1 dX1_isDarkerThan_1 rfl ?_
  refine z_callVi C (As := [vI c]) (st := []) (y := yX1_isLit) (w := wsX1_isLit) (rm := rm_X1_isLit) (wr := []) (k' := 0) (n' := 0) [0, 1, 2, 3, 4, 5, 6, 7, 8] [] 0 (c_X1_isLit l D cI cJ h σ LT γ φ c (by omega) hL) (cwV 1 C.1.2.2.2.2 gX1_isDarkerThan_X1_isLit rfl rfl rfl (by decide +kernel) ⟨Nat.le_of_ble_eq_true rfl, Nat.le_of_ble_eq_true rfl⟩) rfl rfl rfl rfl rfl (by decide) rfl rfl rfl rfl (Nat.le_of_ble_eq_true rfl) rfl rfl ⟨Nat.le_of_ble_eq_true rfl, Nat.le_of_ble_eq_true rfl⟩ dX1_isDarkerThan_2 ?_
  rintro z_2 _ ⟨rfl, hz_2⟩
  refine z_ws (ws' := (cw cI h σ LT γ φ)) rfl ?_
  have r_2 : z_2 = 0 ∨ z_2 = 1 := by rw [hz_2]; exact bI_01 _
  have hz_2 : z_2 = bI (decide (LT c.toNat ≠ 0)) := hz_2
  refine z_aload_n C 0 dX1_isDarkerThan_5 rfl ?_
  refine z_iload_n C 2 dX1_isDarkerThan_6 rfl ?_
  refine z_callVi C (As := [vI o]) (st := [vI z_2]) (y := yX1_isLit) (w := wsX1_isLit) (rm := rm_X1_isLit) (wr := []) (k' := 0) (n' := 0) [0, 1, 2, 3, 4, 5, 6, 7, 8] [] 0 (c_X1_isLit l D cI cJ h σ LT γ φ o (by omega) hL) (cwV 1 C.1.2.2.2.2 gX1_isDarkerThan_X1_isLit rfl rfl rfl (by decide +kernel) ⟨Nat.le_of_ble_eq_true rfl, Nat.le_of_ble_eq_true rfl⟩) rfl rfl rfl rfl rfl (by decide) rfl rfl rfl rfl (Nat.le_of_ble_eq_true rfl) rfl rfl ⟨Nat.le_of_ble_eq_true rfl, Nat.le_of_ble_eq_true rfl⟩ dX1_isDarkerThan_7 ?_
  rintro z_7 _ ⟨rfl, hz_7⟩
  refine z_ws (ws' := (cw cI h σ LT γ φ)) rfl ?_
  have r_7 : z_7 = 0 ∨ z_7 = 1 := by rw [hz_7]; exact bI_01 _
  have hz_7 : z_7 = bI (decide (LT o.toNat ≠ 0)) := hz_7
  refine z_icmp_eq C (tgt := 19) dX1_isDarkerThan_10 (by decide) (by omega) (by omega) (fun c_10 => ?_) (fun c_10 => ?_)
  ·
    refine z_aload_n C 0 dX1_isDarkerThan_19 rfl ?_
    refine z_iload_n C 1 dX1_isDarkerThan_20 rfl ?_
    refine z_callVi C (As := [vI c]) (st := []) (y := yX1_brightness) (w := wsX1_brightness) (rm := rm_X1_brightness) (wr := []) (k' := 0) (n' := 0) [0, 1, 2, 3, 4, 5, 6, 7, 8] [] 0 (c_X1_brightness l D cI cJ h σ LT γ φ c (by omega) hO hL) (cwV 1 C.1.2.2.2.2 gX1_isDarkerThan_X1_brightness rfl rfl rfl (by decide +kernel) ⟨Nat.le_of_ble_eq_true rfl, Nat.le_of_ble_eq_true rfl⟩) rfl rfl rfl rfl rfl (by decide) rfl rfl rfl rfl (Nat.le_of_ble_eq_true rfl) rfl rfl ⟨Nat.le_of_ble_eq_true rfl, Nat.le_of_ble_eq_true rfl⟩ dX1_isDarkerThan_21 ?_
    rintro z_21 _ ⟨rfl, hz_21⟩
    refine z_ws (ws' := (cw cI h σ LT γ φ)) rfl ?_
    have r_21 := brC_r hO LT (show (c).toNat < 144 by omega)
    rw [← hz_21] at r_21
    have hz_21 : z_21 = brC σ LT c.toNat := hz_21
    refine z_aload_n C 0 dX1_isDarkerThan_24 rfl ?_
    refine z_iload_n C 2 dX1_isDarkerThan_25 rfl ?_
    refine z_callVi C (As := [vI o]) (st := [vI z_21]) (y := yX1_brightness) (w := wsX1_brightness) (rm := rm_X1_brightness) (wr := []) (k' := 0) (n' := 0) [0, 1, 2, 3, 4, 5, 6, 7, 8] [] 0 (c_X1_brightness l D cI cJ h σ LT γ φ o (by omega) hO hL) (cwV 1 C.1.2.2.2.2 gX1_isDarkerThan_X1_brightness rfl rfl rfl (by decide +kernel) ⟨Nat.le_of_ble_eq_true rfl, Nat.le_of_ble_eq_true rfl⟩) rfl rfl rfl rfl rfl (by decide) rfl rfl rfl rfl (Nat.le_of_ble_eq_true rfl) rfl rfl ⟨Nat.le_of_ble_eq_true rfl, Nat.le_of_ble_eq_true rfl⟩ dX1_isDarkerThan_26 ?_
    rintro z_26 _ ⟨rfl, hz_26⟩
    refine z_ws (ws' := (cw cI h σ LT γ φ)) rfl ?_
    have r_26 := brC_r hO LT (show (o).toNat < 144 by omega)
    rw [← hz_26] at r_26
    have hz_26 : z_26 = brC σ LT o.toNat := hz_26
    refine z_icmp_ge C (tgt := 36) dX1_isDarkerThan_29 (by decide) (by omega) (by omega) (fun c_29 => ?_) (fun c_29 => ?_)
    ·
      refine z_iconst C dX1_isDarkerThan_36 ?_
      exact hret _ _ _ _ dX1_isDarkerThan_37 (Or.inl rfl) ⟨rfl, by first | exact (bI_t (drk_t hz_2 hz_7 c_10 (by omega))).symm | exact (bI_f (drk_f hz_2 hz_7 c_10 (by omega))).symm⟩
    ·
      refine z_iconst C dX1_isDarkerThan_32 ?_
      refine z_goto C (tgt := 37) dX1_isDarkerThan_33 (by decide) ?_
      exact hret _ _ _ _ dX1_isDarkerThan_37 (Or.inr rfl) ⟨rfl, by first | exact (bI_t (drk_t hz_2 hz_7 c_10 (by omega))).symm | exact (bI_f (drk_f hz_2 hz_7 c_10 (by omega))).symm⟩
  ·
    refine z_aload_n C 0 dX1_isDarkerThan_13 rfl ?_
    refine z_iload_n C 2 dX1_isDarkerThan_14 rfl ?_
    refine z_callVi C (As := [vI o]) (st := []) (y := yX1_isLit) (w := wsX1_isLit) (rm := rm_X1_isLit) (wr := []) (k' := 0) (n' := 0) [0, 1, 2, 3, 4, 5, 6, 7, 8] [] 0 (c_X1_isLit l D cI cJ h σ LT γ φ o (by omega) hL) (cwV 1 C.1.2.2.2.2 gX1_isDarkerThan_X1_isLit rfl rfl rfl (by decide +kernel) ⟨Nat.le_of_ble_eq_true rfl, Nat.le_of_ble_eq_true rfl⟩) rfl rfl rfl rfl rfl (by decide) rfl rfl rfl rfl (Nat.le_of_ble_eq_true rfl) rfl rfl ⟨Nat.le_of_ble_eq_true rfl, Nat.le_of_ble_eq_true rfl⟩ dX1_isDarkerThan_15 ?_
    rintro z_15 _ ⟨rfl, hz_15⟩
    refine z_ws (ws' := (cw cI h σ LT γ φ)) rfl ?_
    have r_15 : z_15 = 0 ∨ z_15 = 1 := by rw [hz_15]; exact bI_01 _
    have hz_15 : z_15 = bI (decide (LT o.toNat ≠ 0)) := hz_15
    exact hret _ _ _ _ dX1_isDarkerThan_18 (by omega) ⟨rfl, (drk_n hz_2 hz_7 hz_15 c_10).symm ▸ rfl⟩

abbrev rm_X1_edgesOfLight : Room := { frames := 2, cells := 0, slots := 0, locals := 42 }
set_option maxHeartbeats 4000000 in
set_option maxRecDepth 100000 in
theorem c_X1_edgesOfLight (l : Launch) (D : va_G) (cI cJ : ClassId) (h : Nat → Nat) (σ : YS) (LT : Nat → Int) (γ : YS) (φ : Nat → Int)  (hL : LR LT) : Ci l yX1_edgesOfLight wsX1_edgesOfLight rm_X1_edgesOfLight D [(cI, .int), (cJ, .long)] [.ref (h 0)] (cw cI h σ LT γ φ) (fun z u => u = (cw cI h σ LT γ φ) ∧ z = sm (fun c => bI (edF LT c 2) + bI (edF LT c 3)) 144) := by
  refine z_ofi (own := RX1) (cc := cX1_edgesOfLight) (maxL := 5) (lv := [(0, .ref (h 0))]) (by decide) rfl rfl (Nat.le_of_ble_eq_true rfl) rfl ?_
  intro p e s m args below meth cd Q A C hret
  refine z_iconst C dX1_edgesOfLight_0 ?_
  refine z_istore_n C [(1, vI 0), (0, .ref (h 0))] dX1_edgesOfLight_1 (by decide) rfl ?_
  refine z_iconst C dX1_edgesOfLight_2 ?_
  refine z_istore_n C [(2, vI 0), (1, vI 0), (0, .ref (h 0))] dX1_edgesOfLight_3 (by decide) rfl ?_
  have L_4 : ∀ (d9 i : Nat) (hi : i ≤ 144) (hd : 144 + 1 ≤ i + d9), Zs p l e rm_X1_edgesOfLight s m args below meth cd Q A D 5 4 [(0, .ref (h 0)), (1, vI (sm (fun c => bI (edF LT c 2) + bI (edF LT c 3)) i)), (2, vI (i : Int))] [] (cw cI h σ LT γ φ) 0 0 := by
    intro d9
    induction d9 with
    | zero =>
      intro i hi hd
      exfalso; omega
    | succ d9 ih9 =>
      intro i hi hd
      refine z_iload_n C 2 dX1_edgesOfLight_4 rfl ?_
      refine z_sipush C dX1_edgesOfLight_5 (by decide) ?_
      refine z_icmp_ge C (tgt := 60) dX1_edgesOfLight_8 (by decide) (by omega) (by omega) (fun c_8 => ?_) (fun c_8 => ?_)
      ·
        obtain rfl : i = 144 := by omega
        refine z_iload_n C 1 dX1_edgesOfLight_60 rfl ?_
        exact hret _ _ _ _ dX1_edgesOfLight_61 ⟨rfl, by rfl⟩
      ·
        refine z_iconst C dX1_edgesOfLight_11 ?_
        refine z_istore_n C [(3, vI 2), (0, .ref (h 0)), (1, vI (sm (fun c => bI (edF LT c 2) + bI (edF LT c 3)) i)), (2, vI (i : Int))] dX1_edgesOfLight_12 (by decide) rfl ?_
        have L_13 : ∀ (d8 j : Nat) (fv : Int) (hj : j ≤ 2) (hd2 : 3 ≤ j + d8) (hf : fv = sm (fun c => bI (edF LT c 2) + bI (edF LT c 3)) i + (if 1 ≤ j then bI (edF LT i 2) else 0) + (if 2 ≤ j then bI (edF LT i 3) else 0)), Zs p l e rm_X1_edgesOfLight s m args below meth cd Q A D 5 13 [(0, .ref (h 0)), (1, vI fv), (2, vI (i : Int)), (3, vI (2 + (j : Int)))] [] (cw cI h σ LT γ φ) 0 0 := by
          intro d8
          induction d8 with
          | zero =>
            intro j fv hj hd2 hf
            exfalso; omega
          | succ d8 ih8 =>
            intro j fv hj hd2 hf
            refine z_iload_n C 3 dX1_edgesOfLight_13 rfl ?_
            refine z_iconst C dX1_edgesOfLight_14 ?_
            refine z_icmp_gt C (tgt := 54) dX1_edgesOfLight_15 (by decide) (by omega) (by omega) (fun c_15 => ?_) (fun c_15 => ?_)
            ·
              refine z_iinc C 2 [(2, vI ((i : Int) + 1)), (0, .ref (h 0)), (1, vI fv), (3, vI (2 + (j : Int)))] dX1_edgesOfLight_54 rfl (by decide) rfl ?_
              refine z_goto C (tgt := 4) dX1_edgesOfLight_57 (by decide) ?_
              refine z_chg 2 (x' := sm (fun c => bI (edF LT c 2) + bI (edF LT c 3)) (i + 1)) (lv' := [(2, vI ((i : Int) + 1)), (0, .ref (h 0)), (1, vI (sm (fun c => bI (edF LT c 2) + bI (edF LT c 3)) (i + 1))), (3, vI (2 + (j : Int)))]) rfl (by rw [hf, if_pos (by omega), if_pos (by omega), Int.add_assoc]; rfl) rfl ?_
              refine z_chg 0 (x' := ((i + 1 : Nat) : Int)) (lv' := [(2, vI ((i + 1 : Nat) : Int)), (0, .ref (h 0)), (1, vI (sm (fun c => bI (edF LT c 2) + bI (edF LT c 3)) (i + 1))), (3, vI (2 + (j : Int)))]) rfl (by omega) rfl ?_
              refine z_sub (lv' := [(0, .ref (h 0)), (1, vI (sm (fun c => bI (edF LT c 2) + bI (edF LT c 3)) (i + 1))), (2, vI ((i + 1 : Nat) : Int))]) [1, 2, 0] rfl ?_
              exact ih9 (i + 1) (by omega) (by omega)
            ·
              have hj2 : j < 2 := by omega
              refine z_iload_n C 2 dX1_edgesOfLight_18 rfl ?_
              refine z_iload_n C 3 dX1_edgesOfLight_19 rfl ?_
              refine z_callSi C (As := [vI (i : Int), vI (2 + (j : Int))]) (st := []) (y := yX1_neighbour) (w := wsX1_neighbour) (rm := rm_X1_neighbour) (wr := (cw cI h σ LT γ φ)) (k' := 0) (n' := 0) [] [0, 1, 2, 3, 4, 5, 6, 7, 8] (c_X1_neighbour l D cI cJ  (i : Int) (2 + (j : Int)) (by omega) (by omega)) (va_cwS 2 C.1.2.2.2.2 gX1_edgesOfLight_X1_neighbour rfl rfl rfl (by decide +kernel) ⟨Nat.le_of_ble_eq_true rfl, Nat.le_of_ble_eq_true rfl⟩) rfl rfl rfl rfl rfl (by decide) rfl rfl (Nat.le_of_ble_eq_true rfl) rfl rfl ⟨Nat.le_of_ble_eq_true rfl, Nat.le_of_ble_eq_true rfl⟩ dX1_edgesOfLight_20 ?_
              rintro z_20 _ ⟨rfl, hz_20⟩
              refine z_ws (ws' := (cw cI h σ LT γ φ)) rfl ?_
              have hz_20 : z_20 = nb (i : Int) (2 + (j : Int)) := hz_20
              have r_20 := nb_r (c := (i : Int)) (s := 2 + (j : Int)) (by omega)
              rw [← hz_20] at r_20
              refine z_istore C [(4, vI z_20), (0, .ref (h 0)), (1, vI fv), (2, vI (i : Int)), (3, vI (2 + (j : Int)))] dX1_edgesOfLight_23 (by decide) rfl ?_
              refine z_iload C 0 dX1_edgesOfLight_25 rfl ?_
              refine z_iconst C dX1_edgesOfLight_27 ?_
              refine z_icmp_eq C (tgt := 48) dX1_edgesOfLight_28 (by decide) (by omega) (by omega) (fun c_28 => ?_) (fun c_28 => ?_)
              ·
                refine z_iinc C 4 [(3, vI ((2 + (j : Int)) + 1)), (4, vI z_20), (0, .ref (h 0)), (1, vI fv), (2, vI (i : Int))] dX1_edgesOfLight_48 rfl (by decide) rfl ?_
                refine z_goto C (tgt := 13) dX1_edgesOfLight_51 (by decide) ?_
                refine z_chg 0 (x' := 2 + ((j + 1 : Nat) : Int)) (lv' := [(3, vI (2 + ((j + 1 : Nat) : Int))), (4, vI z_20), (0, .ref (h 0)), (1, vI fv), (2, vI (i : Int))]) rfl (by omega) rfl ?_
                refine z_sub (lv' := [(0, .ref (h 0)), (1, vI fv), (2, vI (i : Int)), (3, vI (2 + ((j + 1 : Nat) : Int)))]) [2, 3, 4, 0] rfl ?_
                exact ih8 (j + 1) (fv) (by omega) (by omega) (by first | exact ed_t hf hj2 hz_20 hz_33 hz_39 c_28 c_42 | exact ed_e hf hj2 hz_20 hz_33 hz_39 c_42 | exact ed_n hf hj2 hz_20 c_28)
              ·
                refine z_aload_n C 1 dX1_edgesOfLight_31 rfl ?_
                refine z_iload_n C 3 dX1_edgesOfLight_32 rfl ?_
                refine z_callVi C (As := [vI (i : Int)]) (st := []) (y := yX1_isLit) (w := wsX1_isLit) (rm := rm_X1_isLit) (wr := []) (k' := 0) (n' := 0) [0, 1, 2, 3, 4, 5, 6, 7, 8] [] 0 (c_X1_isLit l D cI cJ h σ LT γ φ (i : Int) (by omega) hL) (cwV 1 C.1.2.2.2.2 gX1_edgesOfLight_X1_isLit rfl rfl rfl (by decide +kernel) ⟨Nat.le_of_ble_eq_true rfl, Nat.le_of_ble_eq_true rfl⟩) rfl rfl rfl rfl rfl (by decide) rfl rfl rfl rfl (Nat.le_of_ble_eq_true rfl) rfl rfl ⟨Nat.le_of_ble_eq_true rfl, Nat.le_of_ble_eq_true rfl⟩ dX1_edgesOfLight_33 ?_
                rintro z_33 _ ⟨rfl, hz_33⟩
                refine z_ws (ws' := (cw cI h σ LT γ φ)) rfl ?_
                have r_33 : z_33 = 0 ∨ z_33 = 1 := by rw [hz_33]; exact bI_01 _
                have hz_33 : z_33 = bI (decide (LT i ≠ 0)) := hz_33
                refine z_aload_n C 1 dX1_edgesOfLight_36 rfl ?_
                refine z_iload C 0 dX1_edgesOfLight_37 rfl ?_
                refine z_callVi C (As := [vI z_20]) (st := [vI z_33]) (y := yX1_isLit) (w := wsX1_isLit) (rm := rm_X1_isLit) (wr := []) (k' := 0) (n' := 0) [0, 1, 2, 3, 4, 5, 6, 7, 8] [] 0 (c_X1_isLit l D cI cJ h σ LT γ φ z_20 (by omega) hL) (cwV 1 C.1.2.2.2.2 gX1_edgesOfLight_X1_isLit rfl rfl rfl (by decide +kernel) ⟨Nat.le_of_ble_eq_true rfl, Nat.le_of_ble_eq_true rfl⟩) rfl rfl rfl rfl rfl (by decide) rfl rfl rfl rfl (Nat.le_of_ble_eq_true rfl) rfl rfl ⟨Nat.le_of_ble_eq_true rfl, Nat.le_of_ble_eq_true rfl⟩ dX1_edgesOfLight_39 ?_
                rintro z_39 _ ⟨rfl, hz_39⟩
                refine z_ws (ws' := (cw cI h σ LT γ φ)) rfl ?_
                have r_39 : z_39 = 0 ∨ z_39 = 1 := by rw [hz_39]; exact bI_01 _
                have hz_39 : z_39 = bI (decide (LT z_20.toNat ≠ 0)) := hz_39
                refine z_icmp_eq C (tgt := 48) dX1_edgesOfLight_42 (by decide) (by omega) (by omega) (fun c_42 => ?_) (fun c_42 => ?_)
                ·
                  refine z_iinc C 4 [(3, vI ((2 + (j : Int)) + 1)), (4, vI z_20), (0, .ref (h 0)), (1, vI fv), (2, vI (i : Int))] dX1_edgesOfLight_48 rfl (by decide) rfl ?_
                  refine z_goto C (tgt := 13) dX1_edgesOfLight_51 (by decide) ?_
                  refine z_chg 0 (x' := 2 + ((j + 1 : Nat) : Int)) (lv' := [(3, vI (2 + ((j + 1 : Nat) : Int))), (4, vI z_20), (0, .ref (h 0)), (1, vI fv), (2, vI (i : Int))]) rfl (by omega) rfl ?_
                  refine z_sub (lv' := [(0, .ref (h 0)), (1, vI fv), (2, vI (i : Int)), (3, vI (2 + ((j + 1 : Nat) : Int)))]) [2, 3, 4, 0] rfl ?_
                  exact ih8 (j + 1) (fv) (by omega) (by omega) (by first | exact ed_t hf hj2 hz_20 hz_33 hz_39 c_28 c_42 | exact ed_e hf hj2 hz_20 hz_33 hz_39 c_42 | exact ed_n hf hj2 hz_20 c_28)
                ·
                  refine z_iinc C 2 [(1, vI (fv + 1)), (4, vI z_20), (0, .ref (h 0)), (2, vI (i : Int)), (3, vI (2 + (j : Int)))] dX1_edgesOfLight_45 rfl (by decide) rfl ?_
                  refine z_iinc C 4 [(3, vI ((2 + (j : Int)) + 1)), (1, vI (fv + 1)), (4, vI z_20), (0, .ref (h 0)), (2, vI (i : Int))] dX1_edgesOfLight_48 rfl (by decide) rfl ?_
                  refine z_goto C (tgt := 13) dX1_edgesOfLight_51 (by decide) ?_
                  refine z_chg 0 (x' := 2 + ((j + 1 : Nat) : Int)) (lv' := [(3, vI (2 + ((j + 1 : Nat) : Int))), (1, vI (fv + 1)), (4, vI z_20), (0, .ref (h 0)), (2, vI (i : Int))]) rfl (by omega) rfl ?_
                  refine z_sub (lv' := [(0, .ref (h 0)), (1, vI (fv + 1)), (2, vI (i : Int)), (3, vI (2 + ((j + 1 : Nat) : Int)))]) [3, 1, 4, 0] rfl ?_
                  exact ih8 (j + 1) (fv + 1) (by omega) (by omega) (by first | exact ed_t hf hj2 hz_20 hz_33 hz_39 c_28 c_42 | exact ed_e hf hj2 hz_20 hz_33 hz_39 c_42 | exact ed_n hf hj2 hz_20 c_28)
        refine z_sub (lv' := [(0, .ref (h 0)), (1, vI (sm (fun c => bI (edF LT c 2) + bI (edF LT c 3)) i)), (2, vI (i : Int)), (3, vI 2)]) [1, 2, 3, 0] rfl ?_
        exact L_13 3 0 _ (by omega) (by omega) (by simp)
  refine z_sub (lv' := [(0, .ref (h 0)), (1, vI 0), (2, vI 0)]) [2, 1, 0] rfl ?_
  exact L_4 (144 + 1) 0 (Nat.zero_le _) (by omega)

abbrev rm_X1_litIfCarried : Room := { frames := 4, cells := 0, slots := 0, locals := 96 }
set_option maxHeartbeats 4000000 in
set_option maxRecDepth 100000 in
theorem c_X1_litIfCarried (l : Launch) (D : va_G) (cI cJ : ClassId) (h : Nat → Nat) (σ : YS) (LT : Nat → Int) (γ : YS) (φ : Nat → Int) (k g : Int) (hk : 0 ≤ k ∧ k < σ 4 0) (hg : 0 ≤ g ∧ g < 144) (hO : Ok σ) (hL : LR LT) : Ci l yX1_litIfCarried wsX1_litIfCarried rm_X1_litIfCarried D [(cI, .int), (cJ, .long)] [.ref (h 0), vI k, vI g] (cw cI h σ LT γ φ) (fun z u => ∃ φ' : Nat → Int, u = (cw cI h σ LT γ φ') ∧ z = sm (fun c => bI (decide (bcl (LT c) (2 ^ k.toNat) ≠ 0) || litB (sU σ 1 k.toNat g) k.toNat c)) 144) := by
  refine z_ofi (own := RX1) (cc := cX1_litIfCarried) (maxL := 6) (lv := [(0, .ref (h 0)), (1, vI k), (2, vI g)]) (by decide) rfl rfl (Nat.le_of_ble_eq_true rfl) rfl ?_
  intro p e s m args below meth cd Q A C hret
  have hn := hO.1
  have hm := hO.2.1
  have en := nLa_e hO
  have em := nWa_e hO
  have hO1 := Ok_carry (k := k.toNat) hO (by omega) hg
  have hp := pow_e (k := k) (by omega)
  refine z_aload_n C 0 dX1_litIfCarried_0 rfl ?_
  refine z_iload_n C 1 dX1_litIfCarried_1 rfl ?_
  refine z_callVi C (As := [vI k]) (st := []) (y := yX1_cellOfLamp) (w := wsX1_cellOfLamp) (rm := rm_X1_cellOfLamp) (wr := []) (k' := 0) (n' := 0) [0, 1, 2, 3, 4, 5, 6, 7, 8] [] 0 (c_X1_cellOfLamp l D cI cJ h σ LT γ φ k (by omega)) (cwV 1 C.1.2.2.2.2 gX1_litIfCarried_X1_cellOfLamp rfl rfl rfl (by decide +kernel) ⟨Nat.le_of_ble_eq_true rfl, Nat.le_of_ble_eq_true rfl⟩) rfl rfl rfl rfl rfl (by decide) rfl rfl rfl rfl (Nat.le_of_ble_eq_true rfl) rfl rfl ⟨Nat.le_of_ble_eq_true rfl, Nat.le_of_ble_eq_true rfl⟩ dX1_litIfCarried_2 ?_
  rintro z_2 _ ⟨rfl, rfl⟩
  refine z_ws (ws' := (cw cI h σ LT γ φ)) rfl ?_
  refine z_st (v' := (σ 1 k.toNat)) rfl ?_
  refine z_istore_n C [(3, vI (σ 1 k.toNat)), (0, .ref (h 0)), (1, vI k), (2, vI g)] dX1_litIfCarried_5 (by decide) rfl ?_
  refine z_iconst C dX1_litIfCarried_6 ?_
  refine z_istore C [(4, vI 0), (3, vI (σ 1 k.toNat)), (0, .ref (h 0)), (1, vI k), (2, vI g)] dX1_litIfCarried_7 (by decide) rfl ?_
  refine z_aload_n C 2 dX1_litIfCarried_9 rfl ?_
  refine z_iload_n C 3 dX1_litIfCarried_10 rfl ?_
  refine z_iload_n C 4 dX1_litIfCarried_11 rfl ?_
  refine z_callVv C (As := [vI k, vI g]) (st := []) (y := yX1_putLamp) (w := wsX1_putLamp) (rm := rm_X1_putLamp) (wr := []) (k' := 0) (n' := 0) [0, 1, 2, 3, 4, 5, 6, 7, 8] [] 0 (c_X1_putLamp l D cI cJ h σ LT γ φ k g (by omega)) (cwV 2 C.1.2.2.2.2 gX1_litIfCarried_X1_putLamp rfl rfl rfl (by decide +kernel) ⟨Nat.le_of_ble_eq_true rfl, Nat.le_of_ble_eq_true rfl⟩) rfl rfl rfl rfl rfl (by decide) rfl rfl rfl rfl (Nat.le_of_ble_eq_true rfl) rfl rfl ⟨Nat.le_of_ble_eq_true rfl, Nat.le_of_ble_eq_true rfl⟩ dX1_litIfCarried_12 ?_
  rintro _ rfl
  refine z_ws (ws' := (cw cI h (sU σ 1 k.toNat g) LT γ φ)) rfl ?_
  refine z_iconst C dX1_litIfCarried_15 ?_
  refine z_istore C [(5, vI 0), (4, vI 0), (3, vI (σ 1 k.toNat)), (0, .ref (h 0)), (1, vI k), (2, vI g)] dX1_litIfCarried_16 (by decide) rfl ?_
  have L_18 : ∀ (d9 i : Nat) (φ1 : Nat → Int) (hi : i ≤ 144) (hd : 144 + 1 ≤ i + d9), Zs p l e rm_X1_litIfCarried s m args below meth cd Q A D 6 18 [(0, .ref (h 0)), (1, vI k), (2, vI g), (3, vI (σ 1 k.toNat)), (4, vI (sm (fun c => bI (decide (bcl (LT c) (2 ^ k.toNat) ≠ 0) || litB (sU σ 1 k.toNat g) k.toNat c)) i)), (5, vI (i : Int))] [] (cw cI h (sU σ 1 k.toNat g) LT γ φ1) 0 0 := by
    intro d9
    induction d9 with
    | zero =>
      intro i φ1 hi hd
      exfalso; omega
    | succ d9 ih9 =>
      intro i φ1 hi hd
      refine z_iload C 5 dX1_litIfCarried_18 rfl ?_
      refine z_sipush C dX1_litIfCarried_20 (by decide) ?_
      refine z_icmp_ge C (tgt := 60) dX1_litIfCarried_23 (by decide) (by omega) (by omega) (fun c_23 => ?_) (fun c_23 => ?_)
      ·
        obtain rfl : i = 144 := by omega
        refine z_aload_n C 0 dX1_litIfCarried_60 rfl ?_
        refine z_iload_n C 1 dX1_litIfCarried_61 rfl ?_
        refine z_iload_n C 3 dX1_litIfCarried_62 rfl ?_
        refine z_callVv C (As := [vI k, vI (σ 1 k.toNat)]) (st := []) (y := yX1_putLamp) (w := wsX1_putLamp) (rm := rm_X1_putLamp) (wr := []) (k' := 0) (n' := 0) [0, 1, 2, 3, 4, 5, 6, 7, 8] [] 0 (c_X1_putLamp l D cI cJ h (sU σ 1 k.toNat g) LT γ φ1 k (σ 1 k.toNat) (by omega)) (cwV 2 C.1.2.2.2.2 gX1_litIfCarried_X1_putLamp rfl rfl rfl (by decide +kernel) ⟨Nat.le_of_ble_eq_true rfl, Nat.le_of_ble_eq_true rfl⟩) rfl rfl rfl rfl rfl (by decide) rfl rfl rfl rfl (Nat.le_of_ble_eq_true rfl) rfl rfl ⟨Nat.le_of_ble_eq_true rfl, Nat.le_of_ble_eq_true rfl⟩ dX1_litIfCarried_63 ?_
        rintro _ rfl
        refine z_ws (ws' := (cw cI h (sU (sU σ 1 k.toNat g) 1 k.toNat (σ 1 k.toNat)) LT γ φ1)) rfl ?_
        refine z_ws (ws' := (cw cI h σ LT γ φ1)) (by rw [sU_b]) ?_
        refine z_iload C 4 dX1_litIfCarried_66 rfl ?_
        exact hret _ _ _ _ dX1_litIfCarried_68 ⟨_, rfl, by rfl⟩
      ·
        refine z_aload_n C 0 dX1_litIfCarried_26 rfl ?_
        refine z_iload C 5 dX1_litIfCarried_27 rfl ?_
        refine z_callVi C (As := [vI (i : Int)]) (st := []) (y := yX1_lampsOn) (w := wsX1_lampsOn) (rm := rm_X1_lampsOn) (wr := []) (k' := 0) (n' := 0) [0, 1, 2, 3, 4, 5, 6, 7, 8] [] 0 (c_X1_lampsOn l D cI cJ h (sU σ 1 k.toNat g) LT γ φ1 (i : Int) (by omega)) (cwV 1 C.1.2.2.2.2 gX1_litIfCarried_X1_lampsOn rfl rfl rfl (by decide +kernel) ⟨Nat.le_of_ble_eq_true rfl, Nat.le_of_ble_eq_true rfl⟩) rfl rfl rfl rfl rfl (by decide) rfl rfl rfl rfl (Nat.le_of_ble_eq_true rfl) rfl rfl ⟨Nat.le_of_ble_eq_true rfl, Nat.le_of_ble_eq_true rfl⟩ dX1_litIfCarried_29 ?_
        rintro z_29 _ ⟨rfl, rfl⟩
        refine z_ws (ws' := (cw cI h ((sU σ 1 k.toNat g)) LT γ φ1)) rfl ?_
        refine z_st (v' := (LT i)) rfl ?_
        have b_34 := bits4_e (a := LT i) (k := k) (hL i) (by omega)
        refine z_iconst C dX1_litIfCarried_32 ?_
        refine z_iload_n C 1 dX1_litIfCarried_33 rfl ?_
        refine z_ishl C (r := 2 ^ k.toNat) dX1_litIfCarried_34 (b_34.1) ?_
        refine z_iconst C dX1_litIfCarried_35 ?_
        refine z_ixor C (r := -1 - 2 ^ k.toNat) dX1_litIfCarried_36 (b_34.2.1) ?_
        refine z_iand C (r := bcl (LT i) (2 ^ k.toNat)) dX1_litIfCarried_37 (b_34.2.2.1) ?_
        refine z_if_ne C (tgt := 51) dX1_litIfCarried_38 (by decide) (by omega) (fun c_38 => ?_) (fun c_38 => ?_)
        ·
          refine z_iinc C 4 [(4, vI ((sm (fun c => bI (decide (bcl (LT c) (2 ^ k.toNat) ≠ 0) || litB (sU σ 1 k.toNat g) k.toNat c)) i) + 1)), (0, .ref (h 0)), (1, vI k), (2, vI g), (3, vI (σ 1 k.toNat)), (5, vI (i : Int))] dX1_litIfCarried_51 rfl (by decide) rfl ?_
          refine z_iinc C 5 [(5, vI ((i : Int) + 1)), (4, vI ((sm (fun c => bI (decide (bcl (LT c) (2 ^ k.toNat) ≠ 0) || litB (sU σ 1 k.toNat g) k.toNat c)) i) + 1)), (0, .ref (h 0)), (1, vI k), (2, vI g), (3, vI (σ 1 k.toNat))] dX1_litIfCarried_54 rfl (by decide) rfl ?_
          refine z_goto C (tgt := 18) dX1_litIfCarried_57 (by decide) ?_
          refine z_chg 1 (x' := sm (fun c => bI (decide (bcl (LT c) (2 ^ k.toNat) ≠ 0) || litB (sU σ 1 k.toNat g) k.toNat c)) (i + 1)) (lv' := [(5, vI ((i : Int) + 1)), (4, vI (sm (fun c => bI (decide (bcl (LT c) (2 ^ k.toNat) ≠ 0) || litB (sU σ 1 k.toNat g) k.toNat c)) (i + 1))), (0, .ref (h 0)), (1, vI k), (2, vI g), (3, vI (σ 1 k.toNat))]) rfl (by first | exact sm_t (by rw [decide_eq_true c_38]; rfl) | exact sm_t (by rw [bz_t hz_45 c_48]; exact Bool.or_true _) | exact sm_f (by rw [bz_f hz_45 c_48, decide_eq_false (by omega)]; rfl)) rfl ?_
          refine z_chg 0 (x' := ((i + 1 : Nat) : Int)) (lv' := [(5, vI ((i + 1 : Nat) : Int)), (4, vI (sm (fun c => bI (decide (bcl (LT c) (2 ^ k.toNat) ≠ 0) || litB (sU σ 1 k.toNat g) k.toNat c)) (i + 1))), (0, .ref (h 0)), (1, vI k), (2, vI g), (3, vI (σ 1 k.toNat))]) rfl (by omega) rfl ?_
          refine z_sub (lv' := [(0, .ref (h 0)), (1, vI k), (2, vI g), (3, vI (σ 1 k.toNat)), (4, vI (sm (fun c => bI (decide (bcl (LT c) (2 ^ k.toNat) ≠ 0) || litB (sU σ 1 k.toNat g) k.toNat c)) (i + 1))), (5, vI ((i + 1 : Nat) : Int))]) [2, 3, 4, 5, 1, 0] rfl ?_
          exact ih9 (i + 1) φ1 (by omega) (by omega)
        ·
          refine z_aload_n C 0 dX1_litIfCarried_41 rfl ?_
          refine z_iload_n C 1 dX1_litIfCarried_42 rfl ?_
          refine z_iload C 5 dX1_litIfCarried_43 rfl ?_
          refine z_callVi C (As := [vI k, vI (i : Int)]) (st := []) (y := yX1_shinesOn) (w := wsX1_shinesOn) (rm := rm_X1_shinesOn) (wr := []) (k' := 0) (n' := 0) [0, 1, 2, 3, 4, 5, 6, 7, 8] [] 0 (c_X1_shinesOn l D cI cJ h (sU σ 1 k.toNat g) LT γ φ1 k (i : Int) (by rw [sU4]; omega) (by omega) hO1) (cwV 2 C.1.2.2.2.2 gX1_litIfCarried_X1_shinesOn rfl rfl rfl (by decide +kernel) ⟨Nat.le_of_ble_eq_true rfl, Nat.le_of_ble_eq_true rfl⟩) rfl rfl rfl rfl rfl (by decide) rfl rfl rfl rfl (Nat.le_of_ble_eq_true rfl) rfl rfl ⟨Nat.le_of_ble_eq_true rfl, Nat.le_of_ble_eq_true rfl⟩ dX1_litIfCarried_45 ?_
          rintro z_45 _ ⟨φ'_45, rfl, hz_45⟩
          refine z_ws (ws' := (cw cI h ((sU σ 1 k.toNat g)) LT γ φ'_45)) rfl ?_
          have r_45 : z_45 = 0 ∨ z_45 = 1 := by rw [hz_45]; exact bI_01 _
          have hz_45 : z_45 = bI (litB (sU σ 1 k.toNat g) k.toNat i) := hz_45
          refine z_if_eq C (tgt := 54) dX1_litIfCarried_48 (by decide) (by omega) (fun c_48 => ?_) (fun c_48 => ?_)
          ·
            refine z_iinc C 5 [(5, vI ((i : Int) + 1)), (0, .ref (h 0)), (1, vI k), (2, vI g), (3, vI (σ 1 k.toNat)), (4, vI (sm (fun c => bI (decide (bcl (LT c) (2 ^ k.toNat) ≠ 0) || litB (sU σ 1 k.toNat g) k.toNat c)) i))] dX1_litIfCarried_54 rfl (by decide) rfl ?_
            refine z_goto C (tgt := 18) dX1_litIfCarried_57 (by decide) ?_
            refine z_chg 5 (x' := sm (fun c => bI (decide (bcl (LT c) (2 ^ k.toNat) ≠ 0) || litB (sU σ 1 k.toNat g) k.toNat c)) (i + 1)) (lv' := [(5, vI ((i : Int) + 1)), (0, .ref (h 0)), (1, vI k), (2, vI g), (3, vI (σ 1 k.toNat)), (4, vI (sm (fun c => bI (decide (bcl (LT c) (2 ^ k.toNat) ≠ 0) || litB (sU σ 1 k.toNat g) k.toNat c)) (i + 1)))]) rfl (by first | exact sm_t (by rw [decide_eq_true c_38]; rfl) | exact sm_t (by rw [bz_t hz_45 c_48]; exact Bool.or_true _) | exact sm_f (by rw [bz_f hz_45 c_48, decide_eq_false (by omega)]; rfl)) rfl ?_
            refine z_chg 0 (x' := ((i + 1 : Nat) : Int)) (lv' := [(5, vI ((i + 1 : Nat) : Int)), (0, .ref (h 0)), (1, vI k), (2, vI g), (3, vI (σ 1 k.toNat)), (4, vI (sm (fun c => bI (decide (bcl (LT c) (2 ^ k.toNat) ≠ 0) || litB (sU σ 1 k.toNat g) k.toNat c)) (i + 1)))]) rfl (by omega) rfl ?_
            refine z_sub (lv' := [(0, .ref (h 0)), (1, vI k), (2, vI g), (3, vI (σ 1 k.toNat)), (4, vI (sm (fun c => bI (decide (bcl (LT c) (2 ^ k.toNat) ≠ 0) || litB (sU σ 1 k.toNat g) k.toNat c)) (i + 1))), (5, vI ((i + 1 : Nat) : Int))]) [1, 2, 3, 4, 5, 0] rfl ?_
            exact ih9 (i + 1) φ'_45 (by omega) (by omega)
          ·
            refine z_iinc C 4 [(4, vI ((sm (fun c => bI (decide (bcl (LT c) (2 ^ k.toNat) ≠ 0) || litB (sU σ 1 k.toNat g) k.toNat c)) i) + 1)), (0, .ref (h 0)), (1, vI k), (2, vI g), (3, vI (σ 1 k.toNat)), (5, vI (i : Int))] dX1_litIfCarried_51 rfl (by decide) rfl ?_
            refine z_iinc C 5 [(5, vI ((i : Int) + 1)), (4, vI ((sm (fun c => bI (decide (bcl (LT c) (2 ^ k.toNat) ≠ 0) || litB (sU σ 1 k.toNat g) k.toNat c)) i) + 1)), (0, .ref (h 0)), (1, vI k), (2, vI g), (3, vI (σ 1 k.toNat))] dX1_litIfCarried_54 rfl (by decide) rfl ?_
            refine z_goto C (tgt := 18) dX1_litIfCarried_57 (by decide) ?_
            refine z_chg 1 (x' := sm (fun c => bI (decide (bcl (LT c) (2 ^ k.toNat) ≠ 0) || litB (sU σ 1 k.toNat g) k.toNat c)) (i + 1)) (lv' := [(5, vI ((i : Int) + 1)), (4, vI (sm (fun c => bI (decide (bcl (LT c) (2 ^ k.toNat) ≠ 0) || litB (sU σ 1 k.toNat g) k.toNat c)) (i + 1))), (0, .ref (h 0)), (1, vI k), (2, vI g), (3, vI (σ 1 k.toNat))]) rfl (by first | exact sm_t (by rw [decide_eq_true c_38]; rfl) | exact sm_t (by rw [bz_t hz_45 c_48]; exact Bool.or_true _) | exact sm_f (by rw [bz_f hz_45 c_48, decide_eq_false (by omega)]; rfl)) rfl ?_
            refine z_chg 0 (x' := ((i + 1 : Nat) : Int)) (lv' := [(5, vI ((i + 1 : Nat) : Int)), (4, vI (sm (fun c => bI (decide (bcl (LT c) (2 ^ k.toNat) ≠ 0) || litB (sU σ 1 k.toNat g) k.toNat c)) (i + 1))), (0, .ref (h 0)), (1, vI k), (2, vI g), (3, vI (σ 1 k.toNat))]) rfl (by omega) rfl ?_
            refine z_sub (lv' := [(0, .ref (h 0)), (1, vI k), (2, vI g), (3, vI (σ 1 k.toNat)), (4, vI (sm (fun c => bI (decide (bcl (LT c) (2 ^ k.toNat) ≠ 0) || litB (sU σ 1 k.toNat g) k.toNat c)) (i + 1))), (5, vI ((i + 1 : Nat) : Int))]) [2, 3, 4, 5, 1, 0] rfl ?_
            exact ih9 (i + 1) φ'_45 (by omega) (by omega)
  refine z_sub (lv' := [(0, .ref (h 0)), (1, vI k), (2, vI g), (3, vI (σ 1 k.toNat)), (4, vI 0), (5, vI 0)]) [3, 4, 5, 2, 1, 0] rfl ?_
  exact L_18 (144 + 1) 0 φ (Nat.zero_le _) (by omega)

set_option maxRecDepth 100000 in
theorem inU_X1_X1_watchersAt : ∀ w ∈ u_ws RX1 TX1 11, w ∈ wsX1_watchersAt := by decide +kernel
abbrev rm_X1_watchersAt : Room := { frames := 1, cells := 0, slots := 0, locals := 21 }
set_option maxHeartbeats 4000000 in
set_option maxRecDepth 100000 in
theorem c_X1_watchersAt (l : Launch) (D : va_G) (cI cJ : ClassId) (h : Nat → Nat) (σ : YS) (LT : Nat → Int) (γ : YS) (φ : Nat → Int) (c : Int) (hc : 0 ≤ c ∧ c < 144) (hO : Ok σ) : Ci l yX1_watchersAt wsX1_watchersAt rm_X1_watchersAt D [(cI, .int), (cJ, .long)] [.ref (h 0), vI c] (cw cI h σ LT γ φ) (fun z u => u = (cw cI h σ LT γ φ) ∧ z = sm (fun w => bI (decide (σ 3 w = c))) (nWa σ)) := by
  refine z_ofi (own := RX1) (cc := cX1_watchersAt) (maxL := 4) (lv := [(0, .ref (h 0)), (1, vI c)]) (by decide) rfl rfl (Nat.le_of_ble_eq_true rfl) rfl ?_
  intro p e s m args below meth cd Q A C hret
  have hn := hO.1
  have hm := hO.2.1
  have en := nLa_e hO
  have em := nWa_e hO
  refine z_iconst C dX1_watchersAt_0 ?_
  refine z_istore_n C [(2, vI 0), (0, .ref (h 0)), (1, vI c)] dX1_watchersAt_1 (by decide) rfl ?_
  refine z_iconst C dX1_watchersAt_2 ?_
  refine z_istore_n C [(3, vI 0), (2, vI 0), (0, .ref (h 0)), (1, vI c)] dX1_watchersAt_3 (by decide) rfl ?_
  have L_4 : ∀ (d9 i : Nat) (hi : i ≤ (nWa σ)) (hd : (nWa σ) + 1 ≤ i + d9), Zs p l e rm_X1_watchersAt s m args below meth cd Q A D 4 4 [(0, .ref (h 0)), (1, vI c), (2, vI (sm (fun w => bI (decide (σ 3 w = c))) i)), (3, vI (i : Int))] [] (cw cI h σ LT γ φ) 0 0 := by
    intro d9
    induction d9 with
    | zero =>
      intro i hi hd
      exfalso; omega
    | succ d9 ih9 =>
      intro i hi hd
      refine z_iload_n C 3 dX1_watchersAt_4 rfl ?_
      refine z_aload_n C 0 dX1_watchersAt_5 rfl ?_
      refine z_get C (v := vI (σ 4 1)) (ref := "ShadowWalls") (T := TX1) (N := 11) (ci := 1) 0 9 inU_X1_X1_watchersAt rfl rfl (by decide) (by decide +kernel) (fun _ h9 => h9) rfl dX1_watchersAt_6 ?_
      refine z_icmp_ge C (tgt := 30) dX1_watchersAt_9 (by decide) (by omega) (by omega) (fun c_9 => ?_) (fun c_9 => ?_)
      ·
        obtain rfl : i = nWa σ := by omega
        refine z_iload_n C 2 dX1_watchersAt_30 rfl ?_
        exact hret _ _ _ _ dX1_watchersAt_31 ⟨rfl, by rfl⟩
      ·
        refine z_aload_n C 0 dX1_watchersAt_12 rfl ?_
        refine z_iload_n C 3 dX1_watchersAt_13 rfl ?_
        refine z_callVi C (As := [vI (i : Int)]) (st := []) (y := yX1_cellOfWatcher) (w := wsX1_cellOfWatcher) (rm := rm_X1_cellOfWatcher) (wr := []) (k' := 0) (n' := 0) [0, 1, 2, 3, 4, 5, 6, 7, 8] [] 0 (c_X1_cellOfWatcher l D cI cJ h σ LT γ φ (i : Int) (by omega)) (cwV 1 C.1.2.2.2.2 gX1_watchersAt_X1_cellOfWatcher rfl rfl rfl (by decide +kernel) ⟨Nat.le_of_ble_eq_true rfl, Nat.le_of_ble_eq_true rfl⟩) rfl rfl rfl rfl rfl (by decide) rfl rfl rfl rfl (Nat.le_of_ble_eq_true rfl) rfl rfl ⟨Nat.le_of_ble_eq_true rfl, Nat.le_of_ble_eq_true rfl⟩ dX1_watchersAt_14 ?_
        rintro z_14 _ ⟨rfl, rfl⟩
        refine z_ws (ws' := (cw cI h σ LT γ φ)) rfl ?_
        refine z_st (v' := (σ 3 i)) rfl ?_
        have r_14 := hO.2.2.2.1 i (by omega)
        refine z_iload_n C 1 dX1_watchersAt_17 rfl ?_
        refine z_icmp_ne C (tgt := 24) dX1_watchersAt_18 (by decide) (by omega) (by omega) (fun c_18 => ?_) (fun c_18 => ?_)
        ·
          refine z_iinc C 3 [(3, vI ((i : Int) + 1)), (0, .ref (h 0)), (1, vI c), (2, vI (sm (fun w => bI (decide (σ 3 w = c))) i))] dX1_watchersAt_24 rfl (by decide) rfl ?_
          refine z_goto C (tgt := 4) dX1_watchersAt_27 (by decide) ?_
          refine z_chg 3 (x' := sm (fun w => bI (decide (σ 3 w = c))) (i + 1)) (lv' := [(3, vI ((i : Int) + 1)), (0, .ref (h 0)), (1, vI c), (2, vI (sm (fun w => bI (decide (σ 3 w = c))) (i + 1)))]) rfl (by first | exact sm_t (by simp; omega) | exact sm_f (by simp; omega)) rfl ?_
          refine z_chg 0 (x' := ((i + 1 : Nat) : Int)) (lv' := [(3, vI ((i + 1 : Nat) : Int)), (0, .ref (h 0)), (1, vI c), (2, vI (sm (fun w => bI (decide (σ 3 w = c))) (i + 1)))]) rfl (by omega) rfl ?_
          refine z_sub (lv' := [(0, .ref (h 0)), (1, vI c), (2, vI (sm (fun w => bI (decide (σ 3 w = c))) (i + 1))), (3, vI ((i + 1 : Nat) : Int))]) [1, 2, 3, 0] rfl ?_
          exact ih9 (i + 1) (by omega) (by omega)
        ·
          refine z_iinc C 2 [(2, vI ((sm (fun w => bI (decide (σ 3 w = c))) i) + 1)), (0, .ref (h 0)), (1, vI c), (3, vI (i : Int))] dX1_watchersAt_21 rfl (by decide) rfl ?_
          refine z_iinc C 3 [(3, vI ((i : Int) + 1)), (2, vI ((sm (fun w => bI (decide (σ 3 w = c))) i) + 1)), (0, .ref (h 0)), (1, vI c)] dX1_watchersAt_24 rfl (by decide) rfl ?_
          refine z_goto C (tgt := 4) dX1_watchersAt_27 (by decide) ?_
          refine z_chg 1 (x' := sm (fun w => bI (decide (σ 3 w = c))) (i + 1)) (lv' := [(3, vI ((i : Int) + 1)), (2, vI (sm (fun w => bI (decide (σ 3 w = c))) (i + 1))), (0, .ref (h 0)), (1, vI c)]) rfl (by first | exact sm_t (by simp; omega) | exact sm_f (by simp; omega)) rfl ?_
          refine z_chg 0 (x' := ((i + 1 : Nat) : Int)) (lv' := [(3, vI ((i + 1 : Nat) : Int)), (2, vI (sm (fun w => bI (decide (σ 3 w = c))) (i + 1))), (0, .ref (h 0)), (1, vI c)]) rfl (by omega) rfl ?_
          refine z_sub (lv' := [(0, .ref (h 0)), (1, vI c), (2, vI (sm (fun w => bI (decide (σ 3 w = c))) (i + 1))), (3, vI ((i + 1 : Nat) : Int))]) [2, 3, 1, 0] rfl ?_
          exact ih9 (i + 1) (by omega) (by omega)
  refine z_sub (lv' := [(0, .ref (h 0)), (1, vI c), (2, vI 0), (3, vI 0)]) [2, 3, 1, 0] rfl ?_
  exact L_4 ((nWa σ) + 1) 0 (Nat.zero_le _) (by omega)

abbrev rm_X1_isSeenBy : Room := { frames := 3, cells := 0, slots := 0, locals := 70 }
set_option maxHeartbeats 4000000 in
set_option maxRecDepth 100000 in
theorem c_X1_isSeenBy (l : Launch) (D : va_G) (cI cJ : ClassId) (h : Nat → Nat) (σ : YS) (LT : Nat → Int) (γ : YS) (φ : Nat → Int) (w c : Int) (hw : 0 ≤ w ∧ w < σ 4 1) (hc : 0 ≤ c ∧ c < 144) (hO : Ok σ) (hL : LR LT) : Ci l yX1_isSeenBy wsX1_isSeenBy rm_X1_isSeenBy D [(cI, .int), (cJ, .long)] [.ref (h 0), vI w, vI c] (cw cI h σ LT γ φ) (fun z u => ∃ φ' : Nat → Int, u = (cw cI h σ LT γ φ') ∧ z = bI (seeB σ LT w.toNat c.toNat)) := by
  refine z_ofz (own := RX1) (cc := cX1_isSeenBy) (maxL := 3) (lv := [(0, .ref (h 0)), (1, vI w), (2, vI c)]) (by decide) rfl rfl (Nat.le_of_ble_eq_true rfl) rfl ?_
  intro p e s m args below meth cd Q A C hret
  have hn := hO.1
  have hm := hO.2.1
  have en := nLa_e hO
  have em := nWa_e hO
  have h1 := hO.2.2.2.1 w.toNat (by omega)
  have ec : ((c.toNat : Nat) : Int) = c := Int.toNat_of_nonneg hc.1
  refine z_aload_n C 0 dX1_isSeenBy_0 rfl ?_
  refine z_iload_n C 2 dX1_isSeenBy_1 rfl ?_
  refine z_callVi C (As := [vI c]) (st := []) (y := yX1_isLit) (w := wsX1_isLit) (rm := rm_X1_isLit) (wr := []) (k' := 0) (n' := 0) [0, 1, 2, 3, 4, 5, 6, 7, 8] [] 0 (c_X1_isLit l D cI cJ h σ LT γ φ c (by omega) hL) (cwV 1 C.1.2.2.2.2 gX1_isSeenBy_X1_isLit rfl rfl rfl (by decide +kernel) ⟨Nat.le_of_ble_eq_true rfl, Nat.le_of_ble_eq_true rfl⟩) rfl rfl rfl rfl rfl (by decide) rfl rfl rfl rfl (Nat.le_of_ble_eq_true rfl) rfl rfl ⟨Nat.le_of_ble_eq_true rfl, Nat.le_of_ble_eq_true rfl⟩ dX1_isSeenBy_2 ?_
  rintro z_2 _ ⟨rfl, hz_2⟩
  refine z_ws (ws' := (cw cI h σ LT γ φ)) rfl ?_
  have r_2 : z_2 = 0 ∨ z_2 = 1 := by rw [hz_2]; exact bI_01 _
  have hz_2 : z_2 = bI (decide (LT c.toNat ≠ 0)) := hz_2
  refine z_if_eq C (tgt := 27) dX1_isSeenBy_5 (by decide) (by omega) (fun c_5 => ?_) (fun c_5 => ?_)
  ·
    have hv : seeB σ LT w.toNat c.toNat = false := by unfold seeB; rw [bz_f hz_2 c_5]; rfl
    refine z_iconst C dX1_isSeenBy_27 ?_
    exact hret _ _ _ _ dX1_isSeenBy_28 (Or.inl rfl) ⟨_, rfl, by first | exact (bI_f hv).symm | exact (bI_t hv).symm⟩
  ·
    refine z_aload_n C 0 dX1_isSeenBy_8 rfl ?_
    refine z_aload_n C 0 dX1_isSeenBy_9 rfl ?_
    refine z_iload_n C 1 dX1_isSeenBy_10 rfl ?_
    refine z_callVi C (As := [vI w]) (st := [.ref (h 0)]) (y := yX1_cellOfWatcher) (w := wsX1_cellOfWatcher) (rm := rm_X1_cellOfWatcher) (wr := []) (k' := 0) (n' := 0) [0, 1, 2, 3, 4, 5, 6, 7, 8] [] 0 (c_X1_cellOfWatcher l D cI cJ h σ LT γ φ w (by omega)) (cwV 1 C.1.2.2.2.2 gX1_isSeenBy_X1_cellOfWatcher rfl rfl rfl (by decide +kernel) ⟨Nat.le_of_ble_eq_true rfl, Nat.le_of_ble_eq_true rfl⟩) rfl rfl rfl rfl rfl (by decide) rfl rfl rfl rfl (Nat.le_of_ble_eq_true rfl) rfl rfl ⟨Nat.le_of_ble_eq_true rfl, Nat.le_of_ble_eq_true rfl⟩ dX1_isSeenBy_11 ?_
    rintro z_11 _ ⟨rfl, rfl⟩
    refine z_ws (ws' := (cw cI h σ LT γ φ)) rfl ?_
    refine z_st (v' := (σ 3 w.toNat)) rfl ?_
    refine z_iload_n C 2 dX1_isSeenBy_14 rfl ?_
    refine z_callVi C (As := [vI (σ 3 w.toNat), vI c]) (st := []) (y := yX1_stoppedBetween) (w := wsX1_stoppedBetween) (rm := rm_X1_stoppedBetween) (wr := []) (k' := 0) (n' := 0) [0, 1, 2, 3, 4, 5, 6, 7, 8] [] 0 (c_X1_stoppedBetween l D cI cJ h σ LT γ φ (σ 3 w.toNat) c (by omega) (by omega) hO) (cwV 2 C.1.2.2.2.2 gX1_isSeenBy_X1_stoppedBetween rfl rfl rfl (by decide +kernel) ⟨Nat.le_of_ble_eq_true rfl, Nat.le_of_ble_eq_true rfl⟩) rfl rfl rfl rfl rfl (by decide) rfl rfl rfl rfl (Nat.le_of_ble_eq_true rfl) rfl rfl ⟨Nat.le_of_ble_eq_true rfl, Nat.le_of_ble_eq_true rfl⟩ dX1_isSeenBy_15 ?_
    rintro z_15 _ ⟨φ'_15, rfl, hz_15⟩
    refine z_ws (ws' := (cw cI h σ LT γ φ'_15)) rfl ?_
    have r_15 := (ray_r (σ 0) ((σ 3 w.toNat)) (c)).1
    rw [← hz_15] at r_15
    have hz_15 : z_15 = (ray (σ 0) (σ 3 w.toNat) c).1 := hz_15
    refine z_iconst C dX1_isSeenBy_18 ?_
    have b_19 := bits_e (a := z_15) (b := 2) (by omega) (by omega)
    refine z_iand C (r := band z_15 2) dX1_isSeenBy_19 (b_19.1.1) ?_
    refine z_if_ne C (tgt := 27) dX1_isSeenBy_20 (by decide) (by omega) (fun c_20 => ?_) (fun c_20 => ?_)
    ·
      rw [hz_15] at c_20
      have hv : seeB σ LT w.toNat c.toNat = false := by unfold seeB; rw [ec, decide_eq_false c_20]; exact Bool.and_false _
      refine z_iconst C dX1_isSeenBy_27 ?_
      exact hret _ _ _ _ dX1_isSeenBy_28 (Or.inl rfl) ⟨_, rfl, by first | exact (bI_f hv).symm | exact (bI_t hv).symm⟩
    ·
      rw [hz_15] at c_20
      have hv : seeB σ LT w.toNat c.toNat = true := by unfold seeB; rw [ec, bz_t hz_2 c_5, decide_eq_true c_20]; rfl
      refine z_iconst C dX1_isSeenBy_23 ?_
      refine z_goto C (tgt := 28) dX1_isSeenBy_24 (by decide) ?_
      exact hret _ _ _ _ dX1_isSeenBy_28 (Or.inr rfl) ⟨_, rfl, by first | exact (bI_f hv).symm | exact (bI_t hv).symm⟩

set_option maxRecDepth 100000 in
theorem inU_X1_X1_watchersSeeing : ∀ w ∈ u_ws RX1 TX1 11, w ∈ wsX1_watchersSeeing := by decide +kernel
abbrev rm_X1_watchersSeeing : Room := { frames := 4, cells := 0, slots := 0, locals := 92 }
set_option maxHeartbeats 4000000 in
set_option maxRecDepth 100000 in
theorem c_X1_watchersSeeing (l : Launch) (D : va_G) (cI cJ : ClassId) (h : Nat → Nat) (σ : YS) (LT : Nat → Int) (γ : YS) (φ : Nat → Int) (c : Int) (hc : 0 ≤ c ∧ c < 144) (hO : Ok σ) (hL : LR LT) : Ci l yX1_watchersSeeing wsX1_watchersSeeing rm_X1_watchersSeeing D [(cI, .int), (cJ, .long)] [.ref (h 0), vI c] (cw cI h σ LT γ φ) (fun z u => ∃ φ' : Nat → Int, u = (cw cI h σ LT γ φ') ∧ z = sm (fun o => bI (seeB σ LT o c.toNat)) (nWa σ)) := by
  refine z_ofi (own := RX1) (cc := cX1_watchersSeeing) (maxL := 4) (lv := [(0, .ref (h 0)), (1, vI c)]) (by decide) rfl rfl (Nat.le_of_ble_eq_true rfl) rfl ?_
  intro p e s m args below meth cd Q A C hret
  have hn := hO.1
  have hm := hO.2.1
  have en := nLa_e hO
  have em := nWa_e hO
  refine z_iconst C dX1_watchersSeeing_0 ?_
  refine z_istore_n C [(2, vI 0), (0, .ref (h 0)), (1, vI c)] dX1_watchersSeeing_1 (by decide) rfl ?_
  refine z_iconst C dX1_watchersSeeing_2 ?_
  refine z_istore_n C [(3, vI 0), (2, vI 0), (0, .ref (h 0)), (1, vI c)] dX1_watchersSeeing_3 (by decide) rfl ?_
  have L_4 : ∀ (d9 i : Nat) (φ1 : Nat → Int) (hi : i ≤ (nWa σ)) (hd : (nWa σ) + 1 ≤ i + d9), Zs p l e rm_X1_watchersSeeing s m args below meth cd Q A D 4 4 [(0, .ref (h 0)), (1, vI c), (2, vI (sm (fun o => bI (seeB σ LT o c.toNat)) i)), (3, vI (i : Int))] [] (cw cI h σ LT γ φ1) 0 0 := by
    intro d9
    induction d9 with
    | zero =>
      intro i φ1 hi hd
      exfalso; omega
    | succ d9 ih9 =>
      intro i φ1 hi hd
      refine z_iload_n C 3 dX1_watchersSeeing_4 rfl ?_
      refine z_aload_n C 0 dX1_watchersSeeing_5 rfl ?_
      refine z_get C (v := vI (σ 4 1)) (ref := "ShadowWalls") (T := TX1) (N := 11) (ci := 1) 0 9 inU_X1_X1_watchersSeeing rfl rfl (by decide) (by decide +kernel) (fun _ h9 => h9) rfl dX1_watchersSeeing_6 ?_
      refine z_icmp_ge C (tgt := 30) dX1_watchersSeeing_9 (by decide) (by omega) (by omega) (fun c_9 => ?_) (fun c_9 => ?_)
      ·
        obtain rfl : i = (nWa σ) := by omega
        refine z_iload_n C 2 dX1_watchersSeeing_30 rfl ?_
        exact hret _ _ _ _ dX1_watchersSeeing_31 ⟨_, rfl, by rfl⟩
      ·
        refine z_aload_n C 0 dX1_watchersSeeing_12 rfl ?_
        refine z_iload_n C 3 dX1_watchersSeeing_13 rfl ?_
        refine z_iload_n C 1 dX1_watchersSeeing_14 rfl ?_
        refine z_callVi C (As := [vI (i : Int), vI c]) (st := []) (y := yX1_isSeenBy) (w := wsX1_isSeenBy) (rm := rm_X1_isSeenBy) (wr := []) (k' := 0) (n' := 0) [0, 1, 2, 3, 4, 5, 6, 7, 8] [] 0 (c_X1_isSeenBy l D cI cJ h σ LT γ φ1 (i : Int) c (by omega) (by omega) hO hL) (cwV 2 C.1.2.2.2.2 gX1_watchersSeeing_X1_isSeenBy rfl rfl rfl (by decide +kernel) ⟨Nat.le_of_ble_eq_true rfl, Nat.le_of_ble_eq_true rfl⟩) rfl rfl rfl rfl rfl (by decide) rfl rfl rfl rfl (Nat.le_of_ble_eq_true rfl) rfl rfl ⟨Nat.le_of_ble_eq_true rfl, Nat.le_of_ble_eq_true rfl⟩ dX1_watchersSeeing_15 ?_
        rintro z_15 _ ⟨φ'_15, rfl, hz_15⟩
        refine z_ws (ws' := (cw cI h σ LT γ φ'_15)) rfl ?_
        have r_15 : z_15 = 0 ∨ z_15 = 1 := by rw [hz_15]; exact bI_01 _
        have hz_15 : z_15 = bI (seeB σ LT i c.toNat) := hz_15
        refine z_if_eq C (tgt := 24) dX1_watchersSeeing_18 (by decide) (by omega) (fun c_18 => ?_) (fun c_18 => ?_)
        ·
          refine z_iinc C 3 [(3, vI ((i : Int) + 1)), (0, .ref (h 0)), (1, vI c), (2, vI (sm (fun o => bI (seeB σ LT o c.toNat)) i))] dX1_watchersSeeing_24 rfl (by decide) rfl ?_
          refine z_goto C (tgt := 4) dX1_watchersSeeing_27 (by decide) ?_
          refine z_chg 3 (x' := sm (fun o => bI (seeB σ LT o c.toNat)) (i + 1)) (lv' := [(3, vI ((i : Int) + 1)), (0, .ref (h 0)), (1, vI c), (2, vI (sm (fun o => bI (seeB σ LT o c.toNat)) (i + 1)))]) rfl (by first | exact sm_t (bz_t hz_15 c_18) | exact sm_f (bz_f hz_15 c_18)) rfl ?_
          refine z_chg 0 (x' := ((i + 1 : Nat) : Int)) (lv' := [(3, vI ((i + 1 : Nat) : Int)), (0, .ref (h 0)), (1, vI c), (2, vI (sm (fun o => bI (seeB σ LT o c.toNat)) (i + 1)))]) rfl (by omega) rfl ?_
          refine z_sub (lv' := [(0, .ref (h 0)), (1, vI c), (2, vI (sm (fun o => bI (seeB σ LT o c.toNat)) (i + 1))), (3, vI ((i + 1 : Nat) : Int))]) [1, 2, 3, 0] rfl ?_
          exact ih9 (i + 1) φ'_15 (by omega) (by omega)
        ·
          refine z_iinc C 2 [(2, vI ((sm (fun o => bI (seeB σ LT o c.toNat)) i) + 1)), (0, .ref (h 0)), (1, vI c), (3, vI (i : Int))] dX1_watchersSeeing_21 rfl (by decide) rfl ?_
          refine z_iinc C 3 [(3, vI ((i : Int) + 1)), (2, vI ((sm (fun o => bI (seeB σ LT o c.toNat)) i) + 1)), (0, .ref (h 0)), (1, vI c)] dX1_watchersSeeing_24 rfl (by decide) rfl ?_
          refine z_goto C (tgt := 4) dX1_watchersSeeing_27 (by decide) ?_
          refine z_chg 1 (x' := sm (fun o => bI (seeB σ LT o c.toNat)) (i + 1)) (lv' := [(3, vI ((i : Int) + 1)), (2, vI (sm (fun o => bI (seeB σ LT o c.toNat)) (i + 1))), (0, .ref (h 0)), (1, vI c)]) rfl (by first | exact sm_t (bz_t hz_15 c_18) | exact sm_f (bz_f hz_15 c_18)) rfl ?_
          refine z_chg 0 (x' := ((i + 1 : Nat) : Int)) (lv' := [(3, vI ((i + 1 : Nat) : Int)), (2, vI (sm (fun o => bI (seeB σ LT o c.toNat)) (i + 1))), (0, .ref (h 0)), (1, vI c)]) rfl (by omega) rfl ?_
          refine z_sub (lv' := [(0, .ref (h 0)), (1, vI c), (2, vI (sm (fun o => bI (seeB σ LT o c.toNat)) (i + 1))), (3, vI ((i + 1 : Nat) : Int))]) [2, 3, 1, 0] rfl ?_
          exact ih9 (i + 1) φ'_15 (by omega) (by omega)
  refine z_sub (lv' := [(0, .ref (h 0)), (1, vI c), (2, vI 0), (3, vI 0)]) [2, 3, 1, 0] rfl ?_
  exact L_4 ((nWa σ) + 1) 0 φ (Nat.zero_le _) (by omega)

abbrev rm_X1_cellsSeenBy : Room := { frames := 4, cells := 0, slots := 0, locals := 92 }
set_option maxHeartbeats 4000000 in
set_option maxRecDepth 100000 in
theorem c_X1_cellsSeenBy (l : Launch) (D : va_G) (cI cJ : ClassId) (h : Nat → Nat) (σ : YS) (LT : Nat → Int) (γ : YS) (φ : Nat → Int) (w : Int) (hw : 0 ≤ w ∧ w < σ 4 1) (hO : Ok σ) (hL : LR LT) : Ci l yX1_cellsSeenBy wsX1_cellsSeenBy rm_X1_cellsSeenBy D [(cI, .int), (cJ, .long)] [.ref (h 0), vI w] (cw cI h σ LT γ φ) (fun z u => ∃ φ' : Nat → Int, u = (cw cI h σ LT γ φ') ∧ z = sm (fun o => bI (seeB σ LT w.toNat o)) 144) := by
  refine z_ofi (own := RX1) (cc := cX1_cellsSeenBy) (maxL := 4) (lv := [(0, .ref (h 0)), (1, vI w)]) (by decide) rfl rfl (Nat.le_of_ble_eq_true rfl) rfl ?_
  intro p e s m args below meth cd Q A C hret
  have hn := hO.1
  have hm := hO.2.1
  have en := nLa_e hO
  have em := nWa_e hO
  refine z_iconst C dX1_cellsSeenBy_0 ?_
  refine z_istore_n C [(2, vI 0), (0, .ref (h 0)), (1, vI w)] dX1_cellsSeenBy_1 (by decide) rfl ?_
  refine z_iconst C dX1_cellsSeenBy_2 ?_
  refine z_istore_n C [(3, vI 0), (2, vI 0), (0, .ref (h 0)), (1, vI w)] dX1_cellsSeenBy_3 (by decide) rfl ?_
  have L_4 : ∀ (d9 i : Nat) (φ1 : Nat → Int) (hi : i ≤ 144) (hd : 144 + 1 ≤ i + d9), Zs p l e rm_X1_cellsSeenBy s m args below meth cd Q A D 4 4 [(0, .ref (h 0)), (1, vI w), (2, vI (sm (fun o => bI (seeB σ LT w.toNat o)) i)), (3, vI (i : Int))] [] (cw cI h σ LT γ φ1) 0 0 := by
    intro d9
    induction d9 with
    | zero =>
      intro i φ1 hi hd
      exfalso; omega
    | succ d9 ih9 =>
      intro i φ1 hi hd
      refine z_iload_n C 3 dX1_cellsSeenBy_4 rfl ?_
      refine z_sipush C dX1_cellsSeenBy_5 (by decide) ?_
      refine z_icmp_ge C (tgt := 29) dX1_cellsSeenBy_8 (by decide) (by omega) (by omega) (fun c_8 => ?_) (fun c_8 => ?_)
      ·
        obtain rfl : i = 144 := by omega
        refine z_iload_n C 2 dX1_cellsSeenBy_29 rfl ?_
        exact hret _ _ _ _ dX1_cellsSeenBy_30 ⟨_, rfl, by rfl⟩
      ·
        refine z_aload_n C 0 dX1_cellsSeenBy_11 rfl ?_
        refine z_iload_n C 1 dX1_cellsSeenBy_12 rfl ?_
        refine z_iload_n C 3 dX1_cellsSeenBy_13 rfl ?_
        refine z_callVi C (As := [vI w, vI (i : Int)]) (st := []) (y := yX1_isSeenBy) (w := wsX1_isSeenBy) (rm := rm_X1_isSeenBy) (wr := []) (k' := 0) (n' := 0) [0, 1, 2, 3, 4, 5, 6, 7, 8] [] 0 (c_X1_isSeenBy l D cI cJ h σ LT γ φ1 w (i : Int) (by omega) (by omega) hO hL) (cwV 2 C.1.2.2.2.2 gX1_cellsSeenBy_X1_isSeenBy rfl rfl rfl (by decide +kernel) ⟨Nat.le_of_ble_eq_true rfl, Nat.le_of_ble_eq_true rfl⟩) rfl rfl rfl rfl rfl (by decide) rfl rfl rfl rfl (Nat.le_of_ble_eq_true rfl) rfl rfl ⟨Nat.le_of_ble_eq_true rfl, Nat.le_of_ble_eq_true rfl⟩ dX1_cellsSeenBy_14 ?_
        rintro z_14 _ ⟨φ'_14, rfl, hz_14⟩
        refine z_ws (ws' := (cw cI h σ LT γ φ'_14)) rfl ?_
        have r_14 : z_14 = 0 ∨ z_14 = 1 := by rw [hz_14]; exact bI_01 _
        have hz_14 : z_14 = bI (seeB σ LT w.toNat i) := hz_14
        refine z_if_eq C (tgt := 23) dX1_cellsSeenBy_17 (by decide) (by omega) (fun c_17 => ?_) (fun c_17 => ?_)
        ·
          refine z_iinc C 3 [(3, vI ((i : Int) + 1)), (0, .ref (h 0)), (1, vI w), (2, vI (sm (fun o => bI (seeB σ LT w.toNat o)) i))] dX1_cellsSeenBy_23 rfl (by decide) rfl ?_
          refine z_goto C (tgt := 4) dX1_cellsSeenBy_26 (by decide) ?_
          refine z_chg 3 (x' := sm (fun o => bI (seeB σ LT w.toNat o)) (i + 1)) (lv' := [(3, vI ((i : Int) + 1)), (0, .ref (h 0)), (1, vI w), (2, vI (sm (fun o => bI (seeB σ LT w.toNat o)) (i + 1)))]) rfl (by first | exact sm_t (bz_t hz_14 c_17) | exact sm_f (bz_f hz_14 c_17)) rfl ?_
          refine z_chg 0 (x' := ((i + 1 : Nat) : Int)) (lv' := [(3, vI ((i + 1 : Nat) : Int)), (0, .ref (h 0)), (1, vI w), (2, vI (sm (fun o => bI (seeB σ LT w.toNat o)) (i + 1)))]) rfl (by omega) rfl ?_
          refine z_sub (lv' := [(0, .ref (h 0)), (1, vI w), (2, vI (sm (fun o => bI (seeB σ LT w.toNat o)) (i + 1))), (3, vI ((i + 1 : Nat) : Int))]) [1, 2, 3, 0] rfl ?_
          exact ih9 (i + 1) φ'_14 (by omega) (by omega)
        ·
          refine z_iinc C 2 [(2, vI ((sm (fun o => bI (seeB σ LT w.toNat o)) i) + 1)), (0, .ref (h 0)), (1, vI w), (3, vI (i : Int))] dX1_cellsSeenBy_20 rfl (by decide) rfl ?_
          refine z_iinc C 3 [(3, vI ((i : Int) + 1)), (2, vI ((sm (fun o => bI (seeB σ LT w.toNat o)) i) + 1)), (0, .ref (h 0)), (1, vI w)] dX1_cellsSeenBy_23 rfl (by decide) rfl ?_
          refine z_goto C (tgt := 4) dX1_cellsSeenBy_26 (by decide) ?_
          refine z_chg 1 (x' := sm (fun o => bI (seeB σ LT w.toNat o)) (i + 1)) (lv' := [(3, vI ((i : Int) + 1)), (2, vI (sm (fun o => bI (seeB σ LT w.toNat o)) (i + 1))), (0, .ref (h 0)), (1, vI w)]) rfl (by first | exact sm_t (bz_t hz_14 c_17) | exact sm_f (bz_f hz_14 c_17)) rfl ?_
          refine z_chg 0 (x' := ((i + 1 : Nat) : Int)) (lv' := [(3, vI ((i + 1 : Nat) : Int)), (2, vI (sm (fun o => bI (seeB σ LT w.toNat o)) (i + 1))), (0, .ref (h 0)), (1, vI w)]) rfl (by omega) rfl ?_
          refine z_sub (lv' := [(0, .ref (h 0)), (1, vI w), (2, vI (sm (fun o => bI (seeB σ LT w.toNat o)) (i + 1))), (3, vI ((i + 1 : Nat) : Int))]) [2, 3, 1, 0] rfl ?_
          exact ih9 (i + 1) φ'_14 (by omega) (by omega)
  refine z_sub (lv' := [(0, .ref (h 0)), (1, vI w), (2, vI 0), (3, vI 0)]) [2, 3, 1, 0] rfl ?_
  exact L_4 (144 + 1) 0 φ (Nat.zero_le _) (by omega)

set_option maxRecDepth 100000 in
theorem inU_X1_X1_othersSeenBy : ∀ w ∈ u_ws RX1 TX1 11, w ∈ wsX1_othersSeenBy := by decide +kernel
abbrev rm_X1_othersSeenBy : Room := { frames := 4, cells := 0, slots := 0, locals := 92 }
set_option maxHeartbeats 4000000 in
set_option maxRecDepth 100000 in
theorem c_X1_othersSeenBy (l : Launch) (D : va_G) (cI cJ : ClassId) (h : Nat → Nat) (σ : YS) (LT : Nat → Int) (γ : YS) (φ : Nat → Int) (w : Int) (hw : 0 ≤ w ∧ w < σ 4 1) (hO : Ok σ) (hL : LR LT) : Ci l yX1_othersSeenBy wsX1_othersSeenBy rm_X1_othersSeenBy D [(cI, .int), (cJ, .long)] [.ref (h 0), vI w] (cw cI h σ LT γ φ) (fun z u => ∃ φ' : Nat → Int, u = (cw cI h σ LT γ φ') ∧ z = sm (fun o => bI (decide (o ≠ w.toNat) && seeB σ LT w.toNat (σ 3 o).toNat)) (nWa σ)) := by
  refine z_ofi (own := RX1) (cc := cX1_othersSeenBy) (maxL := 4) (lv := [(0, .ref (h 0)), (1, vI w)]) (by decide) rfl rfl (Nat.le_of_ble_eq_true rfl) rfl ?_
  intro p e s m args below meth cd Q A C hret
  have hn := hO.1
  have hm := hO.2.1
  have en := nLa_e hO
  have em := nWa_e hO
  refine z_iconst C dX1_othersSeenBy_0 ?_
  refine z_istore_n C [(2, vI 0), (0, .ref (h 0)), (1, vI w)] dX1_othersSeenBy_1 (by decide) rfl ?_
  refine z_iconst C dX1_othersSeenBy_2 ?_
  refine z_istore_n C [(3, vI 0), (2, vI 0), (0, .ref (h 0)), (1, vI w)] dX1_othersSeenBy_3 (by decide) rfl ?_
  have L_4 : ∀ (d9 i : Nat) (φ1 : Nat → Int) (hi : i ≤ (nWa σ)) (hd : (nWa σ) + 1 ≤ i + d9), Zs p l e rm_X1_othersSeenBy s m args below meth cd Q A D 4 4 [(0, .ref (h 0)), (1, vI w), (2, vI (sm (fun o => bI (decide (o ≠ w.toNat) && seeB σ LT w.toNat (σ 3 o).toNat)) i)), (3, vI (i : Int))] [] (cw cI h σ LT γ φ1) 0 0 := by
    intro d9
    induction d9 with
    | zero =>
      intro i φ1 hi hd
      exfalso; omega
    | succ d9 ih9 =>
      intro i φ1 hi hd
      refine z_iload_n C 3 dX1_othersSeenBy_4 rfl ?_
      refine z_aload_n C 0 dX1_othersSeenBy_5 rfl ?_
      refine z_get C (v := vI (σ 4 1)) (ref := "ShadowWalls") (T := TX1) (N := 11) (ci := 1) 0 9 inU_X1_X1_othersSeenBy rfl rfl (by decide) (by decide +kernel) (fun _ h9 => h9) rfl dX1_othersSeenBy_6 ?_
      refine z_icmp_ge C (tgt := 39) dX1_othersSeenBy_9 (by decide) (by omega) (by omega) (fun c_9 => ?_) (fun c_9 => ?_)
      ·
        obtain rfl : i = (nWa σ) := by omega
        refine z_iload_n C 2 dX1_othersSeenBy_39 rfl ?_
        exact hret _ _ _ _ dX1_othersSeenBy_40 ⟨_, rfl, by rfl⟩
      ·
        refine z_iload_n C 3 dX1_othersSeenBy_12 rfl ?_
        refine z_iload_n C 1 dX1_othersSeenBy_13 rfl ?_
        refine z_icmp_eq C (tgt := 33) dX1_othersSeenBy_14 (by decide) (by omega) (by omega) (fun c_14 => ?_) (fun c_14 => ?_)
        ·
          refine z_iinc C 3 [(3, vI ((i : Int) + 1)), (0, .ref (h 0)), (1, vI w), (2, vI (sm (fun o => bI (decide (o ≠ w.toNat) && seeB σ LT w.toNat (σ 3 o).toNat)) i))] dX1_othersSeenBy_33 rfl (by decide) rfl ?_
          refine z_goto C (tgt := 4) dX1_othersSeenBy_36 (by decide) ?_
          refine z_chg 3 (x' := sm (fun o => bI (decide (o ≠ w.toNat) && seeB σ LT w.toNat (σ 3 o).toNat)) (i + 1)) (lv' := [(3, vI ((i : Int) + 1)), (0, .ref (h 0)), (1, vI w), (2, vI (sm (fun o => bI (decide (o ≠ w.toNat) && seeB σ LT w.toNat (σ 3 o).toNat)) (i + 1)))]) rfl (by first | exact sm_t (by rw [decide_eq_true (show i ≠ w.toNat by omega), bz_t hz_24 c_27]; rfl) | exact sm_f (by rw [bz_f hz_24 c_27]; exact Bool.and_false _) | exact sm_f (by rw [decide_eq_false (show ¬ i ≠ w.toNat by omega)]; rfl)) rfl ?_
          refine z_chg 0 (x' := ((i + 1 : Nat) : Int)) (lv' := [(3, vI ((i + 1 : Nat) : Int)), (0, .ref (h 0)), (1, vI w), (2, vI (sm (fun o => bI (decide (o ≠ w.toNat) && seeB σ LT w.toNat (σ 3 o).toNat)) (i + 1)))]) rfl (by omega) rfl ?_
          refine z_sub (lv' := [(0, .ref (h 0)), (1, vI w), (2, vI (sm (fun o => bI (decide (o ≠ w.toNat) && seeB σ LT w.toNat (σ 3 o).toNat)) (i + 1))), (3, vI ((i + 1 : Nat) : Int))]) [1, 2, 3, 0] rfl ?_
          exact ih9 (i + 1) φ1 (by omega) (by omega)
        ·
          refine z_aload_n C 0 dX1_othersSeenBy_17 rfl ?_
          refine z_iload_n C 1 dX1_othersSeenBy_18 rfl ?_
          refine z_aload_n C 0 dX1_othersSeenBy_19 rfl ?_
          refine z_iload_n C 3 dX1_othersSeenBy_20 rfl ?_
          refine z_callVi C (As := [vI (i : Int)]) (st := [vI w, .ref (h 0)]) (y := yX1_cellOfWatcher) (w := wsX1_cellOfWatcher) (rm := rm_X1_cellOfWatcher) (wr := []) (k' := 0) (n' := 0) [0, 1, 2, 3, 4, 5, 6, 7, 8] [] 0 (c_X1_cellOfWatcher l D cI cJ h σ LT γ φ1 (i : Int) (by omega)) (cwV 1 C.1.2.2.2.2 gX1_othersSeenBy_X1_cellOfWatcher rfl rfl rfl (by decide +kernel) ⟨Nat.le_of_ble_eq_true rfl, Nat.le_of_ble_eq_true rfl⟩) rfl rfl rfl rfl rfl (by decide) rfl rfl rfl rfl (Nat.le_of_ble_eq_true rfl) rfl rfl ⟨Nat.le_of_ble_eq_true rfl, Nat.le_of_ble_eq_true rfl⟩ dX1_othersSeenBy_21 ?_
          rintro z_21 _ ⟨rfl, rfl⟩
          refine z_ws (ws' := (cw cI h σ LT γ φ1)) rfl ?_
          refine z_st (v' := (σ 3 i)) rfl ?_
          have r_21 := hO.2.2.2.1 i (by omega)
          refine z_callVi C (As := [vI w, vI (σ 3 i)]) (st := []) (y := yX1_isSeenBy) (w := wsX1_isSeenBy) (rm := rm_X1_isSeenBy) (wr := []) (k' := 0) (n' := 0) [0, 1, 2, 3, 4, 5, 6, 7, 8] [] 0 (c_X1_isSeenBy l D cI cJ h σ LT γ φ1 w (σ 3 i) (by omega) (by omega) hO hL) (cwV 2 C.1.2.2.2.2 gX1_othersSeenBy_X1_isSeenBy rfl rfl rfl (by decide +kernel) ⟨Nat.le_of_ble_eq_true rfl, Nat.le_of_ble_eq_true rfl⟩) rfl rfl rfl rfl rfl (by decide) rfl rfl rfl rfl (Nat.le_of_ble_eq_true rfl) rfl rfl ⟨Nat.le_of_ble_eq_true rfl, Nat.le_of_ble_eq_true rfl⟩ dX1_othersSeenBy_24 ?_
          rintro z_24 _ ⟨φ'_24, rfl, hz_24⟩
          refine z_ws (ws' := (cw cI h σ LT γ φ'_24)) rfl ?_
          have r_24 : z_24 = 0 ∨ z_24 = 1 := by rw [hz_24]; exact bI_01 _
          have hz_24 : z_24 = bI (seeB σ LT w.toNat (σ 3 i).toNat) := hz_24
          refine z_if_eq C (tgt := 33) dX1_othersSeenBy_27 (by decide) (by omega) (fun c_27 => ?_) (fun c_27 => ?_)
          ·
            refine z_iinc C 3 [(3, vI ((i : Int) + 1)), (0, .ref (h 0)), (1, vI w), (2, vI (sm (fun o => bI (decide (o ≠ w.toNat) && seeB σ LT w.toNat (σ 3 o).toNat)) i))] dX1_othersSeenBy_33 rfl (by decide) rfl ?_
            refine z_goto C (tgt := 4) dX1_othersSeenBy_36 (by decide) ?_
            refine z_chg 3 (x' := sm (fun o => bI (decide (o ≠ w.toNat) && seeB σ LT w.toNat (σ 3 o).toNat)) (i + 1)) (lv' := [(3, vI ((i : Int) + 1)), (0, .ref (h 0)), (1, vI w), (2, vI (sm (fun o => bI (decide (o ≠ w.toNat) && seeB σ LT w.toNat (σ 3 o).toNat)) (i + 1)))]) rfl (by first | exact sm_t (by rw [decide_eq_true (show i ≠ w.toNat by omega), bz_t hz_24 c_27]; rfl) | exact sm_f (by rw [bz_f hz_24 c_27]; exact Bool.and_false _) | exact sm_f (by rw [decide_eq_false (show ¬ i ≠ w.toNat by omega)]; rfl)) rfl ?_
            refine z_chg 0 (x' := ((i + 1 : Nat) : Int)) (lv' := [(3, vI ((i + 1 : Nat) : Int)), (0, .ref (h 0)), (1, vI w), (2, vI (sm (fun o => bI (decide (o ≠ w.toNat) && seeB σ LT w.toNat (σ 3 o).toNat)) (i + 1)))]) rfl (by omega) rfl ?_
            refine z_sub (lv' := [(0, .ref (h 0)), (1, vI w), (2, vI (sm (fun o => bI (decide (o ≠ w.toNat) && seeB σ LT w.toNat (σ 3 o).toNat)) (i + 1))), (3, vI ((i + 1 : Nat) : Int))]) [1, 2, 3, 0] rfl ?_
            exact ih9 (i + 1) φ'_24 (by omega) (by omega)
          ·
            refine z_iinc C 2 [(2, vI ((sm (fun o => bI (decide (o ≠ w.toNat) && seeB σ LT w.toNat (σ 3 o).toNat)) i) + 1)), (0, .ref (h 0)), (1, vI w), (3, vI (i : Int))] dX1_othersSeenBy_30 rfl (by decide) rfl ?_
            refine z_iinc C 3 [(3, vI ((i : Int) + 1)), (2, vI ((sm (fun o => bI (decide (o ≠ w.toNat) && seeB σ LT w.toNat (σ 3 o).toNat)) i) + 1)), (0, .ref (h 0)), (1, vI w)] dX1_othersSeenBy_33 rfl (by decide) rfl ?_
            refine z_goto C (tgt := 4) dX1_othersSeenBy_36 (by decide) ?_
            refine z_chg 1 (x' := sm (fun o => bI (decide (o ≠ w.toNat) && seeB σ LT w.toNat (σ 3 o).toNat)) (i + 1)) (lv' := [(3, vI ((i : Int) + 1)), (2, vI (sm (fun o => bI (decide (o ≠ w.toNat) && seeB σ LT w.toNat (σ 3 o).toNat)) (i + 1))), (0, .ref (h 0)), (1, vI w)]) rfl (by first | exact sm_t (by rw [decide_eq_true (show i ≠ w.toNat by omega), bz_t hz_24 c_27]; rfl) | exact sm_f (by rw [bz_f hz_24 c_27]; exact Bool.and_false _) | exact sm_f (by rw [decide_eq_false (show ¬ i ≠ w.toNat by omega)]; rfl)) rfl ?_
            refine z_chg 0 (x' := ((i + 1 : Nat) : Int)) (lv' := [(3, vI ((i + 1 : Nat) : Int)), (2, vI (sm (fun o => bI (decide (o ≠ w.toNat) && seeB σ LT w.toNat (σ 3 o).toNat)) (i + 1))), (0, .ref (h 0)), (1, vI w)]) rfl (by omega) rfl ?_
            refine z_sub (lv' := [(0, .ref (h 0)), (1, vI w), (2, vI (sm (fun o => bI (decide (o ≠ w.toNat) && seeB σ LT w.toNat (σ 3 o).toNat)) (i + 1))), (3, vI ((i + 1 : Nat) : Int))]) [2, 3, 1, 0] rfl ?_
            exact ih9 (i + 1) φ'_24 (by omega) (by omega)
  refine z_sub (lv' := [(0, .ref (h 0)), (1, vI w), (2, vI 0), (3, vI 0)]) [2, 3, 1, 0] rfl ?_
  exact L_4 ((nWa σ) + 1) 0 φ (Nat.zero_le _) (by omega)

set_option maxRecDepth 100000 in
theorem inU_X1_X1_isHidden : ∀ w ∈ u_ws RX1 TX1 11, w ∈ wsX1_isHidden := by decide +kernel
abbrev rm_X1_isHidden : Room := { frames := 4, cells := 0, slots := 0, locals := 92 }
set_option maxHeartbeats 4000000 in
set_option maxRecDepth 100000 in
theorem c_X1_isHidden (l : Launch) (D : va_G) (cI cJ : ClassId) (h : Nat → Nat) (σ : YS) (LT : Nat → Int) (γ : YS) (φ : Nat → Int) (w : Int) (hw : 0 ≤ w ∧ w < σ 4 1) (hO : Ok σ) (hL : LR LT) : Ci l yX1_isHidden wsX1_isHidden rm_X1_isHidden D [(cI, .int), (cJ, .long)] [.ref (h 0), vI w] (cw cI h σ LT γ φ) (fun z u => ∃ φ' : Nat → Int, u = (cw cI h σ LT γ φ') ∧ z = bI (hidB σ LT w.toNat)) := by
  refine z_ofz (own := RX1) (cc := cX1_isHidden) (maxL := 3) (lv := [(0, .ref (h 0)), (1, vI w)]) (by decide) rfl rfl (Nat.le_of_ble_eq_true rfl) rfl ?_
  intro p e s m args below meth cd Q A C hret
  have hn := hO.1
  have hm := hO.2.1
  have en := nLa_e hO
  have em := nWa_e hO
  have h1 := hO.2.2.2.1 w.toNat (by omega)
  refine z_iconst C dX1_isHidden_0 ?_
  refine z_istore_n C [(2, vI 0), (0, .ref (h 0)), (1, vI w)] dX1_isHidden_1 (by decide) rfl ?_
  have L_2 : ∀ (d9 i : Nat) (φ1 : Nat → Int) (hi : i ≤ (nWa σ)) (hd : (nWa σ) + 1 ≤ i + d9) (hs : anyB (fun o => decide (o ≠ w.toNat) && seeB σ LT o (σ 3 w.toNat).toNat) i = false), Zs p l e rm_X1_isHidden s m args below meth cd Q A D 3 2 [(0, .ref (h 0)), (1, vI w), (2, vI (i : Int))] [] (cw cI h σ LT γ φ1) 0 0 := by
    intro d9
    induction d9 with
    | zero =>
      intro i φ1 hi hd hs
      exfalso; omega
    | succ d9 ih9 =>
      intro i φ1 hi hd hs
      refine z_iload_n C 2 dX1_isHidden_2 rfl ?_
      refine z_aload_n C 0 dX1_isHidden_3 rfl ?_
      refine z_get C (v := vI (σ 4 1)) (ref := "ShadowWalls") (T := TX1) (N := 11) (ci := 1) 0 9 inU_X1_X1_isHidden rfl rfl (by decide) (by decide +kernel) (fun _ h9 => h9) rfl dX1_isHidden_4 ?_
      refine z_icmp_ge C (tgt := 36) dX1_isHidden_7 (by decide) (by omega) (by omega) (fun c_7 => ?_) (fun c_7 => ?_)
      ·
        obtain rfl : i = nWa σ := by omega
        refine z_iconst C dX1_isHidden_36 ?_
        exact hret _ _ _ _ dX1_isHidden_37 (Or.inr rfl) ⟨_, rfl, by first | exact (bI_t (by unfold hidB; rw [hs]; rfl)).symm | exact (bI_f (by unfold hidB; rw [any_1 (i := i) (by rw [decide_eq_true (show i ≠ w.toNat by omega), bz_t hz_22 c_25]; rfl) (by omega)]; rfl)).symm⟩
      ·
        refine z_iload_n C 2 dX1_isHidden_10 rfl ?_
        refine z_iload_n C 1 dX1_isHidden_11 rfl ?_
        refine z_icmp_eq C (tgt := 30) dX1_isHidden_12 (by decide) (by omega) (by omega) (fun c_12 => ?_) (fun c_12 => ?_)
        ·
          refine z_iinc C 2 [(2, vI ((i : Int) + 1)), (0, .ref (h 0)), (1, vI w)] dX1_isHidden_30 rfl (by decide) rfl ?_
          refine z_goto C (tgt := 2) dX1_isHidden_33 (by decide) ?_
          refine z_chg 0 (x' := ((i + 1 : Nat) : Int)) (lv' := [(2, vI ((i + 1 : Nat) : Int)), (0, .ref (h 0)), (1, vI w)]) rfl (by omega) rfl ?_
          refine z_sub (lv' := [(0, .ref (h 0)), (1, vI w), (2, vI ((i + 1 : Nat) : Int))]) [1, 2, 0] rfl ?_
          exact ih9 (i + 1) φ1 (by omega) (by omega) (any_0 hs (by first | (rw [bz_f hz_22 c_25]; exact Bool.and_false _) | (rw [decide_eq_false (show ¬ i ≠ w.toNat by omega)]; rfl)))
        ·
          refine z_aload_n C 0 dX1_isHidden_15 rfl ?_
          refine z_iload_n C 2 dX1_isHidden_16 rfl ?_
          refine z_aload_n C 0 dX1_isHidden_17 rfl ?_
          refine z_iload_n C 1 dX1_isHidden_18 rfl ?_
          refine z_callVi C (As := [vI w]) (st := [vI (i : Int), .ref (h 0)]) (y := yX1_cellOfWatcher) (w := wsX1_cellOfWatcher) (rm := rm_X1_cellOfWatcher) (wr := []) (k' := 0) (n' := 0) [0, 1, 2, 3, 4, 5, 6, 7, 8] [] 0 (c_X1_cellOfWatcher l D cI cJ h σ LT γ φ1 w (by omega)) (cwV 1 C.1.2.2.2.2 gX1_isHidden_X1_cellOfWatcher rfl rfl rfl (by decide +kernel) ⟨Nat.le_of_ble_eq_true rfl, Nat.le_of_ble_eq_true rfl⟩) rfl rfl rfl rfl rfl (by decide) rfl rfl rfl rfl (Nat.le_of_ble_eq_true rfl) rfl rfl ⟨Nat.le_of_ble_eq_true rfl, Nat.le_of_ble_eq_true rfl⟩ dX1_isHidden_19 ?_
          rintro z_19 _ ⟨rfl, rfl⟩
          refine z_ws (ws' := (cw cI h σ LT γ φ1)) rfl ?_
          refine z_st (v' := (σ 3 w.toNat)) rfl ?_
          refine z_callVi C (As := [vI (i : Int), vI (σ 3 w.toNat)]) (st := []) (y := yX1_isSeenBy) (w := wsX1_isSeenBy) (rm := rm_X1_isSeenBy) (wr := []) (k' := 0) (n' := 0) [0, 1, 2, 3, 4, 5, 6, 7, 8] [] 0 (c_X1_isSeenBy l D cI cJ h σ LT γ φ1 (i : Int) (σ 3 w.toNat) (by omega) (by omega) hO hL) (cwV 2 C.1.2.2.2.2 gX1_isHidden_X1_isSeenBy rfl rfl rfl (by decide +kernel) ⟨Nat.le_of_ble_eq_true rfl, Nat.le_of_ble_eq_true rfl⟩) rfl rfl rfl rfl rfl (by decide) rfl rfl rfl rfl (Nat.le_of_ble_eq_true rfl) rfl rfl ⟨Nat.le_of_ble_eq_true rfl, Nat.le_of_ble_eq_true rfl⟩ dX1_isHidden_22 ?_
          rintro z_22 _ ⟨φ'_22, rfl, hz_22⟩
          refine z_ws (ws' := (cw cI h σ LT γ φ'_22)) rfl ?_
          have r_22 : z_22 = 0 ∨ z_22 = 1 := by rw [hz_22]; exact bI_01 _
          have hz_22 : z_22 = bI (seeB σ LT i (σ 3 w.toNat).toNat) := hz_22
          refine z_if_eq C (tgt := 30) dX1_isHidden_25 (by decide) (by omega) (fun c_25 => ?_) (fun c_25 => ?_)
          ·
            refine z_iinc C 2 [(2, vI ((i : Int) + 1)), (0, .ref (h 0)), (1, vI w)] dX1_isHidden_30 rfl (by decide) rfl ?_
            refine z_goto C (tgt := 2) dX1_isHidden_33 (by decide) ?_
            refine z_chg 0 (x' := ((i + 1 : Nat) : Int)) (lv' := [(2, vI ((i + 1 : Nat) : Int)), (0, .ref (h 0)), (1, vI w)]) rfl (by omega) rfl ?_
            refine z_sub (lv' := [(0, .ref (h 0)), (1, vI w), (2, vI ((i + 1 : Nat) : Int))]) [1, 2, 0] rfl ?_
            exact ih9 (i + 1) φ'_22 (by omega) (by omega) (any_0 hs (by first | (rw [bz_f hz_22 c_25]; exact Bool.and_false _) | (rw [decide_eq_false (show ¬ i ≠ w.toNat by omega)]; rfl)))
          ·
            refine z_iconst C dX1_isHidden_28 ?_
            exact hret _ _ _ _ dX1_isHidden_29 (Or.inl rfl) ⟨_, rfl, by first | exact (bI_t (by unfold hidB; rw [hs]; rfl)).symm | exact (bI_f (by unfold hidB; rw [any_1 (i := i) (by rw [decide_eq_true (show i ≠ w.toNat by omega), bz_t hz_22 c_25]; rfl) (by omega)]; rfl)).symm⟩
  refine z_sub (lv' := [(0, .ref (h 0)), (1, vI w), (2, vI 0)]) [1, 2, 0] rfl ?_
  exact L_2 ((nWa σ) + 1) 0 φ (Nat.zero_le _) (by omega) (rfl)

set_option maxRecDepth 100000 in
theorem inU_X1_X1_hiddenWatchers : ∀ w ∈ u_ws RX1 TX1 11, w ∈ wsX1_hiddenWatchers := by decide +kernel
abbrev rm_X1_hiddenWatchers : Room := { frames := 5, cells := 0, slots := 0, locals := 114 }
set_option maxHeartbeats 4000000 in
set_option maxRecDepth 100000 in
theorem c_X1_hiddenWatchers (l : Launch) (D : va_G) (cI cJ : ClassId) (h : Nat → Nat) (σ : YS) (LT : Nat → Int) (γ : YS) (φ : Nat → Int)  (hO : Ok σ) (hL : LR LT) : Ci l yX1_hiddenWatchers wsX1_hiddenWatchers rm_X1_hiddenWatchers D [(cI, .int), (cJ, .long)] [.ref (h 0)] (cw cI h σ LT γ φ) (fun z u => ∃ φ' : Nat → Int, u = (cw cI h σ LT γ φ') ∧ z = sm (fun o => bI (hidB σ LT o)) (nWa σ)) := by
  refine z_ofi (own := RX1) (cc := cX1_hiddenWatchers) (maxL := 3) (lv := [(0, .ref (h 0))]) (by decide) rfl rfl (Nat.le_of_ble_eq_true rfl) rfl ?_
  intro p e s m args below meth cd Q A C hret
  have hn := hO.1
  have hm := hO.2.1
  have en := nLa_e hO
  have em := nWa_e hO
  refine z_iconst C dX1_hiddenWatchers_0 ?_
  refine z_istore_n C [(1, vI 0), (0, .ref (h 0))] dX1_hiddenWatchers_1 (by decide) rfl ?_
  refine z_iconst C dX1_hiddenWatchers_2 ?_
  refine z_istore_n C [(2, vI 0), (1, vI 0), (0, .ref (h 0))] dX1_hiddenWatchers_3 (by decide) rfl ?_
  have L_4 : ∀ (d9 i : Nat) (φ1 : Nat → Int) (hi : i ≤ (nWa σ)) (hd : (nWa σ) + 1 ≤ i + d9), Zs p l e rm_X1_hiddenWatchers s m args below meth cd Q A D 3 4 [(0, .ref (h 0)), (1, vI (sm (fun o => bI (hidB σ LT o)) i)), (2, vI (i : Int))] [] (cw cI h σ LT γ φ1) 0 0 := by
    intro d9
    induction d9 with
    | zero =>
      intro i φ1 hi hd
      exfalso; omega
    | succ d9 ih9 =>
      intro i φ1 hi hd
      refine z_iload_n C 2 dX1_hiddenWatchers_4 rfl ?_
      refine z_aload_n C 0 dX1_hiddenWatchers_5 rfl ?_
      refine z_get C (v := vI (σ 4 1)) (ref := "ShadowWalls") (T := TX1) (N := 11) (ci := 1) 0 9 inU_X1_X1_hiddenWatchers rfl rfl (by decide) (by decide +kernel) (fun _ h9 => h9) rfl dX1_hiddenWatchers_6 ?_
      refine z_icmp_ge C (tgt := 29) dX1_hiddenWatchers_9 (by decide) (by omega) (by omega) (fun c_9 => ?_) (fun c_9 => ?_)
      ·
        obtain rfl : i = (nWa σ) := by omega
        refine z_iload_n C 1 dX1_hiddenWatchers_29 rfl ?_
        exact hret _ _ _ _ dX1_hiddenWatchers_30 ⟨_, rfl, by rfl⟩
      ·
        refine z_aload_n C 0 dX1_hiddenWatchers_12 rfl ?_
        refine z_iload_n C 2 dX1_hiddenWatchers_13 rfl ?_
        refine z_callVi C (As := [vI (i : Int)]) (st := []) (y := yX1_isHidden) (w := wsX1_isHidden) (rm := rm_X1_isHidden) (wr := []) (k' := 0) (n' := 0) [0, 1, 2, 3, 4, 5, 6, 7, 8] [] 0 (c_X1_isHidden l D cI cJ h σ LT γ φ1 (i : Int) (by omega) hO hL) (cwV 1 C.1.2.2.2.2 gX1_hiddenWatchers_X1_isHidden rfl rfl rfl (by decide +kernel) ⟨Nat.le_of_ble_eq_true rfl, Nat.le_of_ble_eq_true rfl⟩) rfl rfl rfl rfl rfl (by decide) rfl rfl rfl rfl (Nat.le_of_ble_eq_true rfl) rfl rfl ⟨Nat.le_of_ble_eq_true rfl, Nat.le_of_ble_eq_true rfl⟩ dX1_hiddenWatchers_14 ?_
        rintro z_14 _ ⟨φ'_14, rfl, hz_14⟩
        refine z_ws (ws' := (cw cI h σ LT γ φ'_14)) rfl ?_
        have r_14 : z_14 = 0 ∨ z_14 = 1 := by rw [hz_14]; exact bI_01 _
        have hz_14 : z_14 = bI (hidB σ LT i) := hz_14
        refine z_if_eq C (tgt := 23) dX1_hiddenWatchers_17 (by decide) (by omega) (fun c_17 => ?_) (fun c_17 => ?_)
        ·
          refine z_iinc C 2 [(2, vI ((i : Int) + 1)), (0, .ref (h 0)), (1, vI (sm (fun o => bI (hidB σ LT o)) i))] dX1_hiddenWatchers_23 rfl (by decide) rfl ?_
          refine z_goto C (tgt := 4) dX1_hiddenWatchers_26 (by decide) ?_
          refine z_chg 2 (x' := sm (fun o => bI (hidB σ LT o)) (i + 1)) (lv' := [(2, vI ((i : Int) + 1)), (0, .ref (h 0)), (1, vI (sm (fun o => bI (hidB σ LT o)) (i + 1)))]) rfl (by first | exact sm_t (bz_t hz_14 c_17) | exact sm_f (bz_f hz_14 c_17)) rfl ?_
          refine z_chg 0 (x' := ((i + 1 : Nat) : Int)) (lv' := [(2, vI ((i + 1 : Nat) : Int)), (0, .ref (h 0)), (1, vI (sm (fun o => bI (hidB σ LT o)) (i + 1)))]) rfl (by omega) rfl ?_
          refine z_sub (lv' := [(0, .ref (h 0)), (1, vI (sm (fun o => bI (hidB σ LT o)) (i + 1))), (2, vI ((i + 1 : Nat) : Int))]) [1, 2, 0] rfl ?_
          exact ih9 (i + 1) φ'_14 (by omega) (by omega)
        ·
          refine z_iinc C 1 [(1, vI ((sm (fun o => bI (hidB σ LT o)) i) + 1)), (0, .ref (h 0)), (2, vI (i : Int))] dX1_hiddenWatchers_20 rfl (by decide) rfl ?_
          refine z_iinc C 2 [(2, vI ((i : Int) + 1)), (1, vI ((sm (fun o => bI (hidB σ LT o)) i) + 1)), (0, .ref (h 0))] dX1_hiddenWatchers_23 rfl (by decide) rfl ?_
          refine z_goto C (tgt := 4) dX1_hiddenWatchers_26 (by decide) ?_
          refine z_chg 1 (x' := sm (fun o => bI (hidB σ LT o)) (i + 1)) (lv' := [(2, vI ((i : Int) + 1)), (1, vI (sm (fun o => bI (hidB σ LT o)) (i + 1))), (0, .ref (h 0))]) rfl (by first | exact sm_t (bz_t hz_14 c_17) | exact sm_f (bz_f hz_14 c_17)) rfl ?_
          refine z_chg 0 (x' := ((i + 1 : Nat) : Int)) (lv' := [(2, vI ((i + 1 : Nat) : Int)), (1, vI (sm (fun o => bI (hidB σ LT o)) (i + 1))), (0, .ref (h 0))]) rfl (by omega) rfl ?_
          refine z_sub (lv' := [(0, .ref (h 0)), (1, vI (sm (fun o => bI (hidB σ LT o)) (i + 1))), (2, vI ((i + 1 : Nat) : Int))]) [2, 1, 0] rfl ?_
          exact ih9 (i + 1) φ'_14 (by omega) (by omega)
  refine z_sub (lv' := [(0, .ref (h 0)), (1, vI 0), (2, vI 0)]) [2, 1, 0] rfl ?_
  exact L_4 ((nWa σ) + 1) 0 φ (Nat.zero_le _) (by omega)
