theorem sA_fl (γ : YS) (v : Int) : sA γ 0 (flI (γ 0) v 0) = γ := by
  rw [flI_0]
  funext a
  unfold sA
  split
  · next h => rw [h]
  · rfl
theorem sU_fl (γ : YS) (v : Int) (i : Nat) : sU (sA γ 0 (flI (γ 0) v i)) 0 i v = sA γ 0 (flI (γ 0) v (i + 1)) := by
  have h : (fun j => if j = i then v else flI (γ 0) v i j) = flI (γ 0) v (i + 1) := flI_s _ _ _
  rw [← h]
  funext a
  unfold sU sA
  split <;> rfl
set_option maxRecDepth 100000 in
theorem inU_X2_X2_stopsOn : ∀ w ∈ u_ws RX2 TX2 14, w ∈ wsX2_stopsOn := by decide +kernel
abbrev rm_X2_stopsOn : Room := { frames := 2, cells := 0, slots := 0, locals := 55 }
set_option maxHeartbeats 4000000 in
set_option maxRecDepth 100000 in
theorem c_X2_stopsOn (l : Launch) (D : va_G) (cI cJ : ClassId) (h : Nat → Nat) (σ : YS) (LI BR : Nat → Int) (γ : YS) (φ : Nat → Int) (θ : Int) (f t : Int) (hf : 0 ≤ f ∧ f < 144) (ht : 0 ≤ t ∧ t < 144) (hO : Ok σ) : Ci l yX2_stopsOn wsX2_stopsOn rm_X2_stopsOn D [(cI, .int), (cJ, .long)] [.ref (h 0), vI f, vI t] (mx cI h σ LI BR γ φ θ) (fun z u => ∃ φ' : Nat → Int, u = (mx cI h σ LI BR γ φ' θ) ∧ z = (ray (σ 0) f t).1) := by
  refine z_ofi (own := RX2) (cc := cX2_stopsOn) (maxL := 3) (lv := [(0, .ref (h 0)), (1, vI f), (2, vI t)]) (by decide) rfl rfl (Nat.le_of_ble_eq_true rfl) rfl ?_
  intro p e s m args below meth cd Q A C hret
  refine z_aload_n C 0 dX2_stopsOn_0 rfl ?_
  refine z_iload_n C 1 dX2_stopsOn_1 rfl ?_
  refine z_iload_n C 2 dX2_stopsOn_2 rfl ?_
  refine z_callVv C (As := [vI f, vI t]) (st := []) (y := yX2_go) (w := wsX2_go) (rm := rm_X2_go) (wr := []) (k' := 0) (n' := 0) [0, 1, 2, 3, 4, 5, 6, 7, 8] [] 0 (c_X2_go l D cI cJ h σ LI BR γ φ θ f t (by omega) (by omega) hO) (cwV 2 C.1.2.2.2.2 gX2_stopsOn_X2_go rfl rfl rfl (by decide +kernel) ⟨Nat.le_of_ble_eq_true rfl, Nat.le_of_ble_eq_true rfl⟩) rfl rfl rfl rfl rfl (by decide) rfl rfl rfl rfl (Nat.le_of_ble_eq_true rfl) rfl rfl ⟨Nat.le_of_ble_eq_true rfl, Nat.le_of_ble_eq_true rfl⟩ dX2_stopsOn_3 ?_
  rintro _ ⟨φ'_3, rfl, f0_3, f1_3⟩
  refine z_ws (ws' := (mx cI h σ LI BR γ φ'_3 θ)) rfl ?_
  refine z_aload_n C 0 dX2_stopsOn_6 rfl ?_
  refine z_get C (v := vI (φ'_3 0)) (ref := "ShadowWallsModel") (T := TX2) (N := 14) (ci := 2) 0 12 inU_X2_X2_stopsOn rfl rfl (by decide) (by decide +kernel) (fun _ h9 => h9) rfl dX2_stopsOn_7 ?_
  exact hret _ _ _ _ dX2_stopsOn_10 ⟨_, rfl, by exact f0_3⟩

set_option maxRecDepth 100000 in
theorem inU_X2_X2_isLitBy : ∀ w ∈ u_ws RX2 TX2 14, w ∈ wsX2_isLitBy := by decide +kernel
abbrev rm_X2_isLitBy : Room := { frames := 3, cells := 0, slots := 0, locals := 77 }
set_option maxHeartbeats 4000000 in
set_option maxRecDepth 100000 in
theorem c_X2_isLitBy (l : Launch) (D : va_G) (cI cJ : ClassId) (h : Nat → Nat) (σ : YS) (LI BR : Nat → Int) (γ : YS) (φ : Nat → Int) (θ : Int) (k c : Int) (hk : 0 ≤ k ∧ k < σ 4 0) (hc : 0 ≤ c ∧ c < 144) (hO : Ok σ) : Ci l yX2_isLitBy wsX2_isLitBy rm_X2_isLitBy D [(cI, .int), (cJ, .long)] [.ref (h 0), vI k, vI c] (mx cI h σ LI BR γ φ θ) (fun z u => ∃ φ' : Nat → Int, u = (mx cI h σ LI BR γ φ' θ) ∧ z = bI (litB σ k.toNat c.toNat)) := by
  refine z_ofz (own := RX2) (cc := cX2_isLitBy) (maxL := 5) (lv := [(0, .ref (h 0)), (1, vI k), (2, vI c)]) (by decide) rfl rfl (Nat.le_of_ble_eq_true rfl) rfl ?_
  intro p e s m args below meth cd Q A C hret
  have hn := hO.1
  have h1 := hO.2.2.1 k.toNat (by omega)
  have a1 := abZ_c (σ 1 k.toNat % 12 - c % 12)
  have a2 := abZ_c (σ 1 k.toNat / 12 - c / 12)
  have q1 := sqr (x := abZ (σ 1 k.toNat % 12 - c % 12)) (B := 11) (by omega)
  have q2 := sqr (x := abZ (σ 1 k.toNat / 12 - c / 12)) (B := 11) (by omega)
  have q3 := sqr (x := σ 2 k.toNat) (B := 12) (by omega)
  have e1 : abZ (σ 1 k.toNat % 12 - c % 12) * abZ (σ 1 k.toNat % 12 - c % 12) = (c % 12 - σ 1 k.toNat % 12) * (c % 12 - σ 1 k.toNat % 12) := by rw [abZ_n, abZ_sq]
  have e2 : abZ (σ 1 k.toNat / 12 - c / 12) * abZ (σ 1 k.toNat / 12 - c / 12) = (c / 12 - σ 1 k.toNat / 12) * (c / 12 - σ 1 k.toNat / 12) := by rw [abZ_n, abZ_sq]
  have hl : litB σ k.toNat c.toNat = (decide ((c % 12 - σ 1 k.toNat % 12) * (c % 12 - σ 1 k.toNat % 12) + (c / 12 - σ 1 k.toNat / 12) * (c / 12 - σ 1 k.toNat / 12) ≤ σ 2 k.toNat * σ 2 k.toNat) && decide (band (ray (σ 0) (σ 1 k.toNat) c).1 1 = 0)) := by unfold litB dX dY; rw [Int.toNat_of_nonneg hc.1]
  refine z_aload_n C 0 dX2_isLitBy_0 rfl ?_
  refine z_get C (v := .ref (h 2)) (ref := "ShadowWallsModel") (T := TX2) (N := 14) (ci := 2) 0 3 inU_X2_X2_isLitBy rfl rfl (by decide) (by decide +kernel) (fun _ h9 => h9) rfl dX2_isLitBy_1 ?_
  refine z_iload_n C 1 dX2_isLitBy_4 rfl ?_
  refine z_iald C (cA := cI) (N := 4) (f := σ 1) 2 0 rfl rfl (by decide) (by omega) dX2_isLitBy_5 ?_
  refine z_iload_n C 2 dX2_isLitBy_6 rfl ?_
  refine z_callSi C (As := [vI (σ 1 (k.toNat)), vI c]) (st := []) (y := yX2_apartX) (w := wsX2_apartX) (rm := rm_X2_apartX) (wr := (mx cI h σ LI BR γ φ θ)) (k' := 0) (n' := 0) [] [0, 1, 2, 3, 4, 5, 6, 7, 8] (c_X2_apartX l D cI cJ  (σ 1 (k.toNat)) c (by omega) (by omega)) (va_cwS 2 C.1.2.2.2.2 gX2_isLitBy_X2_apartX rfl rfl rfl (by decide +kernel) ⟨Nat.le_of_ble_eq_true rfl, Nat.le_of_ble_eq_true rfl⟩) rfl rfl rfl rfl rfl (by decide) rfl rfl (Nat.le_of_ble_eq_true rfl) rfl rfl ⟨Nat.le_of_ble_eq_true rfl, Nat.le_of_ble_eq_true rfl⟩ dX2_isLitBy_7 ?_
  rintro z_7 _ ⟨rfl, rfl⟩
  refine z_ws (ws' := (mx cI h σ LI BR γ φ θ)) rfl ?_
  refine z_st (v' := (abZ ((σ 1 (k.toNat)) % 12 - c % 12))) rfl ?_
  refine z_istore_n C [(3, vI (abZ ((σ 1 (k.toNat)) % 12 - c % 12))), (0, .ref (h 0)), (1, vI k), (2, vI c)] dX2_isLitBy_10 (by decide) rfl ?_
  refine z_aload_n C 1 dX2_isLitBy_11 rfl ?_
  refine z_get C (v := .ref (h 2)) (ref := "ShadowWallsModel") (T := TX2) (N := 14) (ci := 2) 0 3 inU_X2_X2_isLitBy rfl rfl (by decide) (by decide +kernel) (fun _ h9 => h9) rfl dX2_isLitBy_12 ?_
  refine z_iload_n C 2 dX2_isLitBy_15 rfl ?_
  refine z_iald C (cA := cI) (N := 4) (f := σ 1) 2 0 rfl rfl (by decide) (by omega) dX2_isLitBy_16 ?_
  refine z_iload_n C 3 dX2_isLitBy_17 rfl ?_
  refine z_callSi C (As := [vI (σ 1 (k.toNat)), vI c]) (st := []) (y := yX2_apartY) (w := wsX2_apartY) (rm := rm_X2_apartY) (wr := (mx cI h σ LI BR γ φ θ)) (k' := 0) (n' := 0) [] [0, 1, 2, 3, 4, 5, 6, 7, 8] (c_X2_apartY l D cI cJ  (σ 1 (k.toNat)) c (by omega) (by omega)) (va_cwS 2 C.1.2.2.2.2 gX2_isLitBy_X2_apartY rfl rfl rfl (by decide +kernel) ⟨Nat.le_of_ble_eq_true rfl, Nat.le_of_ble_eq_true rfl⟩) rfl rfl rfl rfl rfl (by decide) rfl rfl (Nat.le_of_ble_eq_true rfl) rfl rfl ⟨Nat.le_of_ble_eq_true rfl, Nat.le_of_ble_eq_true rfl⟩ dX2_isLitBy_18 ?_
  rintro z_18 _ ⟨rfl, rfl⟩
  refine z_ws (ws' := (mx cI h σ LI BR γ φ θ)) rfl ?_
  refine z_st (v' := (abZ ((σ 1 (k.toNat)) / 12 - c / 12))) rfl ?_
  refine z_istore C [(4, vI (abZ ((σ 1 (k.toNat)) / 12 - c / 12))), (3, vI (abZ ((σ 1 (k.toNat)) % 12 - c % 12))), (0, .ref (h 0)), (1, vI k), (2, vI c)] dX2_isLitBy_21 (by decide) rfl ?_
  refine z_iload_n C 1 dX2_isLitBy_23 rfl ?_
  refine z_iload_n C 1 dX2_isLitBy_24 rfl ?_
  refine z_imul C dX2_isLitBy_25 ?_
  refine z_iload C 0 dX2_isLitBy_26 rfl ?_
  refine z_iload C 0 dX2_isLitBy_28 rfl ?_
  refine z_imul C dX2_isLitBy_30 ?_
  refine z_iadd C dX2_isLitBy_31 ?_
  refine z_aload_n C 2 dX2_isLitBy_32 rfl ?_
  refine z_get C (v := .ref (h 3)) (ref := "ShadowWallsModel") (T := TX2) (N := 14) (ci := 2) 0 4 inU_X2_X2_isLitBy rfl rfl (by decide) (by decide +kernel) (fun _ h9 => h9) rfl dX2_isLitBy_33 ?_
  refine z_iload_n C 3 dX2_isLitBy_36 rfl ?_
  refine z_iald C (cA := cI) (N := 4) (f := σ 2) 3 0 rfl rfl (by decide) (by omega) dX2_isLitBy_37 ?_
  refine z_aload_n C 2 dX2_isLitBy_38 rfl ?_
  refine z_get C (v := .ref (h 3)) (ref := "ShadowWallsModel") (T := TX2) (N := 14) (ci := 2) 0 4 inU_X2_X2_isLitBy rfl rfl (by decide) (by decide +kernel) (fun _ h9 => h9) rfl dX2_isLitBy_39 ?_
  refine z_iload_n C 3 dX2_isLitBy_42 rfl ?_
  refine z_iald C (cA := cI) (N := 4) (f := σ 2) 3 0 rfl rfl (by decide) (by omega) dX2_isLitBy_43 ?_
  refine z_imul C dX2_isLitBy_44 ?_
  refine z_icmp_gt C (tgt := 68) dX2_isLitBy_45 (by decide) (by omega) (by omega) (fun c_45 => ?_) (fun c_45 => ?_)
  ·
    have hv : litB σ k.toNat c.toNat = false := by rw [hl, decide_eq_false (by omega)]; rfl
    refine z_iconst C dX2_isLitBy_68 ?_
    exact hret _ _ _ _ dX2_isLitBy_69 (Or.inl rfl) ⟨_, rfl, by first | exact (bI_f hv).symm | exact (bI_t hv).symm⟩
  ·
    refine z_aload_n C 2 dX2_isLitBy_48 rfl ?_
    refine z_aload_n C 2 dX2_isLitBy_49 rfl ?_
    refine z_get C (v := .ref (h 2)) (ref := "ShadowWallsModel") (T := TX2) (N := 14) (ci := 2) 0 3 inU_X2_X2_isLitBy rfl rfl (by decide) (by decide +kernel) (fun _ h9 => h9) rfl dX2_isLitBy_50 ?_
    refine z_iload_n C 3 dX2_isLitBy_53 rfl ?_
    refine z_iald C (cA := cI) (N := 4) (f := σ 1) 2 0 rfl rfl (by decide) (by omega) dX2_isLitBy_54 ?_
    refine z_iload_n C 4 dX2_isLitBy_55 rfl ?_
    refine z_callVi C (As := [vI (σ 1 (k.toNat)), vI c]) (st := []) (y := yX2_stopsOn) (w := wsX2_stopsOn) (rm := rm_X2_stopsOn) (wr := []) (k' := 0) (n' := 0) [0, 1, 2, 3, 4, 5, 6, 7, 8] [] 0 (c_X2_stopsOn l D cI cJ h σ LI BR γ φ θ (σ 1 (k.toNat)) c (by omega) (by omega) hO) (cwV 2 C.1.2.2.2.2 gX2_isLitBy_X2_stopsOn rfl rfl rfl (by decide +kernel) ⟨Nat.le_of_ble_eq_true rfl, Nat.le_of_ble_eq_true rfl⟩) rfl rfl rfl rfl rfl (by decide) rfl rfl rfl rfl (Nat.le_of_ble_eq_true rfl) rfl rfl ⟨Nat.le_of_ble_eq_true rfl, Nat.le_of_ble_eq_true rfl⟩ dX2_isLitBy_56 ?_
    rintro z_56 _ ⟨φ'_56, rfl, hz_56⟩
    refine z_ws (ws' := (mx cI h σ LI BR γ φ'_56 θ)) rfl ?_
    have r_56 := (ray_r (σ 0) ((σ 1 (k.toNat))) (c)).1
    rw [← hz_56] at r_56
    have hz_56 : z_56 = (ray (σ 0) (σ 1 (k.toNat)) c).1 := hz_56
    refine z_iconst C dX2_isLitBy_59 ?_
    have b_60 := bits_e (a := z_56) (b := 1) (by omega) (by omega)
    refine z_iand C (r := band z_56 1) dX2_isLitBy_60 (b_60.1.1) ?_
    refine z_if_ne C (tgt := 68) dX2_isLitBy_61 (by decide) (by omega) (fun c_61 => ?_) (fun c_61 => ?_)
    ·
      rw [hz_56] at c_61
      have hv : litB σ k.toNat c.toNat = false := by rw [hl, decide_eq_false c_61]; exact Bool.and_false _
      refine z_iconst C dX2_isLitBy_68 ?_
      exact hret _ _ _ _ dX2_isLitBy_69 (Or.inl rfl) ⟨_, rfl, by first | exact (bI_f hv).symm | exact (bI_t hv).symm⟩
    ·
      rw [hz_56] at c_61
      have hv : litB σ k.toNat c.toNat = true := by rw [hl, decide_eq_true (by omega), decide_eq_true (by omega)]; rfl
      refine z_iconst C dX2_isLitBy_64 ?_
      refine z_goto C (tgt := 69) dX2_isLitBy_65 (by decide) ?_
      exact hret _ _ _ _ dX2_isLitBy_69 (Or.inr rfl) ⟨_, rfl, by first | exact (bI_f hv).symm | exact (bI_t hv).symm⟩

set_option maxRecDepth 100000 in
theorem inU_X2_X2_look : ∀ w ∈ u_ws RX2 TX2 14, w ∈ wsX2_look := by decide +kernel
abbrev rm_X2_look : Room := { frames := 4, cells := 0, slots := 0, locals := 101 }
set_option maxHeartbeats 4000000 in
set_option maxRecDepth 100000 in
theorem c_X2_look (l : Launch) (D : va_G) (cI cJ : ClassId) (h : Nat → Nat) (σ : YS) (LI BR : Nat → Int) (γ : YS) (φ : Nat → Int) (θ : Int)  (hO : Ok σ) (hL : LI4 LI) : Ci l yX2_look wsX2_look rm_X2_look D [(cI, .int), (cJ, .long)] [.ref (h 0)] (mx cI h σ LI BR γ φ θ) (fun z u => ∃ φ' : Nat → Int, u = (mx cI h σ (lkF (lgV σ) LI 144) (lkF (brV σ) BR 144) γ φ' θ) ∧ z = sm (fun c => bI (decide (lgV σ c ≠ 0))) 144) := by
  refine z_ofi (own := RX2) (cc := cX2_look) (maxL := 4) (lv := [(0, .ref (h 0))]) (by decide) rfl rfl (Nat.le_of_ble_eq_true rfl) rfl ?_
  intro p e s m args below meth cd Q A C hret
  have hn := hO.1
  have hm := hO.2.1
  have en := nLa_e hO
  have em := nWa_e hO
  refine z_iconst C dX2_look_0 ?_
  refine z_istore_n C [(1, vI 0), (0, .ref (h 0))] dX2_look_1 (by decide) rfl ?_
  refine z_iconst C dX2_look_2 ?_
  refine z_istore_n C [(2, vI 0), (1, vI 0), (0, .ref (h 0))] dX2_look_3 (by decide) rfl ?_
  have L_4 : ∀ (d9 i : Nat) (φ1 : Nat → Int) (hi : i ≤ 144) (hd : 144 + 1 ≤ i + d9), Zs p l e rm_X2_look s m args below meth cd Q A D 4 4 [(0, .ref (h 0)), (1, vI (sm (fun c => bI (decide (lgV σ c ≠ 0))) i)), (2, vI (i : Int))] [] (mx cI h σ (lkF (lgV σ) LI i) (lkF (brV σ) BR i) γ φ1 θ) 0 0 := by
    intro d9
    induction d9 with
    | zero =>
      intro i φ1 hi hd
      exfalso; omega
    | succ d9 ih9 =>
      intro i φ1 hi hd
      refine z_iload_n C 2 dX2_look_4 rfl ?_
      refine z_sipush C dX2_look_5 (by decide) ?_
      refine z_icmp_ge C (tgt := 125) dX2_look_8 (by decide) (by omega) (by omega) (fun c_8 => ?_) (fun c_8 => ?_)
      ·
        obtain rfl : i = 144 := by omega
        refine z_iload_n C 1 dX2_look_125 rfl ?_
        exact hret _ _ _ _ dX2_look_126 ⟨_, rfl, by rfl⟩
      ·
        refine z_aload_n C 0 dX2_look_11 rfl ?_
        refine z_get C (v := .ref (h 5)) (ref := "ShadowWallsModel") (T := TX2) (N := 14) (ci := 2) 0 8 inU_X2_X2_look rfl rfl (by decide) (by decide +kernel) (fun _ h9 => h9) rfl dX2_look_12 ?_
        refine z_iload_n C 2 dX2_look_15 rfl ?_
        refine z_iconst C dX2_look_16 ?_
        refine z_iast C (cA := cI) (N := 144) (f := lkF (lgV σ) LI i) (ws' := (mx cI h σ (fU (lkF (lgV σ) LI i) i 0) (lkF (brV σ) BR i) γ φ1 θ)) 5 0 rfl rfl (by decide) (by omega) rfl dX2_look_17 ?_
        refine z_aload_n C 0 dX2_look_18 rfl ?_
        refine z_get C (v := .ref (h 6)) (ref := "ShadowWallsModel") (T := TX2) (N := 14) (ci := 2) 0 9 inU_X2_X2_look rfl rfl (by decide) (by decide +kernel) (fun _ h9 => h9) rfl dX2_look_19 ?_
        refine z_iload_n C 2 dX2_look_22 rfl ?_
        refine z_iconst C dX2_look_23 ?_
        refine z_iast C (cA := cI) (N := 144) (f := lkF (brV σ) BR i) (ws' := (mx cI h σ (fU (lkF (lgV σ) LI i) i 0) (fU (lkF (brV σ) BR i) i 0) γ φ1 θ)) 6 0 rfl rfl (by decide) (by omega) rfl dX2_look_24 ?_
        refine z_iconst C dX2_look_25 ?_
        refine z_istore_n C [(3, vI 0), (0, .ref (h 0)), (1, vI (sm (fun c => bI (decide (lgV σ c ≠ 0))) i)), (2, vI (i : Int))] dX2_look_26 (by decide) rfl ?_
        have L_27 : ∀ (d8 j : Nat) (φ2 : Nat → Int) (hj : j ≤ nLa σ) (hd2 : nLa σ + 1 ≤ j + d8), Zs p l e rm_X2_look s m args below meth cd Q A D 4 27 [(0, .ref (h 0)), (1, vI (sm (fun c => bI (decide (lgV σ c ≠ 0))) i)), (2, vI (i : Int)), (3, vI (j : Int))] [] (mx cI h σ (fU (lkF (lgV σ) LI i) i (sm (fun k => bI (litB σ k i)) j)) (fU (lkF (brV σ) BR i) i (sm (brG σ i) j)) γ φ2 θ) 0 0 := by
          intro d8
          induction d8 with
          | zero =>
            intro j φ2 hj hd2
            exfalso; omega
          | succ d8 ih8 =>
            intro j φ2 hj hd2
            have s1 := smB_r (fun k => litB σ k i) j
            have s2 := brGs_r hO (c := i) (by omega) j hj
            have g1 : (fU (lkF (lgV σ) LI i) i (sm (fun k => bI (litB σ k i)) j)) i = sm (fun k => bI (litB σ k i)) j := fU_s _ _ _
            have g2 : (fU (lkF (brV σ) BR i) i (sm (brG σ i) j)) i = sm (brG σ i) j := fU_s _ _ _
            refine z_iload_n C 3 dX2_look_27 rfl ?_
            refine z_aload_n C 0 dX2_look_28 rfl ?_
            refine z_get C (v := vI (σ 4 0)) (ref := "ShadowWallsModel") (T := TX2) (N := 14) (ci := 2) 0 2 inU_X2_X2_look rfl rfl (by decide) (by decide +kernel) (fun _ h9 => h9) rfl dX2_look_29 ?_
            refine z_icmp_ge C (tgt := 102) dX2_look_32 (by decide) (by omega) (by omega) (fun c_32 => ?_) (fun c_32 => ?_)
            ·
              have hj9 : j = nLa σ := by omega
              have hlg : lgV σ i = (fU (lkF (lgV σ) LI i) i (sm (fun k => bI (litB σ k i)) j)) i := by rw [g1, hj9]; rfl
              have rl := lgV_r hO i
              have e1 : fU (lkF (lgV σ) LI i) i (sm (fun k => bI (litB σ k i)) j) = lkF (lgV σ) LI (i + 1) := lkF_s (by rw [hj9]; rfl)
              have e2 : fU (lkF (brV σ) BR i) i (sm (brG σ i) j) = lkF (brV σ) BR (i + 1) := lkF_s (by rw [hj9]; rfl)
              refine z_iload_n C 1 dX2_look_102 rfl ?_
              refine z_aload_n C 0 dX2_look_103 rfl ?_
              refine z_get C (v := .ref (h 5)) (ref := "ShadowWallsModel") (T := TX2) (N := 14) (ci := 2) 0 8 inU_X2_X2_look rfl rfl (by decide) (by decide +kernel) (fun _ h9 => h9) rfl dX2_look_104 ?_
              refine z_iload_n C 2 dX2_look_107 rfl ?_
              refine z_iald C (cA := cI) (N := 144) (f := fU (lkF (lgV σ) LI i) i (sm (fun k => bI (litB σ k i)) j)) 5 0 rfl rfl (by decide) (by omega) dX2_look_108 ?_
              refine z_st (v' := fU (lkF (lgV σ) LI i) i (sm (fun k => bI (litB σ k i)) j) i) rfl ?_
              refine z_if_le C (tgt := 116) dX2_look_109 (by decide) (by omega) (fun c_109 => ?_) (fun c_109 => ?_)
              ·
                refine z_iconst C dX2_look_116 ?_
                refine z_iadd C dX2_look_117 ?_
                refine z_istore_n C [(1, vI ((sm (fun c => bI (decide (lgV σ c ≠ 0))) i) + 0)), (0, .ref (h 0)), (2, vI (i : Int)), (3, vI (j : Int))] dX2_look_118 (by decide) rfl ?_
                refine z_iinc C 2 [(2, vI ((i : Int) + 1)), (1, vI ((sm (fun c => bI (decide (lgV σ c ≠ 0))) i) + 0)), (0, .ref (h 0)), (3, vI (j : Int))] dX2_look_119 rfl (by decide) rfl ?_
                refine z_goto C (tgt := 4) dX2_look_122 (by decide) ?_
                refine z_chg 1 (x' := sm (fun c => bI (decide (lgV σ c ≠ 0))) (i + 1)) (lv' := [(2, vI ((i : Int) + 1)), (1, vI (sm (fun c => bI (decide (lgV σ c ≠ 0))) (i + 1))), (0, .ref (h 0)), (3, vI (j : Int))]) rfl (by first | exact sm_t (by simp; omega) | exact (Int.add_zero _).trans (sm_f (by simp; omega)) | exact sm_f (by simp; omega)) rfl ?_
                refine z_chg 0 (x' := ((i + 1 : Nat) : Int)) (lv' := [(2, vI ((i + 1 : Nat) : Int)), (1, vI (sm (fun c => bI (decide (lgV σ c ≠ 0))) (i + 1))), (0, .ref (h 0)), (3, vI (j : Int))]) rfl (by omega) rfl ?_
                refine z_sub (lv' := [(0, .ref (h 0)), (1, vI (sm (fun c => bI (decide (lgV σ c ≠ 0))) (i + 1))), (2, vI ((i + 1 : Nat) : Int))]) [2, 1, 0] rfl ?_
                refine z_ws (ws' := (mx cI h σ (lkF (lgV σ) LI (i + 1)) (lkF (brV σ) BR (i + 1)) γ φ2 θ)) (by first | (rw [lkF_0, lkF_0]; done) | (rw [e1, e2]; done)) ?_
                exact ih9 (i + 1) φ2 (by omega) (by omega)
              ·
                refine z_iconst C dX2_look_112 ?_
                refine z_goto C (tgt := 117) dX2_look_113 (by decide) ?_
                refine z_iadd C dX2_look_117 ?_
                refine z_istore_n C [(1, vI ((sm (fun c => bI (decide (lgV σ c ≠ 0))) i) + 1)), (0, .ref (h 0)), (2, vI (i : Int)), (3, vI (j : Int))] dX2_look_118 (by decide) rfl ?_
                refine z_iinc C 2 [(2, vI ((i : Int) + 1)), (1, vI ((sm (fun c => bI (decide (lgV σ c ≠ 0))) i) + 1)), (0, .ref (h 0)), (3, vI (j : Int))] dX2_look_119 rfl (by decide) rfl ?_
                refine z_goto C (tgt := 4) dX2_look_122 (by decide) ?_
                refine z_chg 1 (x' := sm (fun c => bI (decide (lgV σ c ≠ 0))) (i + 1)) (lv' := [(2, vI ((i : Int) + 1)), (1, vI (sm (fun c => bI (decide (lgV σ c ≠ 0))) (i + 1))), (0, .ref (h 0)), (3, vI (j : Int))]) rfl (by first | exact sm_t (by simp; omega) | exact (Int.add_zero _).trans (sm_f (by simp; omega)) | exact sm_f (by simp; omega)) rfl ?_
                refine z_chg 0 (x' := ((i + 1 : Nat) : Int)) (lv' := [(2, vI ((i + 1 : Nat) : Int)), (1, vI (sm (fun c => bI (decide (lgV σ c ≠ 0))) (i + 1))), (0, .ref (h 0)), (3, vI (j : Int))]) rfl (by omega) rfl ?_
                refine z_sub (lv' := [(0, .ref (h 0)), (1, vI (sm (fun c => bI (decide (lgV σ c ≠ 0))) (i + 1))), (2, vI ((i + 1 : Nat) : Int))]) [2, 1, 0] rfl ?_
                refine z_ws (ws' := (mx cI h σ (lkF (lgV σ) LI (i + 1)) (lkF (brV σ) BR (i + 1)) γ φ2 θ)) (by first | (rw [lkF_0, lkF_0]; done) | (rw [e1, e2]; done)) ?_
                exact ih9 (i + 1) φ2 (by omega) (by omega)
            ·
              have h1 := hO.2.2.1 j (by omega)
              have a1 := abZ_c (σ 1 j % 12 - (i : Int) % 12)
              have a2 := abZ_c (σ 1 j / 12 - (i : Int) / 12)
              have a3 := mxZ_c (abZ (σ 1 j % 12 - (i : Int) % 12)) (abZ (σ 1 j / 12 - (i : Int) / 12))
              refine z_aload_n C 0 dX2_look_35 rfl ?_
              refine z_iload_n C 3 dX2_look_36 rfl ?_
              refine z_iload_n C 2 dX2_look_37 rfl ?_
              refine z_callVi C (As := [vI (j : Int), vI (i : Int)]) (st := []) (y := yX2_isLitBy) (w := wsX2_isLitBy) (rm := rm_X2_isLitBy) (wr := []) (k' := 0) (n' := 0) [0, 1, 2, 3, 4, 5, 6, 7, 8] [] 0 (c_X2_isLitBy l D cI cJ h σ (fU (lkF (lgV σ) LI i) i (sm (fun k => bI (litB σ k i)) j)) (fU (lkF (brV σ) BR i) i (sm (brG σ i) j)) γ φ2 θ (j : Int) (i : Int) (by omega) (by omega) hO) (cwV 2 C.1.2.2.2.2 gX2_look_X2_isLitBy rfl rfl rfl (by decide +kernel) ⟨Nat.le_of_ble_eq_true rfl, Nat.le_of_ble_eq_true rfl⟩) rfl rfl rfl rfl rfl (by decide) rfl rfl rfl rfl (Nat.le_of_ble_eq_true rfl) rfl rfl ⟨Nat.le_of_ble_eq_true rfl, Nat.le_of_ble_eq_true rfl⟩ dX2_look_38 ?_
              rintro z_38 _ ⟨φ'_38, rfl, hz_38⟩
              refine z_ws (ws' := (mx cI h σ ((fU (lkF (lgV σ) LI i) i (sm (fun k => bI (litB σ k i)) j))) ((fU (lkF (brV σ) BR i) i (sm (brG σ i) j))) γ φ'_38 θ)) rfl ?_
              have r_38 : z_38 = 0 ∨ z_38 = 1 := by rw [hz_38]; exact bI_01 _
              have hz_38 : z_38 = bI (litB σ j i) := hz_38
              refine z_if_ne C (tgt := 47) dX2_look_41 (by decide) (by omega) (fun c_41 => ?_) (fun c_41 => ?_)
              ·
                refine z_aload_n C 0 dX2_look_47 rfl ?_
                refine z_get C (v := .ref (h 5)) (ref := "ShadowWallsModel") (T := TX2) (N := 14) (ci := 2) 0 8 inU_X2_X2_look rfl rfl (by decide) (by decide +kernel) (fun _ h9 => h9) rfl dX2_look_48 ?_
                refine z_iload_n C 2 dX2_look_51 rfl ?_
                refine z_dup2 C dX2_look_52 rfl rfl ?_
                refine z_iald C (cA := cI) (N := 144) (f := (fU (lkF (lgV σ) LI i) i (sm (fun k => bI (litB σ k i)) j))) 5 0 rfl rfl (by decide) (by omega) dX2_look_53 ?_
                refine z_st (v' := (fU (lkF (lgV σ) LI i) i (sm (fun k => bI (litB σ k i)) j)) i) rfl ?_
                refine z_iconst C dX2_look_54 ?_
                refine z_iadd C dX2_look_55 ?_
                refine z_iast C (cA := cI) (N := 144) (f := (fU (lkF (lgV σ) LI i) i (sm (fun k => bI (litB σ k i)) j))) (ws' := (mx cI h σ (fU (fU (lkF (lgV σ) LI i) i (sm (fun k => bI (litB σ k i)) j)) i (((fU (lkF (lgV σ) LI i) i (sm (fun k => bI (litB σ k i)) j)) i) + 1)) ((fU (lkF (brV σ) BR i) i (sm (brG σ i) j))) γ φ'_38 θ)) 5 0 rfl rfl (by decide) (by omega) rfl dX2_look_56 ?_
                refine z_aload_n C 0 dX2_look_57 rfl ?_
                refine z_get C (v := .ref (h 6)) (ref := "ShadowWallsModel") (T := TX2) (N := 14) (ci := 2) 0 9 inU_X2_X2_look rfl rfl (by decide) (by decide +kernel) (fun _ h9 => h9) rfl dX2_look_58 ?_
                refine z_iload_n C 2 dX2_look_61 rfl ?_
                refine z_dup2 C dX2_look_62 rfl rfl ?_
                refine z_iald C (cA := cI) (N := 144) (f := (fU (lkF (brV σ) BR i) i (sm (brG σ i) j))) 6 0 rfl rfl (by decide) (by omega) dX2_look_63 ?_
                refine z_st (v' := (fU (lkF (brV σ) BR i) i (sm (brG σ i) j)) i) rfl ?_
                refine z_aload_n C 0 dX2_look_64 rfl ?_
                refine z_get C (v := .ref (h 3)) (ref := "ShadowWallsModel") (T := TX2) (N := 14) (ci := 2) 0 4 inU_X2_X2_look rfl rfl (by decide) (by decide +kernel) (fun _ h9 => h9) rfl dX2_look_65 ?_
                refine z_iload_n C 3 dX2_look_68 rfl ?_
                refine z_iald C (cA := cI) (N := 4) (f := σ 2) 3 0 rfl rfl (by decide) (by omega) dX2_look_69 ?_
                refine z_st (v' := σ 2 j) rfl ?_
                refine z_aload_n C 0 dX2_look_70 rfl ?_
                refine z_get C (v := .ref (h 2)) (ref := "ShadowWallsModel") (T := TX2) (N := 14) (ci := 2) 0 3 inU_X2_X2_look rfl rfl (by decide) (by decide +kernel) (fun _ h9 => h9) rfl dX2_look_71 ?_
                refine z_iload_n C 3 dX2_look_74 rfl ?_
                refine z_iald C (cA := cI) (N := 4) (f := σ 1) 2 0 rfl rfl (by decide) (by omega) dX2_look_75 ?_
                refine z_st (v' := σ 1 j) rfl ?_
                refine z_iload_n C 2 dX2_look_76 rfl ?_
                refine z_callSi C (As := [vI (σ 1 j), vI (i : Int)]) (st := [vI (σ 2 j), vI ((fU (lkF (brV σ) BR i) i (sm (brG σ i) j)) i), vI (i : Int), .ref (h 6)]) (y := yX2_apartX) (w := wsX2_apartX) (rm := rm_X2_apartX) (wr := (mx cI h σ (fU (fU (lkF (lgV σ) LI i) i (sm (fun k => bI (litB σ k i)) j)) i (((fU (lkF (lgV σ) LI i) i (sm (fun k => bI (litB σ k i)) j)) i) + 1)) ((fU (lkF (brV σ) BR i) i (sm (brG σ i) j))) γ φ'_38 θ)) (k' := 0) (n' := 0) [] [0, 1, 2, 3, 4, 5, 6, 7, 8] (c_X2_apartX l D cI cJ  (σ 1 j) (i : Int) (by omega) (by omega)) (va_cwS 2 C.1.2.2.2.2 gX2_look_X2_apartX rfl rfl rfl (by decide +kernel) ⟨Nat.le_of_ble_eq_true rfl, Nat.le_of_ble_eq_true rfl⟩) rfl rfl rfl rfl rfl (by decide) rfl rfl (Nat.le_of_ble_eq_true rfl) rfl rfl ⟨Nat.le_of_ble_eq_true rfl, Nat.le_of_ble_eq_true rfl⟩ dX2_look_77 ?_
                rintro z_77 _ ⟨rfl, rfl⟩
                refine z_ws (ws' := (mx cI h σ (fU (fU (lkF (lgV σ) LI i) i (sm (fun k => bI (litB σ k i)) j)) i (((fU (lkF (lgV σ) LI i) i (sm (fun k => bI (litB σ k i)) j)) i) + 1)) ((fU (lkF (brV σ) BR i) i (sm (brG σ i) j))) γ φ'_38 θ)) rfl ?_
                refine z_st (v' := (abZ ((σ 1 j) % 12 - (i : Int) % 12))) rfl ?_
                refine z_aload_n C 0 dX2_look_80 rfl ?_
                refine z_get C (v := .ref (h 2)) (ref := "ShadowWallsModel") (T := TX2) (N := 14) (ci := 2) 0 3 inU_X2_X2_look rfl rfl (by decide) (by decide +kernel) (fun _ h9 => h9) rfl dX2_look_81 ?_
                refine z_iload_n C 3 dX2_look_84 rfl ?_
                refine z_iald C (cA := cI) (N := 4) (f := σ 1) 2 0 rfl rfl (by decide) (by omega) dX2_look_85 ?_
                refine z_st (v' := σ 1 j) rfl ?_
                refine z_iload_n C 2 dX2_look_86 rfl ?_
                refine z_callSi C (As := [vI (σ 1 j), vI (i : Int)]) (st := [vI (abZ ((σ 1 j) % 12 - (i : Int) % 12)), vI (σ 2 j), vI ((fU (lkF (brV σ) BR i) i (sm (brG σ i) j)) i), vI (i : Int), .ref (h 6)]) (y := yX2_apartY) (w := wsX2_apartY) (rm := rm_X2_apartY) (wr := (mx cI h σ (fU (fU (lkF (lgV σ) LI i) i (sm (fun k => bI (litB σ k i)) j)) i (((fU (lkF (lgV σ) LI i) i (sm (fun k => bI (litB σ k i)) j)) i) + 1)) ((fU (lkF (brV σ) BR i) i (sm (brG σ i) j))) γ φ'_38 θ)) (k' := 0) (n' := 0) [] [0, 1, 2, 3, 4, 5, 6, 7, 8] (c_X2_apartY l D cI cJ  (σ 1 j) (i : Int) (by omega) (by omega)) (va_cwS 2 C.1.2.2.2.2 gX2_look_X2_apartY rfl rfl rfl (by decide +kernel) ⟨Nat.le_of_ble_eq_true rfl, Nat.le_of_ble_eq_true rfl⟩) rfl rfl rfl rfl rfl (by decide) rfl rfl (Nat.le_of_ble_eq_true rfl) rfl rfl ⟨Nat.le_of_ble_eq_true rfl, Nat.le_of_ble_eq_true rfl⟩ dX2_look_87 ?_
                rintro z_87 _ ⟨rfl, rfl⟩
                refine z_ws (ws' := (mx cI h σ (fU (fU (lkF (lgV σ) LI i) i (sm (fun k => bI (litB σ k i)) j)) i (((fU (lkF (lgV σ) LI i) i (sm (fun k => bI (litB σ k i)) j)) i) + 1)) ((fU (lkF (brV σ) BR i) i (sm (brG σ i) j))) γ φ'_38 θ)) rfl ?_
                refine z_st (v' := (abZ ((σ 1 j) / 12 - (i : Int) / 12))) rfl ?_
                refine z_mmax C dX2_look_90 (by decide +kernel) (by decide +kernel) (by decide +kernel) (by decide +kernel) (Nat.le_of_ble_eq_true rfl) (Nat.le_of_ble_eq_true rfl) (Nat.le_of_ble_eq_true rfl) (Nat.le_of_ble_eq_true rfl) (by omega) (by omega) ?_
                refine z_st (v' := mxZ (abZ ((σ 1 j) % 12 - (i : Int) % 12)) (abZ ((σ 1 j) / 12 - (i : Int) / 12))) rfl ?_
                have a_90 := mxZ_c (abZ ((σ 1 j) % 12 - (i : Int) % 12)) (abZ ((σ 1 j) / 12 - (i : Int) / 12))
                refine z_isub C dX2_look_93 ?_
                refine z_iadd C dX2_look_94 ?_
                refine z_iast C (cA := cI) (N := 144) (f := (fU (lkF (brV σ) BR i) i (sm (brG σ i) j))) (ws' := (mx cI h σ (fU (fU (lkF (lgV σ) LI i) i (sm (fun k => bI (litB σ k i)) j)) i (((fU (lkF (lgV σ) LI i) i (sm (fun k => bI (litB σ k i)) j)) i) + 1)) (fU (fU (lkF (brV σ) BR i) i (sm (brG σ i) j)) i (((fU (lkF (brV σ) BR i) i (sm (brG σ i) j)) i) + ((σ 2 j) - (mxZ (abZ ((σ 1 j) % 12 - (i : Int) % 12)) (abZ ((σ 1 j) / 12 - (i : Int) / 12)))))) γ φ'_38 θ)) 6 0 rfl rfl (by decide) (by omega) rfl dX2_look_95 ?_
                have hlt := bz_t hz_38 c_41
                have e9 : fU (fU (lkF (lgV σ) LI i) i (sm (fun k => bI (litB σ k i)) j)) i (((fU (lkF (lgV σ) LI i) i (sm (fun k => bI (litB σ k i)) j)) i) + 1) = fU (lkF (lgV σ) LI i) i (sm (fun k => bI (litB σ k i)) (j + 1)) := by rw [fU_fU]; congr 1; rw [fU_s]; exact sm_t (f := fun k => litB σ k i) hlt
                have e8 : fU (fU (lkF (brV σ) BR i) i (sm (brG σ i) j)) i (((fU (lkF (brV σ) BR i) i (sm (brG σ i) j)) i) + ((σ 2 j) - (mxZ (abZ ((σ 1 j) % 12 - (i : Int) % 12)) (abZ ((σ 1 j) / 12 - (i : Int) / 12))))) = fU (lkF (brV σ) BR i) i (sm (brG σ i) (j + 1)) := by rw [fU_fU]; congr 1; rw [fU_s]; simp only [sm]; congr 1; unfold brG dX dY; rw [if_pos hlt, abZ_n (σ 1 j % 12), abZ_n (σ 1 j / 12)]
                refine z_iinc C 3 [(3, vI ((j : Int) + 1)), (0, .ref (h 0)), (1, vI (sm (fun c => bI (decide (lgV σ c ≠ 0))) i)), (2, vI (i : Int))] dX2_look_96 rfl (by decide) rfl ?_
                refine z_goto C (tgt := 27) dX2_look_99 (by decide) ?_
                refine z_chg 0 (x' := ((j + 1 : Nat) : Int)) (lv' := [(3, vI ((j + 1 : Nat) : Int)), (0, .ref (h 0)), (1, vI (sm (fun c => bI (decide (lgV σ c ≠ 0))) i)), (2, vI (i : Int))]) rfl (by omega) rfl ?_
                refine z_sub (lv' := [(0, .ref (h 0)), (1, vI (sm (fun c => bI (decide (lgV σ c ≠ 0))) i)), (2, vI (i : Int)), (3, vI ((j + 1 : Nat) : Int))]) [1, 2, 3, 0] rfl ?_
                refine z_ws (ws' := (mx cI h σ (fU (lkF (lgV σ) LI i) i (sm (fun k => bI (litB σ k i)) (j + 1))) (fU (lkF (brV σ) BR i) i (sm (brG σ i) (j + 1))) γ φ'_38 θ)) (by rw [e9, e8]) ?_
                exact ih8 (j + 1) φ'_38 (by omega) (by omega)
              ·
                refine z_goto C (tgt := 96) dX2_look_44 (by decide) ?_
                have hlt := bz_f hz_38 c_41
                have e9 : (fU (lkF (lgV σ) LI i) i (sm (fun k => bI (litB σ k i)) j)) = fU (lkF (lgV σ) LI i) i (sm (fun k => bI (litB σ k i)) (j + 1)) := by congr 1; exact sm_f (f := fun k => litB σ k i) hlt
                have e8 : (fU (lkF (brV σ) BR i) i (sm (brG σ i) j)) = fU (lkF (brV σ) BR i) i (sm (brG σ i) (j + 1)) := by congr 1; simp only [sm]; unfold brG; rw [if_neg (by rw [hlt]; decide)]; exact (Int.add_zero _).symm
                refine z_iinc C 3 [(3, vI ((j : Int) + 1)), (0, .ref (h 0)), (1, vI (sm (fun c => bI (decide (lgV σ c ≠ 0))) i)), (2, vI (i : Int))] dX2_look_96 rfl (by decide) rfl ?_
                refine z_goto C (tgt := 27) dX2_look_99 (by decide) ?_
                refine z_chg 0 (x' := ((j + 1 : Nat) : Int)) (lv' := [(3, vI ((j + 1 : Nat) : Int)), (0, .ref (h 0)), (1, vI (sm (fun c => bI (decide (lgV σ c ≠ 0))) i)), (2, vI (i : Int))]) rfl (by omega) rfl ?_
                refine z_sub (lv' := [(0, .ref (h 0)), (1, vI (sm (fun c => bI (decide (lgV σ c ≠ 0))) i)), (2, vI (i : Int)), (3, vI ((j + 1 : Nat) : Int))]) [1, 2, 3, 0] rfl ?_
                refine z_ws (ws' := (mx cI h σ (fU (lkF (lgV σ) LI i) i (sm (fun k => bI (litB σ k i)) (j + 1))) (fU (lkF (brV σ) BR i) i (sm (brG σ i) (j + 1))) γ φ'_38 θ)) (by rw [e9, e8]) ?_
                exact ih8 (j + 1) φ'_38 (by omega) (by omega)
        refine z_sub (lv' := [(0, .ref (h 0)), (1, vI (sm (fun c => bI (decide (lgV σ c ≠ 0))) i)), (2, vI (i : Int)), (3, vI 0)]) [1, 2, 3, 0] rfl ?_
        refine z_ws (ws' := (mx cI h σ (fU (lkF (lgV σ) LI i) i (sm (fun k => bI (litB σ k i)) 0)) (fU (lkF (brV σ) BR i) i (sm (brG σ i) 0)) γ φ1 θ)) (rfl) ?_
        exact L_27 (nLa σ + 1) 0 φ1 (Nat.zero_le _) (by omega)
  refine z_sub (lv' := [(0, .ref (h 0)), (1, vI 0), (2, vI 0)]) [2, 1, 0] rfl ?_
  refine z_ws (ws' := (mx cI h σ (lkF (lgV σ) LI 0) (lkF (brV σ) BR 0) γ φ θ)) (by first | (rw [lkF_0, lkF_0]; done) | (rw [e1, e2]; done)) ?_
  exact L_4 (144 + 1) 0 φ (Nat.zero_le _) (by omega)

set_option maxRecDepth 100000 in
theorem inU_X2_X2_seesCell : ∀ w ∈ u_ws RX2 TX2 14, w ∈ wsX2_seesCell := by decide +kernel
abbrev rm_X2_seesCell : Room := { frames := 3, cells := 0, slots := 0, locals := 77 }
set_option maxHeartbeats 4000000 in
set_option maxRecDepth 100000 in
theorem c_X2_seesCell (l : Launch) (D : va_G) (cI cJ : ClassId) (h : Nat → Nat) (σ : YS) (LI BR : Nat → Int) (γ : YS) (φ : Nat → Int) (θ : Int) (w c : Int) (hw : 0 ≤ w ∧ w < σ 4 1) (hc : 0 ≤ c ∧ c < 144) (hO : Ok σ) (hL : LI4 LI) : Ci l yX2_seesCell wsX2_seesCell rm_X2_seesCell D [(cI, .int), (cJ, .long)] [.ref (h 0), vI w, vI c] (mx cI h σ LI BR γ φ θ) (fun z u => ∃ φ' : Nat → Int, u = (mx cI h σ LI BR γ φ' θ) ∧ z = bI (seeB σ LI w.toNat c.toNat)) := by
  refine z_ofz (own := RX2) (cc := cX2_seesCell) (maxL := 3) (lv := [(0, .ref (h 0)), (1, vI w), (2, vI c)]) (by decide) rfl rfl (Nat.le_of_ble_eq_true rfl) rfl ?_
  intro p e s m args below meth cd Q A C hret
  have hn := hO.1
  have hm := hO.2.1
  have en := nLa_e hO
  have em := nWa_e hO
  have h1 := hO.2.2.2.1 w.toNat (by omega)
  have hl := hL c.toNat
  have ec : ((c.toNat : Nat) : Int) = c := Int.toNat_of_nonneg hc.1
  refine z_aload_n C 0 dX2_seesCell_0 rfl ?_
  refine z_get C (v := .ref (h 5)) (ref := "ShadowWallsModel") (T := TX2) (N := 14) (ci := 2) 0 8 inU_X2_X2_seesCell rfl rfl (by decide) (by decide +kernel) (fun _ h9 => h9) rfl dX2_seesCell_1 ?_
  refine z_iload_n C 2 dX2_seesCell_4 rfl ?_
  refine z_iald C (cA := cI) (N := 144) (f := LI) 5 0 rfl rfl (by decide) (by omega) dX2_seesCell_5 ?_
  refine z_if_le C (tgt := 29) dX2_seesCell_6 (by decide) (by omega) (fun c_6 => ?_) (fun c_6 => ?_)
  ·
    have hv : seeB σ LI w.toNat c.toNat = false := by unfold seeB; rw [decide_eq_false (show ¬ LI c.toNat ≠ 0 by omega)]; rfl
    refine z_iconst C dX2_seesCell_29 ?_
    exact hret _ _ _ _ dX2_seesCell_30 (Or.inl rfl) ⟨_, rfl, by first | exact (bI_f hv).symm | exact (bI_t hv).symm⟩
  ·
    refine z_aload_n C 0 dX2_seesCell_9 rfl ?_
    refine z_aload_n C 0 dX2_seesCell_10 rfl ?_
    refine z_get C (v := .ref (h 4)) (ref := "ShadowWallsModel") (T := TX2) (N := 14) (ci := 2) 0 6 inU_X2_X2_seesCell rfl rfl (by decide) (by decide +kernel) (fun _ h9 => h9) rfl dX2_seesCell_11 ?_
    refine z_iload_n C 1 dX2_seesCell_14 rfl ?_
    refine z_iald C (cA := cI) (N := 6) (f := σ 3) 4 0 rfl rfl (by decide) (by omega) dX2_seesCell_15 ?_
    refine z_iload_n C 2 dX2_seesCell_16 rfl ?_
    refine z_callVi C (As := [vI (σ 3 (w.toNat)), vI c]) (st := []) (y := yX2_stopsOn) (w := wsX2_stopsOn) (rm := rm_X2_stopsOn) (wr := []) (k' := 0) (n' := 0) [0, 1, 2, 3, 4, 5, 6, 7, 8] [] 0 (c_X2_stopsOn l D cI cJ h σ LI BR γ φ θ (σ 3 (w.toNat)) c (by omega) (by omega) hO) (cwV 2 C.1.2.2.2.2 gX2_seesCell_X2_stopsOn rfl rfl rfl (by decide +kernel) ⟨Nat.le_of_ble_eq_true rfl, Nat.le_of_ble_eq_true rfl⟩) rfl rfl rfl rfl rfl (by decide) rfl rfl rfl rfl (Nat.le_of_ble_eq_true rfl) rfl rfl ⟨Nat.le_of_ble_eq_true rfl, Nat.le_of_ble_eq_true rfl⟩ dX2_seesCell_17 ?_
    rintro z_17 _ ⟨φ'_17, rfl, hz_17⟩
    refine z_ws (ws' := (mx cI h σ LI BR γ φ'_17 θ)) rfl ?_
    have r_17 := (ray_r (σ 0) ((σ 3 (w.toNat))) (c)).1
    rw [← hz_17] at r_17
    have hz_17 : z_17 = (ray (σ 0) (σ 3 (w.toNat)) c).1 := hz_17
    refine z_iconst C dX2_seesCell_20 ?_
    have b_21 := bits_e (a := z_17) (b := 2) (by omega) (by omega)
    refine z_iand C (r := band z_17 2) dX2_seesCell_21 (b_21.1.1) ?_
    refine z_if_ne C (tgt := 29) dX2_seesCell_22 (by decide) (by omega) (fun c_22 => ?_) (fun c_22 => ?_)
    ·
      rw [hz_17] at c_22
      have hv : seeB σ LI w.toNat c.toNat = false := by unfold seeB; rw [ec, decide_eq_false c_22]; exact Bool.and_false _
      refine z_iconst C dX2_seesCell_29 ?_
      exact hret _ _ _ _ dX2_seesCell_30 (Or.inl rfl) ⟨_, rfl, by first | exact (bI_f hv).symm | exact (bI_t hv).symm⟩
    ·
      rw [hz_17] at c_22
      have hv : seeB σ LI w.toNat c.toNat = true := by unfold seeB; rw [ec, decide_eq_true (show LI c.toNat ≠ 0 by omega), decide_eq_true (by omega)]; rfl
      refine z_iconst C dX2_seesCell_25 ?_
      refine z_goto C (tgt := 30) dX2_seesCell_26 (by decide) ?_
      exact hret _ _ _ _ dX2_seesCell_30 (Or.inr rfl) ⟨_, rfl, by first | exact (bI_f hv).symm | exact (bI_t hv).symm⟩

set_option maxRecDepth 100000 in
theorem inU_X2_X2_isHidden : ∀ w ∈ u_ws RX2 TX2 14, w ∈ wsX2_isHidden := by decide +kernel
abbrev rm_X2_isHidden : Room := { frames := 4, cells := 0, slots := 0, locals := 99 }
set_option maxHeartbeats 4000000 in
set_option maxRecDepth 100000 in
theorem c_X2_isHidden (l : Launch) (D : va_G) (cI cJ : ClassId) (h : Nat → Nat) (σ : YS) (LI BR : Nat → Int) (γ : YS) (φ : Nat → Int) (θ : Int) (w : Int) (hw : 0 ≤ w ∧ w < σ 4 1) (hO : Ok σ) (hL : LI4 LI) : Ci l yX2_isHidden wsX2_isHidden rm_X2_isHidden D [(cI, .int), (cJ, .long)] [.ref (h 0), vI w] (mx cI h σ LI BR γ φ θ) (fun z u => ∃ φ' : Nat → Int, u = (mx cI h σ LI BR γ φ' θ) ∧ z = bI (hidB σ LI w.toNat)) := by
  refine z_ofz (own := RX2) (cc := cX2_isHidden) (maxL := 3) (lv := [(0, .ref (h 0)), (1, vI w)]) (by decide) rfl rfl (Nat.le_of_ble_eq_true rfl) rfl ?_
  intro p e s m args below meth cd Q A C hret
  have hn := hO.1
  have hm := hO.2.1
  have en := nLa_e hO
  have em := nWa_e hO
  have h1 := hO.2.2.2.1 w.toNat (by omega)
  refine z_iconst C dX2_isHidden_0 ?_
  refine z_istore_n C [(2, vI 0), (0, .ref (h 0)), (1, vI w)] dX2_isHidden_1 (by decide) rfl ?_
  have L_2 : ∀ (d9 i : Nat) (φ1 : Nat → Int) (hi : i ≤ (nWa σ)) (hd : (nWa σ) + 1 ≤ i + d9) (hs : anyB (fun o => decide (o ≠ w.toNat) && seeB σ LI o (σ 3 w.toNat).toNat) i = false), Zs p l e rm_X2_isHidden s m args below meth cd Q A D 3 2 [(0, .ref (h 0)), (1, vI w), (2, vI (i : Int))] [] (mx cI h σ LI BR γ φ1 θ) 0 0 := by
    intro d9
    induction d9 with
    | zero =>
      intro i φ1 hi hd hs
      exfalso; omega
    | succ d9 ih9 =>
      intro i φ1 hi hd hs
      refine z_iload_n C 2 dX2_isHidden_2 rfl ?_
      refine z_aload_n C 0 dX2_isHidden_3 rfl ?_
      refine z_get C (v := vI (σ 4 1)) (ref := "ShadowWallsModel") (T := TX2) (N := 14) (ci := 2) 0 5 inU_X2_X2_isHidden rfl rfl (by decide) (by decide +kernel) (fun _ h9 => h9) rfl dX2_isHidden_4 ?_
      refine z_icmp_ge C (tgt := 37) dX2_isHidden_7 (by decide) (by omega) (by omega) (fun c_7 => ?_) (fun c_7 => ?_)
      ·
        obtain rfl : i = nWa σ := by omega
        refine z_iconst C dX2_isHidden_37 ?_
        exact hret _ _ _ _ dX2_isHidden_38 (Or.inr rfl) ⟨_, rfl, by first | exact (bI_t (by unfold hidB; rw [hs]; rfl)).symm | exact (bI_f (by unfold hidB; rw [any_1 (i := i) (by rw [decide_eq_true (show i ≠ w.toNat by omega), bz_t hz_23 c_26]; rfl) (by omega)]; rfl)).symm⟩
      ·
        refine z_iload_n C 2 dX2_isHidden_10 rfl ?_
        refine z_iload_n C 1 dX2_isHidden_11 rfl ?_
        refine z_icmp_eq C (tgt := 31) dX2_isHidden_12 (by decide) (by omega) (by omega) (fun c_12 => ?_) (fun c_12 => ?_)
        ·
          refine z_iinc C 2 [(2, vI ((i : Int) + 1)), (0, .ref (h 0)), (1, vI w)] dX2_isHidden_31 rfl (by decide) rfl ?_
          refine z_goto C (tgt := 2) dX2_isHidden_34 (by decide) ?_
          refine z_chg 0 (x' := ((i + 1 : Nat) : Int)) (lv' := [(2, vI ((i + 1 : Nat) : Int)), (0, .ref (h 0)), (1, vI w)]) rfl (by omega) rfl ?_
          refine z_sub (lv' := [(0, .ref (h 0)), (1, vI w), (2, vI ((i + 1 : Nat) : Int))]) [1, 2, 0] rfl ?_
          exact ih9 (i + 1) φ1 (by omega) (by omega) (any_0 hs (by first | (rw [bz_f hz_23 c_26]; exact Bool.and_false _) | (rw [decide_eq_false (show ¬ i ≠ w.toNat by omega)]; rfl)))
        ·
          refine z_aload_n C 0 dX2_isHidden_15 rfl ?_
          refine z_iload_n C 2 dX2_isHidden_16 rfl ?_
          refine z_aload_n C 0 dX2_isHidden_17 rfl ?_
          refine z_get C (v := .ref (h 4)) (ref := "ShadowWallsModel") (T := TX2) (N := 14) (ci := 2) 0 6 inU_X2_X2_isHidden rfl rfl (by decide) (by decide +kernel) (fun _ h9 => h9) rfl dX2_isHidden_18 ?_
          refine z_iload_n C 1 dX2_isHidden_21 rfl ?_
          refine z_iald C (cA := cI) (N := 6) (f := σ 3) 4 0 rfl rfl (by decide) (by omega) dX2_isHidden_22 ?_
          refine z_callVi C (As := [vI (i : Int), vI (σ 3 (w.toNat))]) (st := []) (y := yX2_seesCell) (w := wsX2_seesCell) (rm := rm_X2_seesCell) (wr := []) (k' := 0) (n' := 0) [0, 1, 2, 3, 4, 5, 6, 7, 8] [] 0 (c_X2_seesCell l D cI cJ h σ LI BR γ φ1 θ (i : Int) (σ 3 (w.toNat)) (by omega) (by omega) hO hL) (cwV 2 C.1.2.2.2.2 gX2_isHidden_X2_seesCell rfl rfl rfl (by decide +kernel) ⟨Nat.le_of_ble_eq_true rfl, Nat.le_of_ble_eq_true rfl⟩) rfl rfl rfl rfl rfl (by decide) rfl rfl rfl rfl (Nat.le_of_ble_eq_true rfl) rfl rfl ⟨Nat.le_of_ble_eq_true rfl, Nat.le_of_ble_eq_true rfl⟩ dX2_isHidden_23 ?_
          rintro z_23 _ ⟨φ'_23, rfl, hz_23⟩
          refine z_ws (ws' := (mx cI h σ LI BR γ φ'_23 θ)) rfl ?_
          have r_23 : z_23 = 0 ∨ z_23 = 1 := by rw [hz_23]; exact bI_01 _
          have hz_23 : z_23 = bI (seeB σ LI i (σ 3 (w.toNat)).toNat) := hz_23
          refine z_if_eq C (tgt := 31) dX2_isHidden_26 (by decide) (by omega) (fun c_26 => ?_) (fun c_26 => ?_)
          ·
            refine z_iinc C 2 [(2, vI ((i : Int) + 1)), (0, .ref (h 0)), (1, vI w)] dX2_isHidden_31 rfl (by decide) rfl ?_
            refine z_goto C (tgt := 2) dX2_isHidden_34 (by decide) ?_
            refine z_chg 0 (x' := ((i + 1 : Nat) : Int)) (lv' := [(2, vI ((i + 1 : Nat) : Int)), (0, .ref (h 0)), (1, vI w)]) rfl (by omega) rfl ?_
            refine z_sub (lv' := [(0, .ref (h 0)), (1, vI w), (2, vI ((i + 1 : Nat) : Int))]) [1, 2, 0] rfl ?_
            exact ih9 (i + 1) φ'_23 (by omega) (by omega) (any_0 hs (by first | (rw [bz_f hz_23 c_26]; exact Bool.and_false _) | (rw [decide_eq_false (show ¬ i ≠ w.toNat by omega)]; rfl)))
          ·
            refine z_iconst C dX2_isHidden_29 ?_
            exact hret _ _ _ _ dX2_isHidden_30 (Or.inl rfl) ⟨_, rfl, by first | exact (bI_t (by unfold hidB; rw [hs]; rfl)).symm | exact (bI_f (by unfold hidB; rw [any_1 (i := i) (by rw [decide_eq_true (show i ≠ w.toNat by omega), bz_t hz_23 c_26]; rfl) (by omega)]; rfl)).symm⟩
  refine z_sub (lv' := [(0, .ref (h 0)), (1, vI w), (2, vI 0)]) [1, 2, 0] rfl ?_
  exact L_2 ((nWa σ) + 1) 0 φ (Nat.zero_le _) (by omega) (rfl)

set_option maxRecDepth 100000 in
theorem inU_X2_X2_lampOn : ∀ w ∈ u_ws RX2 TX2 14, w ∈ wsX2_lampOn := by decide +kernel
abbrev rm_X2_lampOn : Room := { frames := 0, cells := 0, slots := 0, locals := 0 }
set_option maxHeartbeats 4000000 in
set_option maxRecDepth 100000 in
theorem c_X2_lampOn (l : Launch) (D : va_G) (cI cJ : ClassId) (h : Nat → Nat) (σ : YS) (LI BR : Nat → Int) (γ : YS) (φ : Nat → Int) (θ : Int) (c : Int) (hc : 0 ≤ c ∧ c < 144) (hO : Ok σ) : Ci l yX2_lampOn wsX2_lampOn rm_X2_lampOn D [(cI, .int), (cJ, .long)] [.ref (h 0), vI c] (mx cI h σ LI BR γ φ θ) (fun z u => u = (mx cI h σ LI BR γ φ θ) ∧ ((anyB (fun k => decide (σ 1 k = c)) (nLa σ) = true ∧ (0 ≤ z ∧ z < σ 4 0) ∧ σ 1 z.toNat = c) ∨ (anyB (fun k => decide (σ 1 k = c)) (nLa σ) = false ∧ z = -1))) := by
  refine z_ofi (own := RX2) (cc := cX2_lampOn) (maxL := 3) (lv := [(0, .ref (h 0)), (1, vI c)]) (by decide) rfl rfl (Nat.le_of_ble_eq_true rfl) rfl ?_
  intro p e s m args below meth cd Q A C hret
  have hn := hO.1
  have hm := hO.2.1
  have en := nLa_e hO
  have em := nWa_e hO
  refine z_iconst C dX2_lampOn_0 ?_
  refine z_istore_n C [(2, vI 0), (0, .ref (h 0)), (1, vI c)] dX2_lampOn_1 (by decide) rfl ?_
  have L_2 : ∀ (d9 i : Nat) (hi : i ≤ (nLa σ)) (hd : (nLa σ) + 1 ≤ i + d9) (hs : anyB (fun k => decide (σ 1 k = c)) i = false), Zs p l e rm_X2_lampOn s m args below meth cd Q A D 3 2 [(0, .ref (h 0)), (1, vI c), (2, vI (i : Int))] [] (mx cI h σ LI BR γ φ θ) 0 0 := by
    intro d9
    induction d9 with
    | zero =>
      intro i hi hd hs
      exfalso; omega
    | succ d9 ih9 =>
      intro i hi hd hs
      refine z_iload_n C 2 dX2_lampOn_2 rfl ?_
      refine z_aload_n C 0 dX2_lampOn_3 rfl ?_
      refine z_get C (v := vI (σ 4 0)) (ref := "ShadowWallsModel") (T := TX2) (N := 14) (ci := 2) 0 2 inU_X2_X2_lampOn rfl rfl (by decide) (by decide +kernel) (fun _ h9 => h9) rfl dX2_lampOn_4 ?_
      refine z_icmp_ge C (tgt := 28) dX2_lampOn_7 (by decide) (by omega) (by omega) (fun c_7 => ?_) (fun c_7 => ?_)
      ·
        obtain rfl : i = nLa σ := by omega
        refine z_iconst C dX2_lampOn_28 ?_
        exact hret _ _ _ _ dX2_lampOn_29 ⟨rfl, Or.inr ⟨hs, rfl⟩⟩
      ·
        have r_12 := hO.2.2.1 i (by omega)
        refine z_aload_n C 0 dX2_lampOn_10 rfl ?_
        refine z_get C (v := .ref (h 2)) (ref := "ShadowWallsModel") (T := TX2) (N := 14) (ci := 2) 0 3 inU_X2_X2_lampOn rfl rfl (by decide) (by decide +kernel) (fun _ h9 => h9) rfl dX2_lampOn_11 ?_
        refine z_iload_n C 2 dX2_lampOn_14 rfl ?_
        refine z_iald C (cA := cI) (N := 4) (f := σ 1) 2 0 rfl rfl (by decide) (by omega) dX2_lampOn_15 ?_
        refine z_st (v' := σ 1 i) rfl ?_
        refine z_iload_n C 1 dX2_lampOn_16 rfl ?_
        refine z_icmp_ne C (tgt := 22) dX2_lampOn_17 (by decide) (by omega) (by omega) (fun c_17 => ?_) (fun c_17 => ?_)
        ·
          refine z_iinc C 2 [(2, vI ((i : Int) + 1)), (0, .ref (h 0)), (1, vI c)] dX2_lampOn_22 rfl (by decide) rfl ?_
          refine z_goto C (tgt := 2) dX2_lampOn_25 (by decide) ?_
          refine z_chg 0 (x' := ((i + 1 : Nat) : Int)) (lv' := [(2, vI ((i + 1 : Nat) : Int)), (0, .ref (h 0)), (1, vI c)]) rfl (by omega) rfl ?_
          refine z_sub (lv' := [(0, .ref (h 0)), (1, vI c), (2, vI ((i + 1 : Nat) : Int))]) [1, 2, 0] rfl ?_
          exact ih9 (i + 1) (by omega) (by omega) (any_0 hs (by simp; omega))
        ·
          refine z_iload_n C 2 dX2_lampOn_20 rfl ?_
          exact hret _ _ _ _ dX2_lampOn_21 ⟨rfl, Or.inl ⟨any_1 (i := i) (by simp; omega) (by omega), by omega, by rw [Int.toNat_natCast]; omega⟩⟩
  refine z_sub (lv' := [(0, .ref (h 0)), (1, vI c), (2, vI 0)]) [1, 2, 0] rfl ?_
  exact L_2 ((nLa σ) + 1) 0 (Nat.zero_le _) (by omega) (rfl)

set_option maxRecDepth 100000 in
theorem inU_X2_X2_stepsTo : ∀ w ∈ u_ws RX2 TX2 14, w ∈ wsX2_stepsTo := by decide +kernel
abbrev rm_X2_stepsTo : Room := { frames := 3, cells := 0, slots := 0, locals := 66 }
set_option maxHeartbeats 4000000 in
set_option maxRecDepth 100000 in
theorem c_X2_stepsTo (l : Launch) (D : va_G) (cI cJ : ClassId) (h : Nat → Nat) (σ : YS) (LI BR : Nat → Int) (γ : YS) (φ : Nat → Int) (θ : Int) (a b : Int) (ha : 0 ≤ a ∧ a < 144) (hb9 : 0 ≤ b ∧ b < 144) (hO : Ok σ) (hL : LI4 LI) : Ci l yX2_stepsTo wsX2_stepsTo rm_X2_stepsTo D [(cI, .int), (cJ, .long)] [.ref (h 0), vI a, vI b] (mx cI h σ LI BR γ φ θ) (fun z u => ∃ γ' : YS, u = (mx cI h σ LI BR γ' φ θ) ∧ (∀ S, DistP besN (frB σ LI) a.toNat S → z = S b.toNat) ∧ -1 ≤ z ∧ z ≤ 143) := by
  refine z_ofi (own := RX2) (cc := cX2_stepsTo) (maxL := 7) (lv := [(0, .ref (h 0)), (1, vI a), (2, vI b)]) (by decide) rfl rfl (Nat.le_of_ble_eq_true rfl) rfl ?_
  intro p e s m args below meth cd Q A C hret
  have hn := hO.1
  have hm := hO.2.1
  have en := nLa_e hO
  have em := nWa_e hO
  have ea : a = ((a.toNat : Nat) : Int) := (Int.toNat_of_nonneg ha.1).symm
  refine z_iconst C dX2_stepsTo_0 ?_
  refine z_istore_n C [(3, vI 0), (0, .ref (h 0)), (1, vI a), (2, vI b)] dX2_stepsTo_1 (by decide) rfl ?_
  have L_2 : ∀ (d9 i : Nat) (hi : i ≤ 144) (hd : 144 + 1 ≤ i + d9), Zs p l e rm_X2_stepsTo s m args below meth cd Q A D 7 2 [(0, .ref (h 0)), (1, vI a), (2, vI b), (3, vI (i : Int))] [] (mx cI h σ LI BR (sA γ 0 (flI (γ 0) (-1) i)) φ θ) 0 0 := by
    intro d9
    induction d9 with
    | zero =>
      intro i hi hd
      exfalso; omega
    | succ d9 ih9 =>
      intro i hi hd
      refine z_iload_n C 3 dX2_stepsTo_2 rfl ?_
      refine z_sipush C dX2_stepsTo_3 (by decide) ?_
      refine z_icmp_ge C (tgt := 22) dX2_stepsTo_6 (by decide) (by omega) (by omega) (fun c_6 => ?_) (fun c_6 => ?_)
      ·
        have h144 : i = 144 := by omega
        refine z_aload_n C 0 dX2_stepsTo_22 rfl ?_
        refine z_get C (v := .ref (h 7)) (ref := "ShadowWallsModel") (T := TX2) (N := 14) (ci := 2) 0 10 inU_X2_X2_stepsTo rfl rfl (by decide) (by decide +kernel) (fun _ h9 => h9) rfl dX2_stepsTo_23 ?_
        refine z_iload_n C 1 dX2_stepsTo_26 rfl ?_
        refine z_iconst C dX2_stepsTo_27 ?_
        refine z_iast C (cA := cI) (N := 144) (f := (sA γ 0 (flI (γ 0) (-1) i)) 0) (ws' := (mx cI h σ LI BR (sU (sA γ 0 (flI (γ 0) (-1) i)) 0 (a.toNat) 0) φ θ)) 7 0 rfl rfl (by decide) (by omega) rfl dX2_stepsTo_28 ?_
        refine z_aload_n C 0 dX2_stepsTo_29 rfl ?_
        refine z_get C (v := .ref (h 8)) (ref := "ShadowWallsModel") (T := TX2) (N := 14) (ci := 2) 0 11 inU_X2_X2_stepsTo rfl rfl (by decide) (by decide +kernel) (fun _ h9 => h9) rfl dX2_stepsTo_30 ?_
        refine z_iconst C dX2_stepsTo_33 ?_
        refine z_iload_n C 1 dX2_stepsTo_34 rfl ?_
        refine z_iast C (cA := cI) (N := 144) (f := (sU (sA γ 0 (flI (γ 0) (-1) i)) 0 (a.toNat) 0) 1) (ws' := (mx cI h σ LI BR (sU (sU (sA γ 0 (flI (γ 0) (-1) i)) 0 (a.toNat) 0) 1 0 a) φ θ)) 8 0 rfl rfl (by decide) (by omega) rfl dX2_stepsTo_35 ?_
        refine z_iconst C dX2_stepsTo_36 ?_
        refine z_istore_n C [(3, vI 1), (0, .ref (h 0)), (1, vI a), (2, vI b)] dX2_stepsTo_37 (by decide) rfl ?_
        refine z_iconst C dX2_stepsTo_38 ?_
        refine z_istore C [(4, vI 0), (3, vI 1), (0, .ref (h 0)), (1, vI a), (2, vI b)] dX2_stepsTo_39 (by decide) rfl ?_
        have L_41 : ∀ (d9 i : Nat) (γ1 : YS) (mn : Nat) (hd : 145 ≤ i + d9) (hi : i ≤ 144) (hb : BI besN (frB σ LI) a.toNat (γ1 0) (γ1 1) mn i 0), Zs p l e rm_X2_stepsTo s m args below meth cd Q A D 7 41 [(0, .ref (h 0)), (1, vI a), (2, vI b), (3, vI (mn : Int)), (4, vI (i : Int))] [] (mx cI h σ LI BR γ1 φ θ) 0 0 := by
          intro d9
          induction d9 with
          | zero =>
            intro i γ1 mn hd hi hb
            exfalso; omega
          | succ d9 ih9 =>
            intro i γ1 mn hd hi hb
            have hr := bi_r hb
            refine z_iload C 4 dX2_stepsTo_41 rfl ?_
            refine z_iload_n C 3 dX2_stepsTo_43 rfl ?_
            refine z_icmp_ge C (tgt := 154) dX2_stepsTo_44 (by decide) (by omega) (by omega) (fun c_44 => ?_) (fun c_44 => ?_)
            ·
              refine z_aload_n C 0 dX2_stepsTo_154 rfl ?_
              refine z_get C (v := .ref (h 7)) (ref := "ShadowWallsModel") (T := TX2) (N := 14) (ci := 2) 0 10 inU_X2_X2_stepsTo rfl rfl (by decide) (by decide +kernel) (fun _ h9 => h9) rfl dX2_stepsTo_155 ?_
              refine z_iload_n C 2 dX2_stepsTo_158 rfl ?_
              refine z_iald C (cA := cI) (N := 144) (f := γ1 0) 7 0 rfl rfl (by decide) (by omega) dX2_stepsTo_159 ?_
              exact hret _ _ _ _ dX2_stepsTo_160 ⟨γ1, rfl, fun S hS => dist_eq (by omega) (bi_end hb (by omega)) hS _ (by omega), hr.2 _ (by omega)⟩
            ·
              refine z_iconst C dX2_stepsTo_47 ?_
              refine z_istore C [(5, vI 0), (0, .ref (h 0)), (1, vI a), (2, vI b), (3, vI (mn : Int)), (4, vI (i : Int))] dX2_stepsTo_48 (by decide) rfl ?_
              have L_50 : ∀ (d8 j : Nat) (γ2 : YS) (m2 : Nat) (hd2 : 5 ≤ j + d8) (hj : j ≤ 4) (hb2 : BI besN (frB σ LI) a.toNat (γ2 0) (γ2 1) m2 i j) (hm2 : i < m2), Zs p l e rm_X2_stepsTo s m args below meth cd Q A D 7 50 [(0, .ref (h 0)), (1, vI a), (2, vI b), (3, vI (m2 : Int)), (4, vI (i : Int)), (5, vI (j : Int))] [] (mx cI h σ LI BR γ2 φ θ) 0 0 := by
                intro d8
                induction d8 with
                | zero =>
                  intro j γ2 m2 hd2 hj hb2 hm2
                  exfalso; omega
                | succ d8 ih8 =>
                  intro j γ2 m2 hd2 hj hb2 hm2
                  have hr2 := bi_r hb2
                  have hq := (hb2.2.2.1 i hm2).1
                  have hqN : (((γ2 1 i).toNat : Nat) : Int) = γ2 1 i := Int.toNat_of_nonneg hq.1
                  refine z_iload C 5 dX2_stepsTo_50 rfl ?_
                  refine z_iconst C dX2_stepsTo_52 ?_
                  refine z_icmp_ge C (tgt := 148) dX2_stepsTo_53 (by decide) (by omega) (by omega) (fun c_53 => ?_) (fun c_53 => ?_)
                  ·
                    have hb4 : BI besN (frB σ LI) a.toNat (γ2 0) (γ2 1) m2 i 4 := (show j = 4 by omega) ▸ hb2
                    refine z_iinc C 4 [(4, vI ((i : Int) + 1)), (0, .ref (h 0)), (1, vI a), (2, vI b), (3, vI (m2 : Int)), (5, vI (j : Int))] dX2_stepsTo_148 rfl (by decide) rfl ?_
                    refine z_goto C (tgt := 41) dX2_stepsTo_151 (by decide) ?_
                    refine z_chg 0 (x' := ((i + 1 : Nat) : Int)) (lv' := [(4, vI ((i + 1 : Nat) : Int)), (0, .ref (h 0)), (1, vI a), (2, vI b), (3, vI (m2 : Int)), (5, vI (j : Int))]) rfl (by omega) rfl ?_
                    refine z_sub (lv' := [(0, .ref (h 0)), (1, vI a), (2, vI b), (3, vI (m2 : Int)), (4, vI ((i + 1 : Nat) : Int))]) [1, 2, 3, 4, 0] rfl ?_
                    exact ih9 (i + 1) γ2 m2 (by omega) (by omega) (bi_next hb4 hm2)
                  ·
                    refine z_aload_n C 0 dX2_stepsTo_56 rfl ?_
                    refine z_get C (v := .ref (h 8)) (ref := "ShadowWallsModel") (T := TX2) (N := 14) (ci := 2) 0 11 inU_X2_X2_stepsTo rfl rfl (by decide) (by decide +kernel) (fun _ h9 => h9) rfl dX2_stepsTo_57 ?_
                    refine z_iload C 4 dX2_stepsTo_60 rfl ?_
                    refine z_iald C (cA := cI) (N := 144) (f := γ2 1) 8 0 rfl rfl (by decide) (by omega) dX2_stepsTo_62 ?_
                    refine z_st (v' := γ2 1 i) rfl ?_
                    refine z_iload C 5 dX2_stepsTo_63 rfl ?_
                    refine z_callSi C (As := [vI (γ2 1 i), vI (j : Int)]) (st := []) (y := yX2_beside) (w := wsX2_beside) (rm := rm_X2_beside) (wr := (mx cI h σ LI BR γ2 φ θ)) (k' := 0) (n' := 0) [] [0, 1, 2, 3, 4, 5, 6, 7, 8] (c_X2_beside l D cI cJ  (γ2 1 i) (j : Int) (by omega) (by omega)) (va_cwS 2 C.1.2.2.2.2 gX2_stepsTo_X2_beside rfl rfl rfl (by decide +kernel) ⟨Nat.le_of_ble_eq_true rfl, Nat.le_of_ble_eq_true rfl⟩) rfl rfl rfl rfl rfl (by decide) rfl rfl (Nat.le_of_ble_eq_true rfl) rfl rfl ⟨Nat.le_of_ble_eq_true rfl, Nat.le_of_ble_eq_true rfl⟩ dX2_stepsTo_65 ?_
                    rintro z_65 _ ⟨rfl, hz_65⟩
                    refine z_ws (ws' := (mx cI h σ LI BR γ2 φ θ)) rfl ?_
                    have r_65 : z_65 = -1 ∨ (0 ≤ z_65 ∧ z_65 < 144) := by rw [hz_65]; exact bes_r (by omega) (by omega)
                    have hz_65 : z_65 = bes (γ2 1 i) (j : Int) := hz_65
                    refine z_istore C [(6, vI z_65), (0, .ref (h 0)), (1, vI a), (2, vI b), (3, vI (m2 : Int)), (4, vI (i : Int)), (5, vI (j : Int))] dX2_stepsTo_68 (by decide) rfl ?_
                    refine z_iload C 0 dX2_stepsTo_70 rfl ?_
                    refine z_iconst C dX2_stepsTo_72 ?_
                    refine z_icmp_eq C (tgt := 142) dX2_stepsTo_73 (by decide) (by omega) (by omega) (fun c_73 => ?_) (fun c_73 => ?_)
                    ·
                      have hx : ∀ c : Nat, c < 144 → besN (γ2 1 i).toNat j = (c : Int) → frB σ LI c = true → γ2 0 c ≠ -1 := by
                        intro c9 hc9 hN hf9
                        unfold besN at hN
                        rw [hqN, ← hz_65] at hN
                        omega
                      refine z_iinc C 6 [(5, vI ((j : Int) + 1)), (6, vI z_65), (0, .ref (h 0)), (1, vI a), (2, vI b), (3, vI (m2 : Int)), (4, vI (i : Int))] dX2_stepsTo_142 rfl (by decide) rfl ?_
                      refine z_goto C (tgt := 50) dX2_stepsTo_145 (by decide) ?_
                      refine z_chg 0 (x' := ((j + 1 : Nat) : Int)) (lv' := [(5, vI ((j + 1 : Nat) : Int)), (6, vI z_65), (0, .ref (h 0)), (1, vI a), (2, vI b), (3, vI (m2 : Int)), (4, vI (i : Int))]) rfl (by omega) rfl ?_
                      refine z_sub (lv' := [(0, .ref (h 0)), (1, vI a), (2, vI b), (3, vI (m2 : Int)), (4, vI (i : Int)), (5, vI ((j + 1 : Nat) : Int))]) [2, 3, 4, 5, 6, 0] rfl ?_
                      exact ih8 (j + 1) γ2 m2 (by omega) (by omega) (bi_skip hb2 hm2 hx) hm2
                    ·
                      have rs := hr2.2 z_65.toNat (by omega)
                      have rk := hO.2.2.2.2 z_65.toNat
                      have rL := hL z_65.toNat
                      refine z_aload_n C 1 dX2_stepsTo_76 rfl ?_
                      refine z_get C (v := .ref (h 7)) (ref := "ShadowWallsModel") (T := TX2) (N := 14) (ci := 2) 0 10 inU_X2_X2_stepsTo rfl rfl (by decide) (by decide +kernel) (fun _ h9 => h9) rfl dX2_stepsTo_77 ?_
                      refine z_iload C 0 dX2_stepsTo_80 rfl ?_
                      refine z_iald C (cA := cI) (N := 144) (f := γ2 0) 7 0 rfl rfl (by decide) (by omega) dX2_stepsTo_82 ?_
                      refine z_iconst C dX2_stepsTo_83 ?_
                      refine z_icmp_ne C (tgt := 142) dX2_stepsTo_84 (by decide) (by omega) (by omega) (fun c_84 => ?_) (fun c_84 => ?_)
                      ·
                        have hx : ∀ c : Nat, c < 144 → besN (γ2 1 i).toNat j = (c : Int) → frB σ LI c = true → γ2 0 c ≠ -1 := by
                          intro c9 hc9 hN hf9
                          unfold besN at hN
                          rw [hqN, ← hz_65] at hN
                          have e9 : z_65.toNat = c9 := by omega
                          rw [← e9]
                          exact c_84
                        refine z_iinc C 6 [(5, vI ((j : Int) + 1)), (6, vI z_65), (0, .ref (h 0)), (1, vI a), (2, vI b), (3, vI (m2 : Int)), (4, vI (i : Int))] dX2_stepsTo_142 rfl (by decide) rfl ?_
                        refine z_goto C (tgt := 50) dX2_stepsTo_145 (by decide) ?_
                        refine z_chg 0 (x' := ((j + 1 : Nat) : Int)) (lv' := [(5, vI ((j + 1 : Nat) : Int)), (6, vI z_65), (0, .ref (h 0)), (1, vI a), (2, vI b), (3, vI (m2 : Int)), (4, vI (i : Int))]) rfl (by omega) rfl ?_
                        refine z_sub (lv' := [(0, .ref (h 0)), (1, vI a), (2, vI b), (3, vI (m2 : Int)), (4, vI (i : Int)), (5, vI ((j + 1 : Nat) : Int))]) [2, 3, 4, 5, 6, 0] rfl ?_
                        exact ih8 (j + 1) γ2 m2 (by omega) (by omega) (bi_skip hb2 hm2 hx) hm2
                      ·
                        refine z_aload_n C 1 dX2_stepsTo_87 rfl ?_
                        refine z_get C (v := .ref (h 1)) (ref := "ShadowWallsModel") (T := TX2) (N := 14) (ci := 2) 0 1 inU_X2_X2_stepsTo rfl rfl (by decide) (by decide +kernel) (fun _ h9 => h9) rfl dX2_stepsTo_88 ?_
                        refine z_iload C 0 dX2_stepsTo_91 rfl ?_
                        refine z_iald C (cA := cI) (N := 144) (f := σ 0) 1 0 rfl rfl (by decide) (by omega) dX2_stepsTo_93 ?_
                        refine z_if_ne C (tgt := 142) dX2_stepsTo_94 (by decide) (by omega) (fun c_94 => ?_) (fun c_94 => ?_)
                        ·
                          have hx : ∀ c : Nat, c < 144 → besN (γ2 1 i).toNat j = (c : Int) → frB σ LI c = true → γ2 0 c ≠ -1 := by
                            intro c9 hc9 hN hf9
                            unfold besN at hN
                            rw [hqN, ← hz_65] at hN
                            have e9 : z_65.toNat = c9 := by omega
                            unfold frB at hf9
                            rw [← e9, decide_eq_false c_94] at hf9
                            exact absurd hf9 (by simp)
                          refine z_iinc C 6 [(5, vI ((j : Int) + 1)), (6, vI z_65), (0, .ref (h 0)), (1, vI a), (2, vI b), (3, vI (m2 : Int)), (4, vI (i : Int))] dX2_stepsTo_142 rfl (by decide) rfl ?_
                          refine z_goto C (tgt := 50) dX2_stepsTo_145 (by decide) ?_
                          refine z_chg 0 (x' := ((j + 1 : Nat) : Int)) (lv' := [(5, vI ((j + 1 : Nat) : Int)), (6, vI z_65), (0, .ref (h 0)), (1, vI a), (2, vI b), (3, vI (m2 : Int)), (4, vI (i : Int))]) rfl (by omega) rfl ?_
                          refine z_sub (lv' := [(0, .ref (h 0)), (1, vI a), (2, vI b), (3, vI (m2 : Int)), (4, vI (i : Int)), (5, vI ((j + 1 : Nat) : Int))]) [2, 3, 4, 5, 6, 0] rfl ?_
                          exact ih8 (j + 1) γ2 m2 (by omega) (by omega) (bi_skip hb2 hm2 hx) hm2
                        ·
                          refine z_aload_n C 1 dX2_stepsTo_97 rfl ?_
                          refine z_get C (v := .ref (h 5)) (ref := "ShadowWallsModel") (T := TX2) (N := 14) (ci := 2) 0 8 inU_X2_X2_stepsTo rfl rfl (by decide) (by decide +kernel) (fun _ h9 => h9) rfl dX2_stepsTo_98 ?_
                          refine z_iload C 0 dX2_stepsTo_101 rfl ?_
                          refine z_iald C (cA := cI) (N := 144) (f := LI) 5 0 rfl rfl (by decide) (by omega) dX2_stepsTo_103 ?_
                          refine z_if_le C (tgt := 110) dX2_stepsTo_104 (by decide) (by omega) (fun c_104 => ?_) (fun c_104 => ?_)
                          ·
                            have hrs := hr2.2 (γ2 1 i).toNat (by omega)
                            have hp := bi_push (c := z_65.toNat) hb2 (by omega) hm2 (by omega) (by omega) (by unfold besN; rw [hqN, ← hz_65]; omega) (by unfold frB; rw [decide_eq_true (show σ 0 z_65.toNat = 0 by omega), decide_eq_true (show LI z_65.toNat = 0 by omega)]; rfl) (by omega)
                            rw [Int.toNat_of_nonneg (show 0 ≤ z_65 by omega)] at hp
                            refine z_aload_n C 1 dX2_stepsTo_110 rfl ?_
                            refine z_get C (v := .ref (h 7)) (ref := "ShadowWallsModel") (T := TX2) (N := 14) (ci := 2) 0 10 inU_X2_X2_stepsTo rfl rfl (by decide) (by decide +kernel) (fun _ h9 => h9) rfl dX2_stepsTo_111 ?_
                            refine z_iload C 0 dX2_stepsTo_114 rfl ?_
                            refine z_aload_n C 1 dX2_stepsTo_116 rfl ?_
                            refine z_get C (v := .ref (h 7)) (ref := "ShadowWallsModel") (T := TX2) (N := 14) (ci := 2) 0 10 inU_X2_X2_stepsTo rfl rfl (by decide) (by decide +kernel) (fun _ h9 => h9) rfl dX2_stepsTo_117 ?_
                            refine z_aload_n C 1 dX2_stepsTo_120 rfl ?_
                            refine z_get C (v := .ref (h 8)) (ref := "ShadowWallsModel") (T := TX2) (N := 14) (ci := 2) 0 11 inU_X2_X2_stepsTo rfl rfl (by decide) (by decide +kernel) (fun _ h9 => h9) rfl dX2_stepsTo_121 ?_
                            refine z_iload C 5 dX2_stepsTo_124 rfl ?_
                            refine z_iald C (cA := cI) (N := 144) (f := γ2 1) 8 0 rfl rfl (by decide) (by omega) dX2_stepsTo_126 ?_
                            refine z_st (v' := γ2 1 i) rfl ?_
                            refine z_iald C (cA := cI) (N := 144) (f := γ2 0) 7 0 rfl rfl (by decide) (by omega) dX2_stepsTo_127 ?_
                            refine z_iconst C dX2_stepsTo_128 ?_
                            refine z_iadd C dX2_stepsTo_129 ?_
                            refine z_iast C (cA := cI) (N := 144) (f := γ2 0) (ws' := (mx cI h σ LI BR (sU γ2 0 (z_65.toNat) ((γ2 0 ((γ2 1 i).toNat)) + 1)) φ θ)) 7 0 rfl rfl (by decide) (by omega) rfl dX2_stepsTo_130 ?_
                            refine z_aload_n C 1 dX2_stepsTo_131 rfl ?_
                            refine z_get C (v := .ref (h 8)) (ref := "ShadowWallsModel") (T := TX2) (N := 14) (ci := 2) 0 11 inU_X2_X2_stepsTo rfl rfl (by decide) (by decide +kernel) (fun _ h9 => h9) rfl dX2_stepsTo_132 ?_
                            refine z_iload_n C 4 dX2_stepsTo_135 rfl ?_
                            refine z_iload C 0 dX2_stepsTo_136 rfl ?_
                            refine z_iast C (cA := cI) (N := 144) (f := (sU γ2 0 (z_65.toNat) ((γ2 0 ((γ2 1 i).toNat)) + 1)) 1) (ws' := (mx cI h σ LI BR (sU (sU γ2 0 (z_65.toNat) ((γ2 0 ((γ2 1 i).toNat)) + 1)) 1 m2 z_65) φ θ)) 8 0 rfl rfl (by decide) (by omega) rfl dX2_stepsTo_138 ?_
                            refine z_iinc C 4 [(3, vI ((m2 : Int) + 1)), (6, vI z_65), (0, .ref (h 0)), (1, vI a), (2, vI b), (4, vI (i : Int)), (5, vI (j : Int))] dX2_stepsTo_139 rfl (by decide) rfl ?_
                            refine z_iinc C 6 [(5, vI ((j : Int) + 1)), (3, vI ((m2 : Int) + 1)), (6, vI z_65), (0, .ref (h 0)), (1, vI a), (2, vI b), (4, vI (i : Int))] dX2_stepsTo_142 rfl (by decide) rfl ?_
                            refine z_goto C (tgt := 50) dX2_stepsTo_145 (by decide) ?_
                            refine z_chg 1 (x' := ((m2 + 1 : Nat) : Int)) (lv' := [(5, vI ((j : Int) + 1)), (3, vI ((m2 + 1 : Nat) : Int)), (6, vI z_65), (0, .ref (h 0)), (1, vI a), (2, vI b), (4, vI (i : Int))]) rfl (by omega) rfl ?_
                            refine z_chg 0 (x' := ((j + 1 : Nat) : Int)) (lv' := [(5, vI ((j + 1 : Nat) : Int)), (3, vI ((m2 + 1 : Nat) : Int)), (6, vI z_65), (0, .ref (h 0)), (1, vI a), (2, vI b), (4, vI (i : Int))]) rfl (by omega) rfl ?_
                            refine z_sub (lv' := [(0, .ref (h 0)), (1, vI a), (2, vI b), (3, vI ((m2 + 1 : Nat) : Int)), (4, vI (i : Int)), (5, vI ((j + 1 : Nat) : Int))]) [3, 4, 5, 1, 6, 0] rfl ?_
                            exact ih8 (j + 1) _ (m2 + 1) (by omega) (by omega) hp.2 (by omega)
                          ·
                            have hx : ∀ c : Nat, c < 144 → besN (γ2 1 i).toNat j = (c : Int) → frB σ LI c = true → γ2 0 c ≠ -1 := by
                              intro c9 hc9 hN hf9
                              unfold besN at hN
                              rw [hqN, ← hz_65] at hN
                              have e9 : z_65.toNat = c9 := by omega
                              unfold frB at hf9
                              rw [← e9, decide_eq_false (show ¬ LI z_65.toNat = 0 by omega)] at hf9
                              exact absurd hf9 (by simp)
                            refine z_goto C (tgt := 142) dX2_stepsTo_107 (by decide) ?_
                            refine z_iinc C 6 [(5, vI ((j : Int) + 1)), (6, vI z_65), (0, .ref (h 0)), (1, vI a), (2, vI b), (3, vI (m2 : Int)), (4, vI (i : Int))] dX2_stepsTo_142 rfl (by decide) rfl ?_
                            refine z_goto C (tgt := 50) dX2_stepsTo_145 (by decide) ?_
                            refine z_chg 0 (x' := ((j + 1 : Nat) : Int)) (lv' := [(5, vI ((j + 1 : Nat) : Int)), (6, vI z_65), (0, .ref (h 0)), (1, vI a), (2, vI b), (3, vI (m2 : Int)), (4, vI (i : Int))]) rfl (by omega) rfl ?_
                            refine z_sub (lv' := [(0, .ref (h 0)), (1, vI a), (2, vI b), (3, vI (m2 : Int)), (4, vI (i : Int)), (5, vI ((j + 1 : Nat) : Int))]) [2, 3, 4, 5, 6, 0] rfl ?_
                            exact ih8 (j + 1) γ2 m2 (by omega) (by omega) (bi_skip hb2 hm2 hx) hm2
              refine z_sub (lv' := [(0, .ref (h 0)), (1, vI a), (2, vI b), (3, vI (mn : Int)), (4, vI (i : Int)), (5, vI 0)]) [1, 2, 3, 4, 5, 0] rfl ?_
              exact L_50 5 0 γ1 mn (by omega) (by omega) hb (by omega)
        refine z_sub (lv' := [(0, .ref (h 0)), (1, vI a), (2, vI b), (3, vI 1), (4, vI 0)]) [2, 3, 4, 1, 0] rfl ?_
        exact L_41 145 0 _ 1 (by omega) (by omega) (bi_0 (by omega) (fun c hc => by
            show (if c = a.toNat then (0 : Int) else flI (γ 0) (-1) i c) = _
            unfold flI
            rw [if_pos (show c < i by omega)]) ea)
      ·
        refine z_aload_n C 0 dX2_stepsTo_9 rfl ?_
        refine z_get C (v := .ref (h 7)) (ref := "ShadowWallsModel") (T := TX2) (N := 14) (ci := 2) 0 10 inU_X2_X2_stepsTo rfl rfl (by decide) (by decide +kernel) (fun _ h9 => h9) rfl dX2_stepsTo_10 ?_
        refine z_iload_n C 3 dX2_stepsTo_13 rfl ?_
        refine z_iconst C dX2_stepsTo_14 ?_
        refine z_iast C (cA := cI) (N := 144) (f := (sA γ 0 (flI (γ 0) (-1) i)) 0) (ws' := (mx cI h σ LI BR (sU (sA γ 0 (flI (γ 0) (-1) i)) 0 i (-1)) φ θ)) 7 0 rfl rfl (by decide) (by omega) rfl dX2_stepsTo_15 ?_
        refine z_iinc C 3 [(3, vI ((i : Int) + 1)), (0, .ref (h 0)), (1, vI a), (2, vI b)] dX2_stepsTo_16 rfl (by decide) rfl ?_
        refine z_goto C (tgt := 2) dX2_stepsTo_19 (by decide) ?_
        refine z_chg 0 (x' := ((i + 1 : Nat) : Int)) (lv' := [(3, vI ((i + 1 : Nat) : Int)), (0, .ref (h 0)), (1, vI a), (2, vI b)]) rfl (by omega) rfl ?_
        refine z_sub (lv' := [(0, .ref (h 0)), (1, vI a), (2, vI b), (3, vI ((i + 1 : Nat) : Int))]) [1, 2, 3, 0] rfl ?_
        refine z_ws (ws' := (mx cI h σ LI BR (sA γ 0 (flI (γ 0) (-1) (i + 1))) φ θ)) (by first | (rw [sA_fl]; done) | (rw [sU_fl]; done)) ?_
        exact ih9 (i + 1) (by omega) (by omega)
  refine z_sub (lv' := [(0, .ref (h 0)), (1, vI a), (2, vI b), (3, vI 0)]) [1, 2, 3, 0] rfl ?_
  refine z_ws (ws' := (mx cI h σ LI BR (sA γ 0 (flI (γ 0) (-1) 0)) φ θ)) (by first | (rw [sA_fl]; done) | (rw [sU_fl]; done)) ?_
  exact L_2 (144 + 1) 0 (Nat.zero_le _) (by omega)

set_option maxRecDepth 100000 in
theorem inU_X2_X2_watchersAt : ∀ w ∈ u_ws RX2 TX2 14, w ∈ wsX2_watchersAt := by decide +kernel
abbrev rm_X2_watchersAt : Room := { frames := 0, cells := 0, slots := 0, locals := 0 }
set_option maxHeartbeats 4000000 in
set_option maxRecDepth 100000 in
theorem c_X2_watchersAt (l : Launch) (D : va_G) (cI cJ : ClassId) (h : Nat → Nat) (σ : YS) (LI BR : Nat → Int) (γ : YS) (φ : Nat → Int) (θ : Int) (c : Int) (hc : 0 ≤ c ∧ c < 144) (hO : Ok σ) : Ci l yX2_watchersAt wsX2_watchersAt rm_X2_watchersAt D [(cI, .int), (cJ, .long)] [.ref (h 0), vI c] (mx cI h σ LI BR γ φ θ) (fun z u => u = (mx cI h σ LI BR γ φ θ) ∧ z = sm (fun w => bI (decide (σ 3 w = c))) (nWa σ)) := by
  refine z_ofi (own := RX2) (cc := cX2_watchersAt) (maxL := 4) (lv := [(0, .ref (h 0)), (1, vI c)]) (by decide) rfl rfl (Nat.le_of_ble_eq_true rfl) rfl ?_
  intro p e s m args below meth cd Q A C hret
  have hn := hO.1
  have hm := hO.2.1
  have en := nLa_e hO
  have em := nWa_e hO
  refine z_iconst C dX2_watchersAt_0 ?_
  refine z_istore_n C [(2, vI 0), (0, .ref (h 0)), (1, vI c)] dX2_watchersAt_1 (by decide) rfl ?_
  refine z_iconst C dX2_watchersAt_2 ?_
  refine z_istore_n C [(3, vI 0), (2, vI 0), (0, .ref (h 0)), (1, vI c)] dX2_watchersAt_3 (by decide) rfl ?_
  have L_4 : ∀ (d9 i : Nat) (hi : i ≤ (nWa σ)) (hd : (nWa σ) + 1 ≤ i + d9), Zs p l e rm_X2_watchersAt s m args below meth cd Q A D 4 4 [(0, .ref (h 0)), (1, vI c), (2, vI (sm (fun w => bI (decide (σ 3 w = c))) i)), (3, vI (i : Int))] [] (mx cI h σ LI BR γ φ θ) 0 0 := by
    intro d9
    induction d9 with
    | zero =>
      intro i hi hd
      exfalso; omega
    | succ d9 ih9 =>
      intro i hi hd
      refine z_iload_n C 3 dX2_watchersAt_4 rfl ?_
      refine z_aload_n C 0 dX2_watchersAt_5 rfl ?_
      refine z_get C (v := vI (σ 4 1)) (ref := "ShadowWallsModel") (T := TX2) (N := 14) (ci := 2) 0 5 inU_X2_X2_watchersAt rfl rfl (by decide) (by decide +kernel) (fun _ h9 => h9) rfl dX2_watchersAt_6 ?_
      refine z_icmp_ge C (tgt := 36) dX2_watchersAt_9 (by decide) (by omega) (by omega) (fun c_9 => ?_) (fun c_9 => ?_)
      ·
        obtain rfl : i = nWa σ := by omega
        refine z_iload_n C 2 dX2_watchersAt_36 rfl ?_
        exact hret _ _ _ _ dX2_watchersAt_37 ⟨rfl, by rfl⟩
      ·
        have r_18 := hO.2.2.2.1 i (by omega)
        have s1 := smB_r (fun w => decide (σ 3 w = c)) i
        refine z_iload_n C 2 dX2_watchersAt_12 rfl ?_
        refine z_aload_n C 0 dX2_watchersAt_13 rfl ?_
        refine z_get C (v := .ref (h 4)) (ref := "ShadowWallsModel") (T := TX2) (N := 14) (ci := 2) 0 6 inU_X2_X2_watchersAt rfl rfl (by decide) (by decide +kernel) (fun _ h9 => h9) rfl dX2_watchersAt_14 ?_
        refine z_iload_n C 3 dX2_watchersAt_17 rfl ?_
        refine z_iald C (cA := cI) (N := 6) (f := σ 3) 4 0 rfl rfl (by decide) (by omega) dX2_watchersAt_18 ?_
        refine z_st (v' := σ 3 i) rfl ?_
        refine z_iload_n C 1 dX2_watchersAt_19 rfl ?_
        refine z_icmp_ne C (tgt := 27) dX2_watchersAt_20 (by decide) (by omega) (by omega) (fun c_20 => ?_) (fun c_20 => ?_)
        ·
          refine z_iconst C dX2_watchersAt_27 ?_
          refine z_iadd C dX2_watchersAt_28 ?_
          refine z_istore_n C [(2, vI ((sm (fun w => bI (decide (σ 3 w = c))) i) + 0)), (0, .ref (h 0)), (1, vI c), (3, vI (i : Int))] dX2_watchersAt_29 (by decide) rfl ?_
          refine z_iinc C 3 [(3, vI ((i : Int) + 1)), (2, vI ((sm (fun w => bI (decide (σ 3 w = c))) i) + 0)), (0, .ref (h 0)), (1, vI c)] dX2_watchersAt_30 rfl (by decide) rfl ?_
          refine z_goto C (tgt := 4) dX2_watchersAt_33 (by decide) ?_
          refine z_chg 1 (x' := sm (fun w => bI (decide (σ 3 w = c))) (i + 1)) (lv' := [(3, vI ((i : Int) + 1)), (2, vI (sm (fun w => bI (decide (σ 3 w = c))) (i + 1))), (0, .ref (h 0)), (1, vI c)]) rfl (by first | exact sm_t (by simp; omega) | exact (Int.add_zero _).trans (sm_f (by simp; omega))) rfl ?_
          refine z_chg 0 (x' := ((i + 1 : Nat) : Int)) (lv' := [(3, vI ((i + 1 : Nat) : Int)), (2, vI (sm (fun w => bI (decide (σ 3 w = c))) (i + 1))), (0, .ref (h 0)), (1, vI c)]) rfl (by omega) rfl ?_
          refine z_sub (lv' := [(0, .ref (h 0)), (1, vI c), (2, vI (sm (fun w => bI (decide (σ 3 w = c))) (i + 1))), (3, vI ((i + 1 : Nat) : Int))]) [2, 3, 1, 0] rfl ?_
          exact ih9 (i + 1) (by omega) (by omega)
        ·
          refine z_iconst C dX2_watchersAt_23 ?_
          refine z_goto C (tgt := 28) dX2_watchersAt_24 (by decide) ?_
          refine z_iadd C dX2_watchersAt_28 ?_
          refine z_istore_n C [(2, vI ((sm (fun w => bI (decide (σ 3 w = c))) i) + 1)), (0, .ref (h 0)), (1, vI c), (3, vI (i : Int))] dX2_watchersAt_29 (by decide) rfl ?_
          refine z_iinc C 3 [(3, vI ((i : Int) + 1)), (2, vI ((sm (fun w => bI (decide (σ 3 w = c))) i) + 1)), (0, .ref (h 0)), (1, vI c)] dX2_watchersAt_30 rfl (by decide) rfl ?_
          refine z_goto C (tgt := 4) dX2_watchersAt_33 (by decide) ?_
          refine z_chg 1 (x' := sm (fun w => bI (decide (σ 3 w = c))) (i + 1)) (lv' := [(3, vI ((i : Int) + 1)), (2, vI (sm (fun w => bI (decide (σ 3 w = c))) (i + 1))), (0, .ref (h 0)), (1, vI c)]) rfl (by first | exact sm_t (by simp; omega) | exact (Int.add_zero _).trans (sm_f (by simp; omega))) rfl ?_
          refine z_chg 0 (x' := ((i + 1 : Nat) : Int)) (lv' := [(3, vI ((i + 1 : Nat) : Int)), (2, vI (sm (fun w => bI (decide (σ 3 w = c))) (i + 1))), (0, .ref (h 0)), (1, vI c)]) rfl (by omega) rfl ?_
          refine z_sub (lv' := [(0, .ref (h 0)), (1, vI c), (2, vI (sm (fun w => bI (decide (σ 3 w = c))) (i + 1))), (3, vI ((i + 1 : Nat) : Int))]) [2, 3, 1, 0] rfl ?_
          exact ih9 (i + 1) (by omega) (by omega)
  refine z_sub (lv' := [(0, .ref (h 0)), (1, vI c), (2, vI 0), (3, vI 0)]) [2, 3, 1, 0] rfl ?_
  exact L_4 ((nWa σ) + 1) 0 (Nat.zero_le _) (by omega)

set_option maxRecDepth 100000 in
theorem inU_X2_X2_watchersOf : ∀ w ∈ u_ws RX2 TX2 14, w ∈ wsX2_watchersOf := by decide +kernel
abbrev rm_X2_watchersOf : Room := { frames := 4, cells := 0, slots := 0, locals := 99 }
set_option maxHeartbeats 4000000 in
set_option maxRecDepth 100000 in
theorem c_X2_watchersOf (l : Launch) (D : va_G) (cI cJ : ClassId) (h : Nat → Nat) (σ : YS) (LI BR : Nat → Int) (γ : YS) (φ : Nat → Int) (θ : Int) (c : Int) (hc : 0 ≤ c ∧ c < 144) (hO : Ok σ) (hL : LI4 LI) : Ci l yX2_watchersOf wsX2_watchersOf rm_X2_watchersOf D [(cI, .int), (cJ, .long)] [.ref (h 0), vI c] (mx cI h σ LI BR γ φ θ) (fun z u => ∃ φ' : Nat → Int, u = (mx cI h σ LI BR γ φ' θ) ∧ z = sm (fun o => bI (seeB σ LI o c.toNat)) (nWa σ)) := by
  refine z_ofi (own := RX2) (cc := cX2_watchersOf) (maxL := 4) (lv := [(0, .ref (h 0)), (1, vI c)]) (by decide) rfl rfl (Nat.le_of_ble_eq_true rfl) rfl ?_
  intro p e s m args below meth cd Q A C hret
  have hn := hO.1
  have hm := hO.2.1
  have en := nLa_e hO
  have em := nWa_e hO
  refine z_iconst C dX2_watchersOf_0 ?_
  refine z_istore_n C [(2, vI 0), (0, .ref (h 0)), (1, vI c)] dX2_watchersOf_1 (by decide) rfl ?_
  refine z_iconst C dX2_watchersOf_2 ?_
  refine z_istore_n C [(3, vI 0), (2, vI 0), (0, .ref (h 0)), (1, vI c)] dX2_watchersOf_3 (by decide) rfl ?_
  have L_4 : ∀ (d9 i : Nat) (φ1 : Nat → Int) (hi : i ≤ (nWa σ)) (hd : (nWa σ) + 1 ≤ i + d9), Zs p l e rm_X2_watchersOf s m args below meth cd Q A D 4 4 [(0, .ref (h 0)), (1, vI c), (2, vI (sm (fun o => bI (seeB σ LI o c.toNat)) i)), (3, vI (i : Int))] [] (mx cI h σ LI BR γ φ1 θ) 0 0 := by
    intro d9
    induction d9 with
    | zero =>
      intro i φ1 hi hd
      exfalso; omega
    | succ d9 ih9 =>
      intro i φ1 hi hd
      have s1 := smB_r (fun o => seeB σ LI o c.toNat) i
      refine z_iload_n C 3 dX2_watchersOf_4 rfl ?_
      refine z_aload_n C 0 dX2_watchersOf_5 rfl ?_
      refine z_get C (v := vI (σ 4 1)) (ref := "ShadowWallsModel") (T := TX2) (N := 14) (ci := 2) 0 5 inU_X2_X2_watchersOf rfl rfl (by decide) (by decide +kernel) (fun _ h9 => h9) rfl dX2_watchersOf_6 ?_
      refine z_icmp_ge C (tgt := 35) dX2_watchersOf_9 (by decide) (by omega) (by omega) (fun c_9 => ?_) (fun c_9 => ?_)
      ·
        obtain rfl : i = (nWa σ) := by omega
        refine z_iload_n C 2 dX2_watchersOf_35 rfl ?_
        exact hret _ _ _ _ dX2_watchersOf_36 ⟨_, rfl, by rfl⟩
      ·
        refine z_iload_n C 2 dX2_watchersOf_12 rfl ?_
        refine z_aload_n C 0 dX2_watchersOf_13 rfl ?_
        refine z_iload_n C 3 dX2_watchersOf_14 rfl ?_
        refine z_iload_n C 1 dX2_watchersOf_15 rfl ?_
        refine z_callVi C (As := [vI (i : Int), vI c]) (st := [vI (sm (fun o => bI (seeB σ LI o c.toNat)) i)]) (y := yX2_seesCell) (w := wsX2_seesCell) (rm := rm_X2_seesCell) (wr := []) (k' := 0) (n' := 0) [0, 1, 2, 3, 4, 5, 6, 7, 8] [] 0 (c_X2_seesCell l D cI cJ h σ LI BR γ φ1 θ (i : Int) c (by omega) (by omega) hO hL) (cwV 2 C.1.2.2.2.2 gX2_watchersOf_X2_seesCell rfl rfl rfl (by decide +kernel) ⟨Nat.le_of_ble_eq_true rfl, Nat.le_of_ble_eq_true rfl⟩) rfl rfl rfl rfl rfl (by decide) rfl rfl rfl rfl (Nat.le_of_ble_eq_true rfl) rfl rfl ⟨Nat.le_of_ble_eq_true rfl, Nat.le_of_ble_eq_true rfl⟩ dX2_watchersOf_16 ?_
        rintro z_16 _ ⟨φ'_16, rfl, hz_16⟩
        refine z_ws (ws' := (mx cI h σ LI BR γ φ'_16 θ)) rfl ?_
        have r_16 : z_16 = 0 ∨ z_16 = 1 := by rw [hz_16]; exact bI_01 _
        have hz_16 : z_16 = bI (seeB σ LI i c.toNat) := hz_16
        refine z_if_eq C (tgt := 26) dX2_watchersOf_19 (by decide) (by omega) (fun c_19 => ?_) (fun c_19 => ?_)
        ·
          refine z_iconst C dX2_watchersOf_26 ?_
          refine z_iadd C dX2_watchersOf_27 ?_
          refine z_istore_n C [(2, vI ((sm (fun o => bI (seeB σ LI o c.toNat)) i) + 0)), (0, .ref (h 0)), (1, vI c), (3, vI (i : Int))] dX2_watchersOf_28 (by decide) rfl ?_
          refine z_iinc C 3 [(3, vI ((i : Int) + 1)), (2, vI ((sm (fun o => bI (seeB σ LI o c.toNat)) i) + 0)), (0, .ref (h 0)), (1, vI c)] dX2_watchersOf_29 rfl (by decide) rfl ?_
          refine z_goto C (tgt := 4) dX2_watchersOf_32 (by decide) ?_
          refine z_chg 1 (x' := sm (fun o => bI (seeB σ LI o c.toNat)) (i + 1)) (lv' := [(3, vI ((i : Int) + 1)), (2, vI (sm (fun o => bI (seeB σ LI o c.toNat)) (i + 1))), (0, .ref (h 0)), (1, vI c)]) rfl (by first | exact sm_t (bz_t hz_16 c_19) | exact (Int.add_zero _).trans (sm_f (bz_f hz_16 c_19)) | exact sm_f (bz_f hz_16 c_19)) rfl ?_
          refine z_chg 0 (x' := ((i + 1 : Nat) : Int)) (lv' := [(3, vI ((i + 1 : Nat) : Int)), (2, vI (sm (fun o => bI (seeB σ LI o c.toNat)) (i + 1))), (0, .ref (h 0)), (1, vI c)]) rfl (by omega) rfl ?_
          refine z_sub (lv' := [(0, .ref (h 0)), (1, vI c), (2, vI (sm (fun o => bI (seeB σ LI o c.toNat)) (i + 1))), (3, vI ((i + 1 : Nat) : Int))]) [2, 3, 1, 0] rfl ?_
          exact ih9 (i + 1) φ'_16 (by omega) (by omega)
        ·
          refine z_iconst C dX2_watchersOf_22 ?_
          refine z_goto C (tgt := 27) dX2_watchersOf_23 (by decide) ?_
          refine z_iadd C dX2_watchersOf_27 ?_
          refine z_istore_n C [(2, vI ((sm (fun o => bI (seeB σ LI o c.toNat)) i) + 1)), (0, .ref (h 0)), (1, vI c), (3, vI (i : Int))] dX2_watchersOf_28 (by decide) rfl ?_
          refine z_iinc C 3 [(3, vI ((i : Int) + 1)), (2, vI ((sm (fun o => bI (seeB σ LI o c.toNat)) i) + 1)), (0, .ref (h 0)), (1, vI c)] dX2_watchersOf_29 rfl (by decide) rfl ?_
          refine z_goto C (tgt := 4) dX2_watchersOf_32 (by decide) ?_
          refine z_chg 1 (x' := sm (fun o => bI (seeB σ LI o c.toNat)) (i + 1)) (lv' := [(3, vI ((i : Int) + 1)), (2, vI (sm (fun o => bI (seeB σ LI o c.toNat)) (i + 1))), (0, .ref (h 0)), (1, vI c)]) rfl (by first | exact sm_t (bz_t hz_16 c_19) | exact (Int.add_zero _).trans (sm_f (bz_f hz_16 c_19)) | exact sm_f (bz_f hz_16 c_19)) rfl ?_
          refine z_chg 0 (x' := ((i + 1 : Nat) : Int)) (lv' := [(3, vI ((i + 1 : Nat) : Int)), (2, vI (sm (fun o => bI (seeB σ LI o c.toNat)) (i + 1))), (0, .ref (h 0)), (1, vI c)]) rfl (by omega) rfl ?_
          refine z_sub (lv' := [(0, .ref (h 0)), (1, vI c), (2, vI (sm (fun o => bI (seeB σ LI o c.toNat)) (i + 1))), (3, vI ((i + 1 : Nat) : Int))]) [2, 3, 1, 0] rfl ?_
          exact ih9 (i + 1) φ'_16 (by omega) (by omega)
  refine z_sub (lv' := [(0, .ref (h 0)), (1, vI c), (2, vI 0), (3, vI 0)]) [2, 3, 1, 0] rfl ?_
  exact L_4 ((nWa σ) + 1) 0 φ (Nat.zero_le _) (by omega)
