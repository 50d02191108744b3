/-! what the reference tells -/
def tolM (σ : YS) (LI BR : Nat → Int) (c : Nat) (wh : Int) : Int := if wh = 0 then σ 0 c else if wh = 1 then BR c else if wh = 2 then LI c else if wh = 3 then sm (fun w => bI (decide (σ 3 w = (c : Int)))) (nWa σ) else sm (fun o => bI (seeB σ LI o c)) (nWa σ)
def aboM (σ : YS) (LI : Nat → Int) (k : Nat) (wh : Int) : Int := if wh = 0 then σ 1 k else if wh = 1 then σ 2 k else if wh = 2 then sm (fun c => bI (litB σ k c)) 144 else sm (fun c => bI (litB σ k c && decide (LI c = 1))) 144
def couM (σ : YS) (LI BR : Nat → Int) (wh : Int) : Int := if wh = 0 then σ 4 0 else if wh = 1 then σ 4 1 else if wh = 2 then sm (fun c => bI (decide (σ 0 c ≠ 0))) 144 else if wh = 3 then litC LI else if wh = 4 then sm (fun c => bI (edF LI c 2) + bI (edF LI c 3)) 144 else if wh = 5 then sm (fun o => bI (hidB σ LI o)) (nWa σ) else if wh = 6 then sm BR 144 else σ 4 2
theorem ed_bes {c : Int} {j : Nat} (hj : j < 2) : bes c (1 + 2 * (j : Int)) = nb c (2 + (j : Int)) := by
  rcases (show j = 0 ∨ j = 1 by omega) with rfl | rfl
  · exact (bes_nb (c := c) (s := 0)).2.1
  · exact (bes_nb (c := c) (s := 0)).2.2.2
set_option maxRecDepth 100000 in
theorem inU_X2_X2_cellTold : ∀ w ∈ u_ws RX2 TX2 14, w ∈ wsX2_cellTold := by decide +kernel
abbrev rm_X2_cellTold : Room := { frames := 5, cells := 0, slots := 0, locals := 122 }
set_option maxHeartbeats 4000000 in
set_option maxRecDepth 100000 in
theorem c_X2_cellTold (l : Launch) (D : va_G) (cI cJ : ClassId) (h : Nat → Nat) (σ : YS) (LI BR : Nat → Int) (γ : YS) (φ : Nat → Int) (θ : Int) (c wh : Int) (hc : 0 ≤ c ∧ c < 144) (hwh : 0 ≤ wh ∧ wh < 5) (hO : Ok σ) (hL : LI4 LI) : Ci l yX2_cellTold wsX2_cellTold rm_X2_cellTold D [(cI, .int), (cJ, .long)] [.ref (h 0), vI c, vI wh] (mx cI h σ LI BR γ φ θ) (fun z u => ∃ φ' : Nat → Int, u = (mx cI h σ LI BR γ φ' θ) ∧ z = tolM σ LI BR c.toNat wh) := by
  refine z_ofi (own := RX2) (cc := cX2_cellTold) (maxL := 3) (lv := [(0, .ref (h 0)), (1, vI c), (2, vI wh)]) (by decide) rfl rfl (Nat.le_of_ble_eq_true rfl) rfl ?_
  intro p e s m args below meth cd Q A C hret
  have hn := hO.1
  have hm := hO.2.1
  have en := nLa_e hO
  have em := nWa_e hO
  have ec : ((c.toNat : Nat) : Int) = c := Int.toNat_of_nonneg hc.1
  refine z_iload_n C 2 dX2_cellTold_0 rfl ?_
  refine z_if_ne C (tgt := 13) dX2_cellTold_1 (by decide) (by omega) (fun c_1 => ?_) (fun c_1 => ?_)
  ·
    refine z_iload_n C 2 dX2_cellTold_13 rfl ?_
    refine z_iconst C dX2_cellTold_14 ?_
    refine z_icmp_ne C (tgt := 27) dX2_cellTold_15 (by decide) (by omega) (by omega) (fun c_15 => ?_) (fun c_15 => ?_)
    ·
      refine z_iload_n C 2 dX2_cellTold_27 rfl ?_
      refine z_iconst C dX2_cellTold_28 ?_
      refine z_icmp_ne C (tgt := 41) dX2_cellTold_29 (by decide) (by omega) (by omega) (fun c_29 => ?_) (fun c_29 => ?_)
      ·
        refine z_iload_n C 2 dX2_cellTold_41 rfl ?_
        refine z_iconst C dX2_cellTold_42 ?_
        refine z_icmp_ne C (tgt := 54) dX2_cellTold_43 (by decide) (by omega) (by omega) (fun c_43 => ?_) (fun c_43 => ?_)
        ·
          refine z_aload_n C 0 dX2_cellTold_54 rfl ?_
          refine z_iload_n C 1 dX2_cellTold_55 rfl ?_
          refine z_callVi C (As := [vI c]) (st := []) (y := yX2_watchersOf) (w := wsX2_watchersOf) (rm := rm_X2_watchersOf) (wr := []) (k' := 0) (n' := 0) [0, 1, 2, 3, 4, 5, 6, 7, 8] [] 0 (c_X2_watchersOf l D cI cJ h σ LI BR γ φ θ c (by omega) hO hL) (cwV 1 C.1.2.2.2.2 gX2_cellTold_X2_watchersOf rfl rfl rfl (by decide +kernel) ⟨Nat.le_of_ble_eq_true rfl, Nat.le_of_ble_eq_true rfl⟩) rfl rfl rfl rfl rfl (by decide) rfl rfl rfl rfl (Nat.le_of_ble_eq_true rfl) rfl rfl ⟨Nat.le_of_ble_eq_true rfl, Nat.le_of_ble_eq_true rfl⟩ dX2_cellTold_56 ?_
          rintro z_56 _ ⟨φ'_56, rfl, hz_56⟩
          refine z_ws (ws' := (mx cI h σ LI BR γ φ'_56 θ)) rfl ?_
          have r_56 := smB_r (fun o => seeB σ LI o c.toNat) ((nWa σ))
          rw [← hz_56] at r_56
          have hz_56 : z_56 = sm (fun o => bI (seeB σ LI o c.toNat)) (nWa σ) := hz_56
          exact hret _ _ _ _ dX2_cellTold_59 ⟨_, rfl, by (unfold tolM; (repeat' split) <;> first | (exfalso; omega) | rfl | exact hz_56 | (rw [hz_48, ec]))⟩
        ·
          refine z_aload_n C 0 dX2_cellTold_46 rfl ?_
          refine z_iload_n C 1 dX2_cellTold_47 rfl ?_
          refine z_callVi C (As := [vI c]) (st := []) (y := yX2_watchersAt) (w := wsX2_watchersAt) (rm := rm_X2_watchersAt) (wr := []) (k' := 0) (n' := 0) [0, 1, 2, 3, 4, 5, 6, 7, 8] [] 0 (c_X2_watchersAt l D cI cJ h σ LI BR γ φ θ c (by omega) hO) (cwV 1 C.1.2.2.2.2 gX2_cellTold_X2_watchersAt rfl rfl rfl (by decide +kernel) ⟨Nat.le_of_ble_eq_true rfl, Nat.le_of_ble_eq_true rfl⟩) rfl rfl rfl rfl rfl (by decide) rfl rfl rfl rfl (Nat.le_of_ble_eq_true rfl) rfl rfl ⟨Nat.le_of_ble_eq_true rfl, Nat.le_of_ble_eq_true rfl⟩ dX2_cellTold_48 ?_
          rintro z_48 _ ⟨rfl, hz_48⟩
          refine z_ws (ws' := (mx cI h σ LI BR γ φ θ)) rfl ?_
          have r_48 := smB_r (fun w => decide (σ 3 w = c)) (nWa σ)
          rw [← hz_48] at r_48
          have hz_48 : z_48 = sm (fun w => bI (decide (σ 3 w = c))) (nWa σ) := hz_48
          refine z_goto C (tgt := 59) dX2_cellTold_51 (by decide) ?_
          exact hret _ _ _ _ dX2_cellTold_59 ⟨_, rfl, by (unfold tolM; (repeat' split) <;> first | (exfalso; omega) | rfl | exact hz_56 | (rw [hz_48, ec]))⟩
      ·
        refine z_aload_n C 0 dX2_cellTold_32 rfl ?_
        refine z_get C (v := .ref (h 5)) (ref := "ShadowWallsModel") (T := TX2) (N := 14) (ci := 2) 0 8 inU_X2_X2_cellTold rfl rfl (by decide) (by decide +kernel) (fun _ h9 => h9) rfl dX2_cellTold_33 ?_
        refine z_iload_n C 1 dX2_cellTold_36 rfl ?_
        refine z_iald C (cA := cI) (N := 144) (f := LI) 5 0 rfl rfl (by decide) (by omega) dX2_cellTold_37 ?_
        refine z_goto C (tgt := 59) dX2_cellTold_38 (by decide) ?_
        exact hret _ _ _ _ dX2_cellTold_59 ⟨_, rfl, by (unfold tolM; (repeat' split) <;> first | (exfalso; omega) | rfl | exact hz_56 | (rw [hz_48, ec]))⟩
    ·
      refine z_aload_n C 0 dX2_cellTold_18 rfl ?_
      refine z_get C (v := .ref (h 6)) (ref := "ShadowWallsModel") (T := TX2) (N := 14) (ci := 2) 0 9 inU_X2_X2_cellTold rfl rfl (by decide) (by decide +kernel) (fun _ h9 => h9) rfl dX2_cellTold_19 ?_
      refine z_iload_n C 1 dX2_cellTold_22 rfl ?_
      refine z_iald C (cA := cI) (N := 144) (f := BR) 6 0 rfl rfl (by decide) (by omega) dX2_cellTold_23 ?_
      refine z_goto C (tgt := 59) dX2_cellTold_24 (by decide) ?_
      exact hret _ _ _ _ dX2_cellTold_59 ⟨_, rfl, by (unfold tolM; (repeat' split) <;> first | (exfalso; omega) | rfl | exact hz_56 | (rw [hz_48, ec]))⟩
  ·
    refine z_aload_n C 0 dX2_cellTold_4 rfl ?_
    refine z_get C (v := .ref (h 1)) (ref := "ShadowWallsModel") (T := TX2) (N := 14) (ci := 2) 0 1 inU_X2_X2_cellTold rfl rfl (by decide) (by decide +kernel) (fun _ h9 => h9) rfl dX2_cellTold_5 ?_
    refine z_iload_n C 1 dX2_cellTold_8 rfl ?_
    refine z_iald C (cA := cI) (N := 144) (f := σ 0) 1 0 rfl rfl (by decide) (by omega) dX2_cellTold_9 ?_
    refine z_goto C (tgt := 59) dX2_cellTold_10 (by decide) ?_
    exact hret _ _ _ _ dX2_cellTold_59 ⟨_, rfl, by (unfold tolM; (repeat' split) <;> first | (exfalso; omega) | rfl | exact hz_56 | (rw [hz_48, ec]))⟩

set_option maxRecDepth 100000 in
theorem inU_X2_X2_litBy : ∀ w ∈ u_ws RX2 TX2 14, w ∈ wsX2_litBy := by decide +kernel
abbrev rm_X2_litBy : Room := { frames := 4, cells := 0, slots := 0, locals := 101 }
set_option maxHeartbeats 4000000 in
set_option maxRecDepth 100000 in
theorem c_X2_litBy (l : Launch) (D : va_G) (cI cJ : ClassId) (h : Nat → Nat) (σ : YS) (LI BR : Nat → Int) (γ : YS) (φ : Nat → Int) (θ : Int) (k on : Int) (hk : 0 ≤ k ∧ k < σ 4 0) (hon : on = 0 ∨ on = 1) (hO : Ok σ) (hL : LI4 LI) : Ci l yX2_litBy wsX2_litBy rm_X2_litBy D [(cI, .int), (cJ, .long)] [.ref (h 0), vI k, vI on] (mx cI h σ LI BR γ φ θ) (fun z u => ∃ φ' : Nat → Int, u = (mx cI h σ LI BR γ φ' θ) ∧ z = sm (fun c => bI (litB σ k.toNat c && (decide (on = 0) || decide (LI c = 1)))) 144) := by
  refine z_ofi (own := RX2) (cc := cX2_litBy) (maxL := 5) (lv := [(0, .ref (h 0)), (1, vI k), (2, vI on)]) (by decide) rfl rfl (Nat.le_of_ble_eq_true rfl) rfl ?_
  intro p e s m args below meth cd Q A C hret
  have hn := hO.1
  have hm := hO.2.1
  have en := nLa_e hO
  have em := nWa_e hO
  refine z_iconst C dX2_litBy_0 ?_
  refine z_istore_n C [(3, vI 0), (0, .ref (h 0)), (1, vI k), (2, vI on)] dX2_litBy_1 (by decide) rfl ?_
  refine z_iconst C dX2_litBy_2 ?_
  refine z_istore C [(4, vI 0), (3, vI 0), (0, .ref (h 0)), (1, vI k), (2, vI on)] dX2_litBy_3 (by decide) rfl ?_
  have L_5 : ∀ (d9 i : Nat) (φ1 : Nat → Int) (hi : i ≤ 144) (hd : 144 + 1 ≤ i + d9), Zs p l e rm_X2_litBy s m args below meth cd Q A D 5 5 [(0, .ref (h 0)), (1, vI k), (2, vI on), (3, vI (sm (fun c => bI (litB σ k.toNat c && (decide (on = 0) || decide (LI c = 1)))) i)), (4, vI (i : Int))] [] (mx cI h σ LI BR γ φ1 θ) 0 0 := by
    intro d9
    induction d9 with
    | zero =>
      intro i φ1 hi hd
      exfalso; omega
    | succ d9 ih9 =>
      intro i φ1 hi hd
      refine z_iload C 4 dX2_litBy_5 rfl ?_
      refine z_sipush C dX2_litBy_7 (by decide) ?_
      refine z_icmp_ge C (tgt := 52) dX2_litBy_10 (by decide) (by omega) (by omega) (fun c_10 => ?_) (fun c_10 => ?_)
      ·
        obtain rfl : i = 144 := by omega
        refine z_iload_n C 3 dX2_litBy_52 rfl ?_
        exact hret _ _ _ _ dX2_litBy_53 ⟨_, rfl, by rfl⟩
      ·
        refine z_iload_n C 3 dX2_litBy_13 rfl ?_
        refine z_aload_n C 0 dX2_litBy_14 rfl ?_
        refine z_iload_n C 1 dX2_litBy_15 rfl ?_
        refine z_iload C 4 dX2_litBy_16 rfl ?_
        refine z_callVi C (As := [vI k, vI (i : Int)]) (st := [vI (sm (fun c => bI (litB σ k.toNat c && (decide (on = 0) || decide (LI c = 1)))) i)]) (y := yX2_isLitBy) (w := wsX2_isLitBy) (rm := rm_X2_isLitBy) (wr := []) (k' := 0) (n' := 0) [0, 1, 2, 3, 4, 5, 6, 7, 8] [] 0 (c_X2_isLitBy l D cI cJ h σ LI BR γ φ1 θ k (i : Int) (by omega) (by omega) hO) (cwV 2 C.1.2.2.2.2 gX2_litBy_X2_isLitBy rfl rfl rfl (by decide +kernel) ⟨Nat.le_of_ble_eq_true rfl, Nat.le_of_ble_eq_true rfl⟩) rfl rfl rfl rfl rfl (by decide) rfl rfl rfl rfl (Nat.le_of_ble_eq_true rfl) rfl rfl ⟨Nat.le_of_ble_eq_true rfl, Nat.le_of_ble_eq_true rfl⟩ dX2_litBy_18 ?_
        rintro z_18 _ ⟨φ'_18, rfl, hz_18⟩
        refine z_ws (ws' := (mx cI h σ LI BR γ φ'_18 θ)) rfl ?_
        have r_18 : z_18 = 0 ∨ z_18 = 1 := by rw [hz_18]; exact bI_01 _
        have hz_18 : z_18 = bI (litB σ k.toNat i) := hz_18
        have r_L := hL i
        refine z_if_eq C (tgt := 43) dX2_litBy_21 (by decide) (by omega) (fun c_21 => ?_) (fun c_21 => ?_)
        ·
          refine z_iconst C dX2_litBy_43 ?_
          refine z_iadd C dX2_litBy_44 ?_
          refine z_istore_n C [(3, vI ((sm (fun c => bI (litB σ k.toNat c && (decide (on = 0) || decide (LI c = 1)))) i) + 0)), (0, .ref (h 0)), (1, vI k), (2, vI on), (4, vI (i : Int))] dX2_litBy_45 (by decide) rfl ?_
          refine z_iinc C 4 [(4, vI ((i : Int) + 1)), (3, vI ((sm (fun c => bI (litB σ k.toNat c && (decide (on = 0) || decide (LI c = 1)))) i) + 0)), (0, .ref (h 0)), (1, vI k), (2, vI on)] dX2_litBy_46 rfl (by decide) rfl ?_
          refine z_goto C (tgt := 5) dX2_litBy_49 (by decide) ?_
          refine z_chg 1 (x' := sm (fun c => bI (litB σ k.toNat c && (decide (on = 0) || decide (LI c = 1)))) (i + 1)) (lv' := [(4, vI ((i : Int) + 1)), (3, vI (sm (fun c => bI (litB σ k.toNat c && (decide (on = 0) || decide (LI c = 1)))) (i + 1))), (0, .ref (h 0)), (1, vI k), (2, vI on)]) rfl (by first | exact sm_t (by rw [bz_t hz_18 c_21, decide_eq_true c_25]; rfl) | exact sm_t (by rw [bz_t hz_18 c_21, decide_eq_true c_36]; exact Bool.or_true _) | exact (Int.add_zero _).trans (sm_f (by rw [bz_f hz_18 c_21]; rfl)) | exact (Int.add_zero _).trans (sm_f (by rw [decide_eq_false c_25, decide_eq_false c_36]; exact Bool.and_false _))) rfl ?_
          refine z_chg 0 (x' := ((i + 1 : Nat) : Int)) (lv' := [(4, vI ((i + 1 : Nat) : Int)), (3, vI (sm (fun c => bI (litB σ k.toNat c && (decide (on = 0) || decide (LI c = 1)))) (i + 1))), (0, .ref (h 0)), (1, vI k), (2, vI on)]) rfl (by omega) rfl ?_
          refine z_sub (lv' := [(0, .ref (h 0)), (1, vI k), (2, vI on), (3, vI (sm (fun c => bI (litB σ k.toNat c && (decide (on = 0) || decide (LI c = 1)))) (i + 1))), (4, vI ((i + 1 : Nat) : Int))]) [2, 3, 4, 1, 0] rfl ?_
          exact ih9 (i + 1) φ'_18 (by omega) (by omega)
        ·
          refine z_iload_n C 2 dX2_litBy_24 rfl ?_
          refine z_if_eq C (tgt := 39) dX2_litBy_25 (by decide) (by omega) (fun c_25 => ?_) (fun c_25 => ?_)
          ·
            refine z_iconst C dX2_litBy_39 ?_
            refine z_goto C (tgt := 44) dX2_litBy_40 (by decide) ?_
            refine z_iadd C dX2_litBy_44 ?_
            refine z_istore_n C [(3, vI ((sm (fun c => bI (litB σ k.toNat c && (decide (on = 0) || decide (LI c = 1)))) i) + 1)), (0, .ref (h 0)), (1, vI k), (2, vI on), (4, vI (i : Int))] dX2_litBy_45 (by decide) rfl ?_
            refine z_iinc C 4 [(4, vI ((i : Int) + 1)), (3, vI ((sm (fun c => bI (litB σ k.toNat c && (decide (on = 0) || decide (LI c = 1)))) i) + 1)), (0, .ref (h 0)), (1, vI k), (2, vI on)] dX2_litBy_46 rfl (by decide) rfl ?_
            refine z_goto C (tgt := 5) dX2_litBy_49 (by decide) ?_
            refine z_chg 1 (x' := sm (fun c => bI (litB σ k.toNat c && (decide (on = 0) || decide (LI c = 1)))) (i + 1)) (lv' := [(4, vI ((i : Int) + 1)), (3, vI (sm (fun c => bI (litB σ k.toNat c && (decide (on = 0) || decide (LI c = 1)))) (i + 1))), (0, .ref (h 0)), (1, vI k), (2, vI on)]) rfl (by first | exact sm_t (by rw [bz_t hz_18 c_21, decide_eq_true c_25]; rfl) | exact sm_t (by rw [bz_t hz_18 c_21, decide_eq_true c_36]; exact Bool.or_true _) | exact (Int.add_zero _).trans (sm_f (by rw [bz_f hz_18 c_21]; rfl)) | exact (Int.add_zero _).trans (sm_f (by rw [decide_eq_false c_25, decide_eq_false c_36]; exact Bool.and_false _))) rfl ?_
            refine z_chg 0 (x' := ((i + 1 : Nat) : Int)) (lv' := [(4, vI ((i + 1 : Nat) : Int)), (3, vI (sm (fun c => bI (litB σ k.toNat c && (decide (on = 0) || decide (LI c = 1)))) (i + 1))), (0, .ref (h 0)), (1, vI k), (2, vI on)]) rfl (by omega) rfl ?_
            refine z_sub (lv' := [(0, .ref (h 0)), (1, vI k), (2, vI on), (3, vI (sm (fun c => bI (litB σ k.toNat c && (decide (on = 0) || decide (LI c = 1)))) (i + 1))), (4, vI ((i + 1 : Nat) : Int))]) [2, 3, 4, 1, 0] rfl ?_
            exact ih9 (i + 1) φ'_18 (by omega) (by omega)
          ·
            refine z_aload_n C 0 dX2_litBy_28 rfl ?_
            refine z_get C (v := .ref (h 5)) (ref := "ShadowWallsModel") (T := TX2) (N := 14) (ci := 2) 0 8 inU_X2_X2_litBy rfl rfl (by decide) (by decide +kernel) (fun _ h9 => h9) rfl dX2_litBy_29 ?_
            refine z_iload C 4 dX2_litBy_32 rfl ?_
            refine z_iald C (cA := cI) (N := 144) (f := LI) 5 0 rfl rfl (by decide) (by omega) dX2_litBy_34 ?_
            refine z_st (v' := LI i) rfl ?_
            refine z_iconst C dX2_litBy_35 ?_
            refine z_icmp_ne C (tgt := 43) dX2_litBy_36 (by decide) (by omega) (by omega) (fun c_36 => ?_) (fun c_36 => ?_)
            ·
              refine z_iconst C dX2_litBy_43 ?_
              refine z_iadd C dX2_litBy_44 ?_
              refine z_istore_n C [(3, vI ((sm (fun c => bI (litB σ k.toNat c && (decide (on = 0) || decide (LI c = 1)))) i) + 0)), (0, .ref (h 0)), (1, vI k), (2, vI on), (4, vI (i : Int))] dX2_litBy_45 (by decide) rfl ?_
              refine z_iinc C 4 [(4, vI ((i : Int) + 1)), (3, vI ((sm (fun c => bI (litB σ k.toNat c && (decide (on = 0) || decide (LI c = 1)))) i) + 0)), (0, .ref (h 0)), (1, vI k), (2, vI on)] dX2_litBy_46 rfl (by decide) rfl ?_
              refine z_goto C (tgt := 5) dX2_litBy_49 (by decide) ?_
              refine z_chg 1 (x' := sm (fun c => bI (litB σ k.toNat c && (decide (on = 0) || decide (LI c = 1)))) (i + 1)) (lv' := [(4, vI ((i : Int) + 1)), (3, vI (sm (fun c => bI (litB σ k.toNat c && (decide (on = 0) || decide (LI c = 1)))) (i + 1))), (0, .ref (h 0)), (1, vI k), (2, vI on)]) rfl (by first | exact sm_t (by rw [bz_t hz_18 c_21, decide_eq_true c_25]; rfl) | exact sm_t (by rw [bz_t hz_18 c_21, decide_eq_true c_36]; exact Bool.or_true _) | exact (Int.add_zero _).trans (sm_f (by rw [bz_f hz_18 c_21]; rfl)) | exact (Int.add_zero _).trans (sm_f (by rw [decide_eq_false c_25, decide_eq_false c_36]; exact Bool.and_false _))) rfl ?_
              refine z_chg 0 (x' := ((i + 1 : Nat) : Int)) (lv' := [(4, vI ((i + 1 : Nat) : Int)), (3, vI (sm (fun c => bI (litB σ k.toNat c && (decide (on = 0) || decide (LI c = 1)))) (i + 1))), (0, .ref (h 0)), (1, vI k), (2, vI on)]) rfl (by omega) rfl ?_
              refine z_sub (lv' := [(0, .ref (h 0)), (1, vI k), (2, vI on), (3, vI (sm (fun c => bI (litB σ k.toNat c && (decide (on = 0) || decide (LI c = 1)))) (i + 1))), (4, vI ((i + 1 : Nat) : Int))]) [2, 3, 4, 1, 0] rfl ?_
              exact ih9 (i + 1) φ'_18 (by omega) (by omega)
            ·
              refine z_iconst C dX2_litBy_39 ?_
              refine z_goto C (tgt := 44) dX2_litBy_40 (by decide) ?_
              refine z_iadd C dX2_litBy_44 ?_
              refine z_istore_n C [(3, vI ((sm (fun c => bI (litB σ k.toNat c && (decide (on = 0) || decide (LI c = 1)))) i) + 1)), (0, .ref (h 0)), (1, vI k), (2, vI on), (4, vI (i : Int))] dX2_litBy_45 (by decide) rfl ?_
              refine z_iinc C 4 [(4, vI ((i : Int) + 1)), (3, vI ((sm (fun c => bI (litB σ k.toNat c && (decide (on = 0) || decide (LI c = 1)))) i) + 1)), (0, .ref (h 0)), (1, vI k), (2, vI on)] dX2_litBy_46 rfl (by decide) rfl ?_
              refine z_goto C (tgt := 5) dX2_litBy_49 (by decide) ?_
              refine z_chg 1 (x' := sm (fun c => bI (litB σ k.toNat c && (decide (on = 0) || decide (LI c = 1)))) (i + 1)) (lv' := [(4, vI ((i : Int) + 1)), (3, vI (sm (fun c => bI (litB σ k.toNat c && (decide (on = 0) || decide (LI c = 1)))) (i + 1))), (0, .ref (h 0)), (1, vI k), (2, vI on)]) rfl (by first | exact sm_t (by rw [bz_t hz_18 c_21, decide_eq_true c_25]; rfl) | exact sm_t (by rw [bz_t hz_18 c_21, decide_eq_true c_36]; exact Bool.or_true _) | exact (Int.add_zero _).trans (sm_f (by rw [bz_f hz_18 c_21]; rfl)) | exact (Int.add_zero _).trans (sm_f (by rw [decide_eq_false c_25, decide_eq_false c_36]; exact Bool.and_false _))) rfl ?_
              refine z_chg 0 (x' := ((i + 1 : Nat) : Int)) (lv' := [(4, vI ((i + 1 : Nat) : Int)), (3, vI (sm (fun c => bI (litB σ k.toNat c && (decide (on = 0) || decide (LI c = 1)))) (i + 1))), (0, .ref (h 0)), (1, vI k), (2, vI on)]) rfl (by omega) rfl ?_
              refine z_sub (lv' := [(0, .ref (h 0)), (1, vI k), (2, vI on), (3, vI (sm (fun c => bI (litB σ k.toNat c && (decide (on = 0) || decide (LI c = 1)))) (i + 1))), (4, vI ((i + 1 : Nat) : Int))]) [2, 3, 4, 1, 0] rfl ?_
              exact ih9 (i + 1) φ'_18 (by omega) (by omega)
  refine z_sub (lv' := [(0, .ref (h 0)), (1, vI k), (2, vI on), (3, vI 0), (4, vI 0)]) [2, 3, 4, 1, 0] rfl ?_
  exact L_5 (144 + 1) 0 φ (Nat.zero_le _) (by omega)

set_option maxRecDepth 100000 in
theorem inU_X2_X2_lampTold : ∀ w ∈ u_ws RX2 TX2 14, w ∈ wsX2_lampTold := by decide +kernel
abbrev rm_X2_lampTold : Room := { frames := 5, cells := 0, slots := 0, locals := 125 }
set_option maxHeartbeats 4000000 in
set_option maxRecDepth 100000 in
theorem c_X2_lampTold (l : Launch) (D : va_G) (cI cJ : ClassId) (h : Nat → Nat) (σ : YS) (LI BR : Nat → Int) (γ : YS) (φ : Nat → Int) (θ : Int) (k wh : Int) (hk : 0 ≤ k ∧ k < σ 4 0) (hwh : 0 ≤ wh ∧ wh < 4) (hO : Ok σ) (hL : LI4 LI) : Ci l yX2_lampTold wsX2_lampTold rm_X2_lampTold D [(cI, .int), (cJ, .long)] [.ref (h 0), vI k, vI wh] (mx cI h σ LI BR γ φ θ) (fun z u => ∃ φ' : Nat → Int, u = (mx cI h σ LI BR γ φ' θ) ∧ z = aboM σ LI k.toNat wh) := by
  refine z_ofi (own := RX2) (cc := cX2_lampTold) (maxL := 3) (lv := [(0, .ref (h 0)), (1, vI k), (2, vI wh)]) (by decide) rfl rfl (Nat.le_of_ble_eq_true rfl) rfl ?_
  intro p e s m args below meth cd Q A C hret
  have hn := hO.1
  have hm := hO.2.1
  have en := nLa_e hO
  have em := nWa_e hO
  refine z_iload_n C 2 dX2_lampTold_0 rfl ?_
  refine z_if_ne C (tgt := 13) dX2_lampTold_1 (by decide) (by omega) (fun c_1 => ?_) (fun c_1 => ?_)
  ·
    refine z_iload_n C 2 dX2_lampTold_13 rfl ?_
    refine z_iconst C dX2_lampTold_14 ?_
    refine z_icmp_ne C (tgt := 27) dX2_lampTold_15 (by decide) (by omega) (by omega) (fun c_15 => ?_) (fun c_15 => ?_)
    ·
      refine z_aload_n C 0 dX2_lampTold_27 rfl ?_
      refine z_iload_n C 1 dX2_lampTold_28 rfl ?_
      refine z_iload_n C 2 dX2_lampTold_29 rfl ?_
      refine z_iconst C dX2_lampTold_30 ?_
      refine z_icmp_ne C (tgt := 38) dX2_lampTold_31 (by decide) (by omega) (by omega) (fun c_31 => ?_) (fun c_31 => ?_)
      ·
        refine z_iconst C dX2_lampTold_38 ?_
        refine z_callVi C (As := [vI k, vI 0]) (st := []) (y := yX2_litBy) (w := wsX2_litBy) (rm := rm_X2_litBy) (wr := []) (k' := 0) (n' := 0) [0, 1, 2, 3, 4, 5, 6, 7, 8] [] 0 (c_X2_litBy l D cI cJ h σ LI BR γ φ θ k 0 (by omega) (by omega) hO hL) (cwV 2 C.1.2.2.2.2 gX2_lampTold_X2_litBy rfl rfl rfl (by decide +kernel) ⟨Nat.le_of_ble_eq_true rfl, Nat.le_of_ble_eq_true rfl⟩) rfl rfl rfl rfl rfl (by decide) rfl rfl rfl rfl (Nat.le_of_ble_eq_true rfl) rfl rfl ⟨Nat.le_of_ble_eq_true rfl, Nat.le_of_ble_eq_true rfl⟩ dX2_lampTold_39 ?_
        rintro z_39 _ ⟨φ'_39, rfl, hz_39⟩
        refine z_ws (ws' := (mx cI h σ LI BR γ φ'_39 θ)) rfl ?_
        have hz_39 : z_39 = sm (fun c => bI (litB σ k.toNat c && (decide (0 = 0) || decide (LI c = 1)))) 144 := hz_39
        exact hret _ _ _ _ dX2_lampTold_42 ⟨_, rfl, by (unfold aboM; (repeat' split) <;> first | (exfalso; omega) | rfl | (rw [hz_39]; exact sm_e 144 (fun c _ => by simp)))⟩
      ·
        refine z_iconst C dX2_lampTold_34 ?_
        refine z_goto C (tgt := 39) dX2_lampTold_35 (by decide) ?_
        refine z_callVi C (As := [vI k, vI 1]) (st := []) (y := yX2_litBy) (w := wsX2_litBy) (rm := rm_X2_litBy) (wr := []) (k' := 0) (n' := 0) [0, 1, 2, 3, 4, 5, 6, 7, 8] [] 0 (c_X2_litBy l D cI cJ h σ LI BR γ φ θ k 1 (by omega) (by omega) hO hL) (cwV 2 C.1.2.2.2.2 gX2_lampTold_X2_litBy rfl rfl rfl (by decide +kernel) ⟨Nat.le_of_ble_eq_true rfl, Nat.le_of_ble_eq_true rfl⟩) rfl rfl rfl rfl rfl (by decide) rfl rfl rfl rfl (Nat.le_of_ble_eq_true rfl) rfl rfl ⟨Nat.le_of_ble_eq_true rfl, Nat.le_of_ble_eq_true rfl⟩ dX2_lampTold_39 ?_
        rintro z_39 _ ⟨φ'_39, rfl, hz_39⟩
        refine z_ws (ws' := (mx cI h σ LI BR γ φ'_39 θ)) rfl ?_
        have hz_39 : z_39 = sm (fun c => bI (litB σ k.toNat c && (decide (1 = 0) || decide (LI c = 1)))) 144 := hz_39
        exact hret _ _ _ _ dX2_lampTold_42 ⟨_, rfl, by (unfold aboM; (repeat' split) <;> first | (exfalso; omega) | rfl | (rw [hz_39]; exact sm_e 144 (fun c _ => by simp)))⟩
    ·
      refine z_aload_n C 0 dX2_lampTold_18 rfl ?_
      refine z_get C (v := .ref (h 3)) (ref := "ShadowWallsModel") (T := TX2) (N := 14) (ci := 2) 0 4 inU_X2_X2_lampTold rfl rfl (by decide) (by decide +kernel) (fun _ h9 => h9) rfl dX2_lampTold_19 ?_
      refine z_iload_n C 1 dX2_lampTold_22 rfl ?_
      refine z_iald C (cA := cI) (N := 4) (f := σ 2) 3 0 rfl rfl (by decide) (by omega) dX2_lampTold_23 ?_
      refine z_goto C (tgt := 42) dX2_lampTold_24 (by decide) ?_
      exact hret _ _ _ _ dX2_lampTold_42 ⟨_, rfl, by (unfold aboM; (repeat' split) <;> first | (exfalso; omega) | rfl | (rw [hz_39]; exact sm_e 144 (fun c _ => by simp)))⟩
  ·
    refine z_aload_n C 0 dX2_lampTold_4 rfl ?_
    refine z_get C (v := .ref (h 2)) (ref := "ShadowWallsModel") (T := TX2) (N := 14) (ci := 2) 0 3 inU_X2_X2_lampTold rfl rfl (by decide) (by decide +kernel) (fun _ h9 => h9) rfl dX2_lampTold_5 ?_
    refine z_iload_n C 1 dX2_lampTold_8 rfl ?_
    refine z_iald C (cA := cI) (N := 4) (f := σ 1) 2 0 rfl rfl (by decide) (by omega) dX2_lampTold_9 ?_
    refine z_goto C (tgt := 42) dX2_lampTold_10 (by decide) ?_
    exact hret _ _ _ _ dX2_lampTold_42 ⟨_, rfl, by (unfold aboM; (repeat' split) <;> first | (exfalso; omega) | rfl | (rw [hz_39]; exact sm_e 144 (fun c _ => by simp)))⟩

set_option maxRecDepth 100000 in
theorem inU_X2_X2_seatTold : ∀ w ∈ u_ws RX2 TX2 14, w ∈ wsX2_seatTold := by decide +kernel
abbrev rm_X2_seatTold : Room := { frames := 5, cells := 0, slots := 0, locals := 121 }
set_option maxHeartbeats 4000000 in
set_option maxRecDepth 100000 in
theorem c_X2_seatTold (l : Launch) (D : va_G) (cI cJ : ClassId) (h : Nat → Nat) (σ : YS) (LI BR : Nat → Int) (γ : YS) (φ : Nat → Int) (θ : Int) (w wh : Int) (hw : 0 ≤ w ∧ w < σ 4 1) (hwh : 0 ≤ wh ∧ wh < 5) (hO : Ok σ) (hL : LI4 LI) : Ci l yX2_seatTold wsX2_seatTold rm_X2_seatTold D [(cI, .int), (cJ, .long)] [.ref (h 0), vI w, vI wh] (mx cI h σ LI BR γ φ θ) (fun z u => ∃ φ' : Nat → Int, u = (mx cI h σ LI BR γ φ' θ) ∧ z = seaV σ LI w.toNat wh) := by
  refine z_ofi (own := RX2) (cc := cX2_seatTold) (maxL := 5) (lv := [(0, .ref (h 0)), (1, vI w), (2, vI wh)]) (by decide) rfl rfl (Nat.le_of_ble_eq_true rfl) rfl ?_
  intro p e s m args below meth cd Q A C hret
  have hn := hO.1
  have hm := hO.2.1
  have en := nLa_e hO
  have em := nWa_e hO
  have h1 := hO.2.2.2.1 w.toNat (by omega)
  have hLs := hL (σ 3 w.toNat).toNat
  refine z_iconst C dX2_seatTold_0 ?_
  refine z_istore_n C [(3, vI 0), (0, .ref (h 0)), (1, vI w), (2, vI wh)] dX2_seatTold_1 (by decide) rfl ?_
  refine z_iload_n C 3 dX2_seatTold_2 rfl ?_
  rcases (show wh = 0 ∨ wh = 1 ∨ wh = 2 ∨ wh = 3 ∨ (wh ≠ 0 ∧ wh ≠ 1 ∧ wh ≠ 2 ∧ wh ≠ 3) by omega) with k_3 | k_3 | k_3 | k_3 | k_3
  ·
    refine z_tabIn C (off := 29) (tgt := 32) dX2_seatTold_3 (by omega) (by omega) (by omega) (by rw [k_3]; rfl) (by decide) ?_
    refine z_aload_n C 1 dX2_seatTold_32 rfl ?_
    refine z_get C (v := .ref (h 4)) (ref := "ShadowWallsModel") (T := TX2) (N := 14) (ci := 2) 0 6 inU_X2_X2_seatTold rfl rfl (by decide) (by decide +kernel) (fun _ h9 => h9) rfl dX2_seatTold_33 ?_
    refine z_iload_n C 2 dX2_seatTold_36 rfl ?_
    refine z_iald C (cA := cI) (N := 6) (f := σ 3) 4 0 rfl rfl (by decide) (by omega) dX2_seatTold_37 ?_
    exact hret _ _ _ _ dX2_seatTold_38 ⟨_, rfl, by first | (simp [seaV, k_3]; done) | (simp only [seaV, k_3]; rw [h9]; rfl) | (simp only [seaV, k_3]; rw [bz_t hz_78 c_81]; rfl) | (simp only [seaV, k_3]; rw [bz_f hz_78 c_81]; rfl) | (simp only [seaV, k_3]; rw [decide_eq_true (show LI (σ 3 w.toNat).toNat ≠ 0 by omega)]; rfl) | (simp only [seaV, k_3]; rw [decide_eq_false (show ¬ LI (σ 3 w.toNat).toNat ≠ 0 by omega)]; rfl) | (simp [seaV, k_3, h9]; done)⟩
  ·
    refine z_tabIn C (off := 36) (tgt := 39) dX2_seatTold_3 (by omega) (by omega) (by omega) (by rw [k_3]; rfl) (by decide) ?_
    refine z_iconst C dX2_seatTold_39 ?_
    refine z_istore C [(4, vI 0), (3, vI 0), (0, .ref (h 0)), (1, vI w), (2, vI wh)] dX2_seatTold_40 (by decide) rfl ?_
    have L_42 : ∀ (d9 i : Nat) (φ1 : Nat → Int) (hi : i ≤ 144) (hd : 144 + 1 ≤ i + d9), Zs p l e rm_X2_seatTold s m args below meth cd Q A D 5 42 [(0, .ref (h 0)), (1, vI w), (2, vI wh), (3, vI (sm (fun o => bI (seeB σ LI w.toNat o)) i)), (4, vI (i : Int))] [] (mx cI h σ LI BR γ φ1 θ) 0 0 := by
      intro d9
      induction d9 with
      | zero =>
        intro i φ1 hi hd
        exfalso; omega
      | succ d9 ih9 =>
        intro i φ1 hi hd
        refine z_iload C 4 dX2_seatTold_42 rfl ?_
        refine z_sipush C dX2_seatTold_44 (by decide) ?_
        refine z_icmp_ge C (tgt := 74) dX2_seatTold_47 (by decide) (by omega) (by omega) (fun c_47 => ?_) (fun c_47 => ?_)
        ·
          have h9 : i = 144 := by omega
          refine z_iload_n C 3 dX2_seatTold_74 rfl ?_
          exact hret _ _ _ _ dX2_seatTold_75 ⟨_, rfl, by first | (simp [seaV, k_3]; done) | (simp only [seaV, k_3]; rw [h9]; rfl) | (simp only [seaV, k_3]; rw [bz_t hz_78 c_81]; rfl) | (simp only [seaV, k_3]; rw [bz_f hz_78 c_81]; rfl) | (simp only [seaV, k_3]; rw [decide_eq_true (show LI (σ 3 w.toNat).toNat ≠ 0 by omega)]; rfl) | (simp only [seaV, k_3]; rw [decide_eq_false (show ¬ LI (σ 3 w.toNat).toNat ≠ 0 by omega)]; rfl) | (simp [seaV, k_3, h9]; done)⟩
        ·
          refine z_iload_n C 3 dX2_seatTold_50 rfl ?_
          refine z_aload_n C 0 dX2_seatTold_51 rfl ?_
          refine z_iload_n C 1 dX2_seatTold_52 rfl ?_
          refine z_iload C 4 dX2_seatTold_53 rfl ?_
          refine z_callVi C (As := [vI w, vI (i : Int)]) (st := [vI (sm (fun o => bI (seeB σ LI w.toNat o)) i)]) (y := yX2_seesCell) (w := wsX2_seesCell) (rm := rm_X2_seesCell) (wr := []) (k' := 0) (n' := 0) [0, 1, 2, 3, 4, 5, 6, 7, 8] [] 0 (c_X2_seesCell l D cI cJ h σ LI BR γ φ1 θ w (i : Int) (by omega) (by omega) hO hL) (cwV 2 C.1.2.2.2.2 gX2_seatTold_X2_seesCell rfl rfl rfl (by decide +kernel) ⟨Nat.le_of_ble_eq_true rfl, Nat.le_of_ble_eq_true rfl⟩) rfl rfl rfl rfl rfl (by decide) rfl rfl rfl rfl (Nat.le_of_ble_eq_true rfl) rfl rfl ⟨Nat.le_of_ble_eq_true rfl, Nat.le_of_ble_eq_true rfl⟩ dX2_seatTold_55 ?_
          rintro z_55 _ ⟨φ'_55, rfl, hz_55⟩
          refine z_ws (ws' := (mx cI h σ LI BR γ φ'_55 θ)) rfl ?_
          have r_55 : z_55 = 0 ∨ z_55 = 1 := by rw [hz_55]; exact bI_01 _
          have hz_55 : z_55 = bI (seeB σ LI w.toNat i) := hz_55
          refine z_if_eq C (tgt := 65) dX2_seatTold_58 (by decide) (by omega) (fun c_58 => ?_) (fun c_58 => ?_)
          ·
            refine z_iconst C dX2_seatTold_65 ?_
            refine z_iadd C dX2_seatTold_66 ?_
            refine z_istore_n C [(3, vI ((sm (fun o => bI (seeB σ LI w.toNat o)) i) + 0)), (0, .ref (h 0)), (1, vI w), (2, vI wh), (4, vI (i : Int))] dX2_seatTold_67 (by decide) rfl ?_
            refine z_iinc C 4 [(4, vI ((i : Int) + 1)), (3, vI ((sm (fun o => bI (seeB σ LI w.toNat o)) i) + 0)), (0, .ref (h 0)), (1, vI w), (2, vI wh)] dX2_seatTold_68 rfl (by decide) rfl ?_
            refine z_goto C (tgt := 42) dX2_seatTold_71 (by decide) ?_
            refine z_chg 1 (x' := sm (fun o => bI (seeB σ LI w.toNat o)) (i + 1)) (lv' := [(4, vI ((i : Int) + 1)), (3, vI (sm (fun o => bI (seeB σ LI w.toNat o)) (i + 1))), (0, .ref (h 0)), (1, vI w), (2, vI wh)]) rfl (by first | exact sm_t (bz_t hz_55 c_58) | exact (Int.add_zero _).trans (sm_f (bz_f hz_55 c_58)) | exact sm_f (bz_f hz_55 c_58)) rfl ?_
            refine z_chg 0 (x' := ((i + 1 : Nat) : Int)) (lv' := [(4, vI ((i + 1 : Nat) : Int)), (3, vI (sm (fun o => bI (seeB σ LI w.toNat o)) (i + 1))), (0, .ref (h 0)), (1, vI w), (2, vI wh)]) rfl (by omega) rfl ?_
            refine z_sub (lv' := [(0, .ref (h 0)), (1, vI w), (2, vI wh), (3, vI (sm (fun o => bI (seeB σ LI w.toNat o)) (i + 1))), (4, vI ((i + 1 : Nat) : Int))]) [2, 3, 4, 1, 0] rfl ?_
            exact ih9 (i + 1) φ'_55 (by omega) (by omega)
          ·
            refine z_iconst C dX2_seatTold_61 ?_
            refine z_goto C (tgt := 66) dX2_seatTold_62 (by decide) ?_
            refine z_iadd C dX2_seatTold_66 ?_
            refine z_istore_n C [(3, vI ((sm (fun o => bI (seeB σ LI w.toNat o)) i) + 1)), (0, .ref (h 0)), (1, vI w), (2, vI wh), (4, vI (i : Int))] dX2_seatTold_67 (by decide) rfl ?_
            refine z_iinc C 4 [(4, vI ((i : Int) + 1)), (3, vI ((sm (fun o => bI (seeB σ LI w.toNat o)) i) + 1)), (0, .ref (h 0)), (1, vI w), (2, vI wh)] dX2_seatTold_68 rfl (by decide) rfl ?_
            refine z_goto C (tgt := 42) dX2_seatTold_71 (by decide) ?_
            refine z_chg 1 (x' := sm (fun o => bI (seeB σ LI w.toNat o)) (i + 1)) (lv' := [(4, vI ((i : Int) + 1)), (3, vI (sm (fun o => bI (seeB σ LI w.toNat o)) (i + 1))), (0, .ref (h 0)), (1, vI w), (2, vI wh)]) rfl (by first | exact sm_t (bz_t hz_55 c_58) | exact (Int.add_zero _).trans (sm_f (bz_f hz_55 c_58)) | exact sm_f (bz_f hz_55 c_58)) rfl ?_
            refine z_chg 0 (x' := ((i + 1 : Nat) : Int)) (lv' := [(4, vI ((i + 1 : Nat) : Int)), (3, vI (sm (fun o => bI (seeB σ LI w.toNat o)) (i + 1))), (0, .ref (h 0)), (1, vI w), (2, vI wh)]) rfl (by omega) rfl ?_
            refine z_sub (lv' := [(0, .ref (h 0)), (1, vI w), (2, vI wh), (3, vI (sm (fun o => bI (seeB σ LI w.toNat o)) (i + 1))), (4, vI ((i + 1 : Nat) : Int))]) [2, 3, 4, 1, 0] rfl ?_
            exact ih9 (i + 1) φ'_55 (by omega) (by omega)
    refine z_sub (lv' := [(0, .ref (h 0)), (1, vI w), (2, vI wh), (3, vI 0), (4, vI 0)]) [2, 3, 4, 1, 0] rfl ?_
    exact L_42 (144 + 1) 0 φ (Nat.zero_le _) (by omega)
  ·
    refine z_tabIn C (off := 73) (tgt := 76) dX2_seatTold_3 (by omega) (by omega) (by omega) (by rw [k_3]; rfl) (by decide) ?_
    refine z_aload_n C 1 dX2_seatTold_76 rfl ?_
    refine z_iload_n C 2 dX2_seatTold_77 rfl ?_
    refine z_callVi C (As := [vI w]) (st := []) (y := yX2_isHidden) (w := wsX2_isHidden) (rm := rm_X2_isHidden) (wr := []) (k' := 0) (n' := 0) [0, 1, 2, 3, 4, 5, 6, 7, 8] [] 0 (c_X2_isHidden l D cI cJ h σ LI BR γ φ θ w (by omega) hO hL) (cwV 1 C.1.2.2.2.2 gX2_seatTold_X2_isHidden rfl rfl rfl (by decide +kernel) ⟨Nat.le_of_ble_eq_true rfl, Nat.le_of_ble_eq_true rfl⟩) rfl rfl rfl rfl rfl (by decide) rfl rfl rfl rfl (Nat.le_of_ble_eq_true rfl) rfl rfl ⟨Nat.le_of_ble_eq_true rfl, Nat.le_of_ble_eq_true rfl⟩ dX2_seatTold_78 ?_
    rintro z_78 _ ⟨φ'_78, rfl, hz_78⟩
    refine z_ws (ws' := (mx cI h σ LI BR γ φ'_78 θ)) rfl ?_
    have r_78 : z_78 = 0 ∨ z_78 = 1 := by rw [hz_78]; exact bI_01 _
    have hz_78 : z_78 = bI (hidB σ LI w.toNat) := hz_78
    refine z_if_eq C (tgt := 88) dX2_seatTold_81 (by decide) (by omega) (fun c_81 => ?_) (fun c_81 => ?_)
    ·
      refine z_iconst C dX2_seatTold_88 ?_
      exact hret _ _ _ _ dX2_seatTold_89 ⟨_, rfl, by first | (simp [seaV, k_3]; done) | (simp only [seaV, k_3]; rw [h9]; rfl) | (simp only [seaV, k_3]; rw [bz_t hz_78 c_81]; rfl) | (simp only [seaV, k_3]; rw [bz_f hz_78 c_81]; rfl) | (simp only [seaV, k_3]; rw [decide_eq_true (show LI (σ 3 w.toNat).toNat ≠ 0 by omega)]; rfl) | (simp only [seaV, k_3]; rw [decide_eq_false (show ¬ LI (σ 3 w.toNat).toNat ≠ 0 by omega)]; rfl) | (simp [seaV, k_3, h9]; done)⟩
    ·
      refine z_iconst C dX2_seatTold_84 ?_
      refine z_goto C (tgt := 89) dX2_seatTold_85 (by decide) ?_
      exact hret _ _ _ _ dX2_seatTold_89 ⟨_, rfl, by first | (simp [seaV, k_3]; done) | (simp only [seaV, k_3]; rw [h9]; rfl) | (simp only [seaV, k_3]; rw [bz_t hz_78 c_81]; rfl) | (simp only [seaV, k_3]; rw [bz_f hz_78 c_81]; rfl) | (simp only [seaV, k_3]; rw [decide_eq_true (show LI (σ 3 w.toNat).toNat ≠ 0 by omega)]; rfl) | (simp only [seaV, k_3]; rw [decide_eq_false (show ¬ LI (σ 3 w.toNat).toNat ≠ 0 by omega)]; rfl) | (simp [seaV, k_3, h9]; done)⟩
  ·
    refine z_tabIn C (off := 87) (tgt := 90) dX2_seatTold_3 (by omega) (by omega) (by omega) (by rw [k_3]; rfl) (by decide) ?_
    refine z_aload_n C 1 dX2_seatTold_90 rfl ?_
    refine z_get C (v := .ref (h 5)) (ref := "ShadowWallsModel") (T := TX2) (N := 14) (ci := 2) 0 8 inU_X2_X2_seatTold rfl rfl (by decide) (by decide +kernel) (fun _ h9 => h9) rfl dX2_seatTold_91 ?_
    refine z_aload_n C 1 dX2_seatTold_94 rfl ?_
    refine z_get C (v := .ref (h 4)) (ref := "ShadowWallsModel") (T := TX2) (N := 14) (ci := 2) 0 6 inU_X2_X2_seatTold rfl rfl (by decide) (by decide +kernel) (fun _ h9 => h9) rfl dX2_seatTold_95 ?_
    refine z_iload_n C 2 dX2_seatTold_98 rfl ?_
    refine z_iald C (cA := cI) (N := 6) (f := σ 3) 4 0 rfl rfl (by decide) (by omega) dX2_seatTold_99 ?_
    refine z_iald C (cA := cI) (N := 144) (f := LI) 5 0 rfl rfl (by decide) (by omega) dX2_seatTold_100 ?_
    refine z_if_le C (tgt := 108) dX2_seatTold_101 (by decide) (by omega) (fun c_101 => ?_) (fun c_101 => ?_)
    ·
      refine z_iconst C dX2_seatTold_108 ?_
      exact hret _ _ _ _ dX2_seatTold_109 ⟨_, rfl, by first | (simp [seaV, k_3]; done) | (simp only [seaV, k_3]; rw [h9]; rfl) | (simp only [seaV, k_3]; rw [bz_t hz_78 c_81]; rfl) | (simp only [seaV, k_3]; rw [bz_f hz_78 c_81]; rfl) | (simp only [seaV, k_3]; rw [decide_eq_true (show LI (σ 3 w.toNat).toNat ≠ 0 by omega)]; rfl) | (simp only [seaV, k_3]; rw [decide_eq_false (show ¬ LI (σ 3 w.toNat).toNat ≠ 0 by omega)]; rfl) | (simp [seaV, k_3, h9]; done)⟩
    ·
      refine z_iconst C dX2_seatTold_104 ?_
      refine z_goto C (tgt := 109) dX2_seatTold_105 (by decide) ?_
      exact hret _ _ _ _ dX2_seatTold_109 ⟨_, rfl, by first | (simp [seaV, k_3]; done) | (simp only [seaV, k_3]; rw [h9]; rfl) | (simp only [seaV, k_3]; rw [bz_t hz_78 c_81]; rfl) | (simp only [seaV, k_3]; rw [bz_f hz_78 c_81]; rfl) | (simp only [seaV, k_3]; rw [decide_eq_true (show LI (σ 3 w.toNat).toNat ≠ 0 by omega)]; rfl) | (simp only [seaV, k_3]; rw [decide_eq_false (show ¬ LI (σ 3 w.toNat).toNat ≠ 0 by omega)]; rfl) | (simp [seaV, k_3, h9]; done)⟩
  ·
    refine z_tabOut C (tgt := 110) dX2_seatTold_3 (by omega) (by omega) (by decide) ?_
    refine z_iconst C dX2_seatTold_110 ?_
    refine z_istore C [(4, vI 0), (3, vI 0), (0, .ref (h 0)), (1, vI w), (2, vI wh)] dX2_seatTold_111 (by decide) rfl ?_
    have L_113 : ∀ (d9 i : Nat) (φ1 : Nat → Int) (hi : i ≤ (nWa σ)) (hd : (nWa σ) + 1 ≤ i + d9), Zs p l e rm_X2_seatTold s m args below meth cd Q A D 5 113 [(0, .ref (h 0)), (1, vI w), (2, vI wh), (3, vI (sm (fun o => bI (decide (o ≠ w.toNat) && seeB σ LI w.toNat (σ 3 o).toNat)) i)), (4, vI (i : Int))] [] (mx cI h σ LI BR γ φ1 θ) 0 0 := by
      intro d9
      induction d9 with
      | zero =>
        intro i φ1 hi hd
        exfalso; omega
      | succ d9 ih9 =>
        intro i φ1 hi hd
        refine z_iload C 4 dX2_seatTold_113 rfl ?_
        refine z_aload_n C 0 dX2_seatTold_115 rfl ?_
        refine z_get C (v := vI (σ 4 1)) (ref := "ShadowWallsModel") (T := TX2) (N := 14) (ci := 2) 0 5 inU_X2_X2_seatTold rfl rfl (by decide) (by decide +kernel) (fun _ h9 => h9) rfl dX2_seatTold_116 ?_
        refine z_icmp_ge C (tgt := 157) dX2_seatTold_119 (by decide) (by omega) (by omega) (fun c_119 => ?_) (fun c_119 => ?_)
        ·
          have h9 : i = nWa σ := by omega
          refine z_iload_n C 3 dX2_seatTold_157 rfl ?_
          exact hret _ _ _ _ dX2_seatTold_158 ⟨_, rfl, by first | (simp [seaV, k_3]; done) | (simp only [seaV, k_3]; rw [h9]; rfl) | (simp only [seaV, k_3]; rw [bz_t hz_78 c_81]; rfl) | (simp only [seaV, k_3]; rw [bz_f hz_78 c_81]; rfl) | (simp only [seaV, k_3]; rw [decide_eq_true (show LI (σ 3 w.toNat).toNat ≠ 0 by omega)]; rfl) | (simp only [seaV, k_3]; rw [decide_eq_false (show ¬ LI (σ 3 w.toNat).toNat ≠ 0 by omega)]; rfl) | (simp [seaV, k_3, h9]; done)⟩
        ·
          have r_137 := hO.2.2.2.1 i (by omega)
          refine z_iload_n C 3 dX2_seatTold_122 rfl ?_
          refine z_iload C 4 dX2_seatTold_123 rfl ?_
          refine z_iload_n C 1 dX2_seatTold_125 rfl ?_
          refine z_icmp_eq C (tgt := 148) dX2_seatTold_126 (by decide) (by omega) (by omega) (fun c_126 => ?_) (fun c_126 => ?_)
          ·
            refine z_iconst C dX2_seatTold_148 ?_
            refine z_iadd C dX2_seatTold_149 ?_
            refine z_istore_n C [(3, vI ((sm (fun o => bI (decide (o ≠ w.toNat) && seeB σ LI w.toNat (σ 3 o).toNat)) i) + 0)), (0, .ref (h 0)), (1, vI w), (2, vI wh), (4, vI (i : Int))] dX2_seatTold_150 (by decide) rfl ?_
            refine z_iinc C 4 [(4, vI ((i : Int) + 1)), (3, vI ((sm (fun o => bI (decide (o ≠ w.toNat) && seeB σ LI w.toNat (σ 3 o).toNat)) i) + 0)), (0, .ref (h 0)), (1, vI w), (2, vI wh)] dX2_seatTold_151 rfl (by decide) rfl ?_
            refine z_goto C (tgt := 113) dX2_seatTold_154 (by decide) ?_
            refine z_chg 1 (x' := sm (fun o => bI (decide (o ≠ w.toNat) && seeB σ LI w.toNat (σ 3 o).toNat)) (i + 1)) (lv' := [(4, vI ((i : Int) + 1)), (3, vI (sm (fun o => bI (decide (o ≠ w.toNat) && seeB σ LI w.toNat (σ 3 o).toNat)) (i + 1))), (0, .ref (h 0)), (1, vI w), (2, vI wh)]) rfl (by first | exact sm_t (by rw [decide_eq_true (show i ≠ w.toNat by omega), bz_t hz_138 c_141]; rfl) | exact (Int.add_zero _).trans (sm_f (by rw [bz_f hz_138 c_141]; exact Bool.and_false _)) | exact (Int.add_zero _).trans (sm_f (by rw [decide_eq_false (show ¬ i ≠ w.toNat by omega)]; rfl))) rfl ?_
            refine z_chg 0 (x' := ((i + 1 : Nat) : Int)) (lv' := [(4, vI ((i + 1 : Nat) : Int)), (3, vI (sm (fun o => bI (decide (o ≠ w.toNat) && seeB σ LI w.toNat (σ 3 o).toNat)) (i + 1))), (0, .ref (h 0)), (1, vI w), (2, vI wh)]) rfl (by omega) rfl ?_
            refine z_sub (lv' := [(0, .ref (h 0)), (1, vI w), (2, vI wh), (3, vI (sm (fun o => bI (decide (o ≠ w.toNat) && seeB σ LI w.toNat (σ 3 o).toNat)) (i + 1))), (4, vI ((i + 1 : Nat) : Int))]) [2, 3, 4, 1, 0] rfl ?_
            exact ih9 (i + 1) φ1 (by omega) (by omega)
          ·
            refine z_aload_n C 0 dX2_seatTold_129 rfl ?_
            refine z_iload_n C 1 dX2_seatTold_130 rfl ?_
            refine z_aload_n C 0 dX2_seatTold_131 rfl ?_
            refine z_get C (v := .ref (h 4)) (ref := "ShadowWallsModel") (T := TX2) (N := 14) (ci := 2) 0 6 inU_X2_X2_seatTold rfl rfl (by decide) (by decide +kernel) (fun _ h9 => h9) rfl dX2_seatTold_132 ?_
            refine z_iload C 4 dX2_seatTold_135 rfl ?_
            refine z_iald C (cA := cI) (N := 6) (f := σ 3) 4 0 rfl rfl (by decide) (by omega) dX2_seatTold_137 ?_
            refine z_st (v' := σ 3 i) rfl ?_
            refine z_callVi C (As := [vI w, vI (σ 3 i)]) (st := [vI (sm (fun o => bI (decide (o ≠ w.toNat) && seeB σ LI w.toNat (σ 3 o).toNat)) i)]) (y := yX2_seesCell) (w := wsX2_seesCell) (rm := rm_X2_seesCell) (wr := []) (k' := 0) (n' := 0) [0, 1, 2, 3, 4, 5, 6, 7, 8] [] 0 (c_X2_seesCell l D cI cJ h σ LI BR γ φ1 θ w (σ 3 i) (by omega) (by omega) hO hL) (cwV 2 C.1.2.2.2.2 gX2_seatTold_X2_seesCell rfl rfl rfl (by decide +kernel) ⟨Nat.le_of_ble_eq_true rfl, Nat.le_of_ble_eq_true rfl⟩) rfl rfl rfl rfl rfl (by decide) rfl rfl rfl rfl (Nat.le_of_ble_eq_true rfl) rfl rfl ⟨Nat.le_of_ble_eq_true rfl, Nat.le_of_ble_eq_true rfl⟩ dX2_seatTold_138 ?_
            rintro z_138 _ ⟨φ'_138, rfl, hz_138⟩
            refine z_ws (ws' := (mx cI h σ LI BR γ φ'_138 θ)) rfl ?_
            have r_138 : z_138 = 0 ∨ z_138 = 1 := by rw [hz_138]; exact bI_01 _
            have hz_138 : z_138 = bI (seeB σ LI w.toNat (σ 3 i).toNat) := hz_138
            refine z_if_eq C (tgt := 148) dX2_seatTold_141 (by decide) (by omega) (fun c_141 => ?_) (fun c_141 => ?_)
            ·
              refine z_iconst C dX2_seatTold_148 ?_
              refine z_iadd C dX2_seatTold_149 ?_
              refine z_istore_n C [(3, vI ((sm (fun o => bI (decide (o ≠ w.toNat) && seeB σ LI w.toNat (σ 3 o).toNat)) i) + 0)), (0, .ref (h 0)), (1, vI w), (2, vI wh), (4, vI (i : Int))] dX2_seatTold_150 (by decide) rfl ?_
              refine z_iinc C 4 [(4, vI ((i : Int) + 1)), (3, vI ((sm (fun o => bI (decide (o ≠ w.toNat) && seeB σ LI w.toNat (σ 3 o).toNat)) i) + 0)), (0, .ref (h 0)), (1, vI w), (2, vI wh)] dX2_seatTold_151 rfl (by decide) rfl ?_
              refine z_goto C (tgt := 113) dX2_seatTold_154 (by decide) ?_
              refine z_chg 1 (x' := sm (fun o => bI (decide (o ≠ w.toNat) && seeB σ LI w.toNat (σ 3 o).toNat)) (i + 1)) (lv' := [(4, vI ((i : Int) + 1)), (3, vI (sm (fun o => bI (decide (o ≠ w.toNat) && seeB σ LI w.toNat (σ 3 o).toNat)) (i + 1))), (0, .ref (h 0)), (1, vI w), (2, vI wh)]) rfl (by first | exact sm_t (by rw [decide_eq_true (show i ≠ w.toNat by omega), bz_t hz_138 c_141]; rfl) | exact (Int.add_zero _).trans (sm_f (by rw [bz_f hz_138 c_141]; exact Bool.and_false _)) | exact (Int.add_zero _).trans (sm_f (by rw [decide_eq_false (show ¬ i ≠ w.toNat by omega)]; rfl))) rfl ?_
              refine z_chg 0 (x' := ((i + 1 : Nat) : Int)) (lv' := [(4, vI ((i + 1 : Nat) : Int)), (3, vI (sm (fun o => bI (decide (o ≠ w.toNat) && seeB σ LI w.toNat (σ 3 o).toNat)) (i + 1))), (0, .ref (h 0)), (1, vI w), (2, vI wh)]) rfl (by omega) rfl ?_
              refine z_sub (lv' := [(0, .ref (h 0)), (1, vI w), (2, vI wh), (3, vI (sm (fun o => bI (decide (o ≠ w.toNat) && seeB σ LI w.toNat (σ 3 o).toNat)) (i + 1))), (4, vI ((i + 1 : Nat) : Int))]) [2, 3, 4, 1, 0] rfl ?_
              exact ih9 (i + 1) φ'_138 (by omega) (by omega)
            ·
              refine z_iconst C dX2_seatTold_144 ?_
              refine z_goto C (tgt := 149) dX2_seatTold_145 (by decide) ?_
              refine z_iadd C dX2_seatTold_149 ?_
              refine z_istore_n C [(3, vI ((sm (fun o => bI (decide (o ≠ w.toNat) && seeB σ LI w.toNat (σ 3 o).toNat)) i) + 1)), (0, .ref (h 0)), (1, vI w), (2, vI wh), (4, vI (i : Int))] dX2_seatTold_150 (by decide) rfl ?_
              refine z_iinc C 4 [(4, vI ((i : Int) + 1)), (3, vI ((sm (fun o => bI (decide (o ≠ w.toNat) && seeB σ LI w.toNat (σ 3 o).toNat)) i) + 1)), (0, .ref (h 0)), (1, vI w), (2, vI wh)] dX2_seatTold_151 rfl (by decide) rfl ?_
              refine z_goto C (tgt := 113) dX2_seatTold_154 (by decide) ?_
              refine z_chg 1 (x' := sm (fun o => bI (decide (o ≠ w.toNat) && seeB σ LI w.toNat (σ 3 o).toNat)) (i + 1)) (lv' := [(4, vI ((i : Int) + 1)), (3, vI (sm (fun o => bI (decide (o ≠ w.toNat) && seeB σ LI w.toNat (σ 3 o).toNat)) (i + 1))), (0, .ref (h 0)), (1, vI w), (2, vI wh)]) rfl (by first | exact sm_t (by rw [decide_eq_true (show i ≠ w.toNat by omega), bz_t hz_138 c_141]; rfl) | exact (Int.add_zero _).trans (sm_f (by rw [bz_f hz_138 c_141]; exact Bool.and_false _)) | exact (Int.add_zero _).trans (sm_f (by rw [decide_eq_false (show ¬ i ≠ w.toNat by omega)]; rfl))) rfl ?_
              refine z_chg 0 (x' := ((i + 1 : Nat) : Int)) (lv' := [(4, vI ((i + 1 : Nat) : Int)), (3, vI (sm (fun o => bI (decide (o ≠ w.toNat) && seeB σ LI w.toNat (σ 3 o).toNat)) (i + 1))), (0, .ref (h 0)), (1, vI w), (2, vI wh)]) rfl (by omega) rfl ?_
              refine z_sub (lv' := [(0, .ref (h 0)), (1, vI w), (2, vI wh), (3, vI (sm (fun o => bI (decide (o ≠ w.toNat) && seeB σ LI w.toNat (σ 3 o).toNat)) (i + 1))), (4, vI ((i + 1 : Nat) : Int))]) [2, 3, 4, 1, 0] rfl ?_
              exact ih9 (i + 1) φ'_138 (by omega) (by omega)
    refine z_sub (lv' := [(0, .ref (h 0)), (1, vI w), (2, vI wh), (3, vI 0), (4, vI 0)]) [2, 3, 4, 1, 0] rfl ?_
    exact L_113 ((nWa σ) + 1) 0 φ (Nat.zero_le _) (by omega)

set_option maxRecDepth 100000 in
theorem inU_X2_X2_edges : ∀ w ∈ u_ws RX2 TX2 14, w ∈ wsX2_edges := by decide +kernel
abbrev rm_X2_edges : Room := { frames := 3, cells := 0, slots := 0, locals := 66 }
set_option maxHeartbeats 4000000 in
set_option maxRecDepth 100000 in
theorem c_X2_edges (l : Launch) (D : va_G) (cI cJ : ClassId) (h : Nat → Nat) (σ : YS) (LI BR : Nat → Int) (γ : YS) (φ : Nat → Int) (θ : Int)  (hL : LI4 LI) : Ci l yX2_edges wsX2_edges rm_X2_edges D [(cI, .int), (cJ, .long)] [.ref (h 0)] (mx cI h σ LI BR γ φ θ) (fun z u => u = (mx cI h σ LI BR γ φ θ) ∧ z = sm (fun c => bI (edF LI c 2) + bI (edF LI c 3)) 144) := by
  refine z_ofi (own := RX2) (cc := cX2_edges) (maxL := 4) (lv := [(0, .ref (h 0))]) (by decide) rfl rfl (Nat.le_of_ble_eq_true rfl) rfl ?_
  intro p e s m args below meth cd Q A C hret
  refine z_iconst C dX2_edges_0 ?_
  refine z_istore_n C [(1, vI 0), (0, .ref (h 0))] dX2_edges_1 (by decide) rfl ?_
  refine z_iconst C dX2_edges_2 ?_
  refine z_istore_n C [(2, vI 0), (1, vI 0), (0, .ref (h 0))] dX2_edges_3 (by decide) rfl ?_
  have L_4 : ∀ (d9 i : Nat) (hi : i ≤ 144) (hd : 144 + 1 ≤ i + d9), Zs p l e rm_X2_edges s m args below meth cd Q A D 4 4 [(0, .ref (h 0)), (1, vI (sm (fun c => bI (edF LI c 2) + bI (edF LI c 3)) i)), (2, vI (i : Int))] [] (mx cI h σ LI BR γ φ θ) 0 0 := by
    intro d9
    induction d9 with
    | zero =>
      intro i hi hd
      exfalso; omega
    | succ d9 ih9 =>
      intro i hi hd
      refine z_iload_n C 2 dX2_edges_4 rfl ?_
      refine z_sipush C dX2_edges_5 (by decide) ?_
      refine z_icmp_ge C (tgt := 82) dX2_edges_8 (by decide) (by omega) (by omega) (fun c_8 => ?_) (fun c_8 => ?_)
      ·
        obtain rfl : i = 144 := by omega
        refine z_iload_n C 1 dX2_edges_82 rfl ?_
        exact hret _ _ _ _ dX2_edges_83 ⟨rfl, by rfl⟩
      ·
        refine z_iconst C dX2_edges_11 ?_
        refine z_istore_n C [(3, vI 1), (0, .ref (h 0)), (1, vI (sm (fun c => bI (edF LI c 2) + bI (edF LI c 3)) i)), (2, vI (i : Int))] dX2_edges_12 (by decide) rfl ?_
        have L_13 : ∀ (d8 j : Nat) (fv : Int) (hj : j ≤ 2) (hd2 : 3 ≤ j + d8) (hf : fv = edS LI i j), Zs p l e rm_X2_edges s m args below meth cd Q A D 4 13 [(0, .ref (h 0)), (1, vI fv), (2, vI (i : Int)), (3, vI (1 + 2 * (j : Int)))] [] (mx cI h σ LI BR γ φ θ) 0 0 := by
          intro d8
          induction d8 with
          | zero =>
            intro j fv hj hd2 hf
            exfalso; omega
          | succ d8 ih8 =>
            intro j fv hj hd2 hf
            refine z_iload_n C 3 dX2_edges_13 rfl ?_
            refine z_iconst C dX2_edges_14 ?_
            refine z_icmp_ge C (tgt := 76) dX2_edges_15 (by decide) (by omega) (by omega) (fun c_15 => ?_) (fun c_15 => ?_)
            ·
              refine z_iinc C 2 [(2, vI ((i : Int) + 1)), (0, .ref (h 0)), (1, vI fv), (3, vI (1 + 2 * (j : Int)))] dX2_edges_76 rfl (by decide) rfl ?_
              refine z_goto C (tgt := 4) dX2_edges_79 (by decide) ?_
              refine z_chg 2 (x' := sm (fun c => bI (edF LI c 2) + bI (edF LI c 3)) (i + 1)) (lv' := [(2, vI ((i : Int) + 1)), (0, .ref (h 0)), (1, vI (sm (fun c => bI (edF LI c 2) + bI (edF LI c 3)) (i + 1))), (3, vI (1 + 2 * (j : Int)))]) rfl (by rw [hf]; unfold edS; rw [if_pos (by omega), if_pos (by omega), Int.add_assoc]; rfl) rfl ?_
              refine z_chg 0 (x' := ((i + 1 : Nat) : Int)) (lv' := [(2, vI ((i + 1 : Nat) : Int)), (0, .ref (h 0)), (1, vI (sm (fun c => bI (edF LI c 2) + bI (edF LI c 3)) (i + 1))), (3, vI (1 + 2 * (j : Int)))]) rfl (by omega) rfl ?_
              refine z_sub (lv' := [(0, .ref (h 0)), (1, vI (sm (fun c => bI (edF LI c 2) + bI (edF LI c 3)) (i + 1))), (2, vI ((i + 1 : Nat) : Int))]) [1, 2, 0] rfl ?_
              exact ih9 (i + 1) (by omega) (by omega)
            ·
              have hj2 : j < 2 := by omega
              have r_L := hL i
              refine z_iload_n C 1 dX2_edges_18 rfl ?_
              refine z_iload_n C 2 dX2_edges_19 rfl ?_
              refine z_iload_n C 3 dX2_edges_20 rfl ?_
              refine z_callSi C (As := [vI (i : Int), vI (1 + 2 * (j : Int))]) (st := [vI fv]) (y := yX2_beside) (w := wsX2_beside) (rm := rm_X2_beside) (wr := (mx cI h σ LI BR γ φ θ)) (k' := 0) (n' := 0) [] [0, 1, 2, 3, 4, 5, 6, 7, 8] (c_X2_beside l D cI cJ  (i : Int) (1 + 2 * (j : Int)) (by omega) (by omega)) (va_cwS 2 C.1.2.2.2.2 gX2_edges_X2_beside rfl rfl rfl (by decide +kernel) ⟨Nat.le_of_ble_eq_true rfl, Nat.le_of_ble_eq_true rfl⟩) rfl rfl rfl rfl rfl (by decide) rfl rfl (Nat.le_of_ble_eq_true rfl) rfl rfl ⟨Nat.le_of_ble_eq_true rfl, Nat.le_of_ble_eq_true rfl⟩ dX2_edges_21 ?_
              rintro z_21 _ ⟨rfl, hz_21⟩
              refine z_ws (ws' := (mx cI h σ LI BR γ φ θ)) rfl ?_
              have r_21 : z_21 = -1 ∨ (0 ≤ z_21 ∧ z_21 < 144) := by rw [hz_21]; exact bes_r (by omega) (by omega)
              have hz_21 : z_21 = bes (i : Int) (1 + 2 * (j : Int)) := hz_21
              have hz_n := hz_21.trans (ed_bes hj2)
              refine z_iconst C dX2_edges_24 ?_
              refine z_icmp_eq C (tgt := 67) dX2_edges_25 (by decide) (by omega) (by omega) (fun c_25 => ?_) (fun c_25 => ?_)
              ·
                refine z_iconst C dX2_edges_67 ?_
                refine z_iadd C dX2_edges_68 ?_
                have e9 := ed_n hf hj2 hz_n c_25
                refine z_istore_n C [(1, vI (fv + 0)), (0, .ref (h 0)), (2, vI (i : Int)), (3, vI (1 + 2 * (j : Int)))] dX2_edges_69 (by decide) rfl ?_
                refine z_iinc C 3 [(3, vI ((1 + 2 * (j : Int)) + 2)), (1, vI (fv + 0)), (0, .ref (h 0)), (2, vI (i : Int))] dX2_edges_70 rfl (by decide) rfl ?_
                refine z_goto C (tgt := 13) dX2_edges_73 (by decide) ?_
                refine z_chg 0 (x' := 1 + 2 * ((j + 1 : Nat) : Int)) (lv' := [(3, vI (1 + 2 * ((j + 1 : Nat) : Int))), (1, vI (fv + 0)), (0, .ref (h 0)), (2, vI (i : Int))]) rfl (by omega) rfl ?_
                refine z_sub (lv' := [(0, .ref (h 0)), (1, vI (fv + 0)), (2, vI (i : Int)), (3, vI (1 + 2 * ((j + 1 : Nat) : Int)))]) [2, 1, 3, 0] rfl ?_
                exact ih8 (j + 1) (fv + 0) (by omega) (by omega) (by first | exact e9 | exact (Int.add_zero _).trans e9)
              ·
                refine z_aload_n C 0 dX2_edges_28 rfl ?_
                refine z_get C (v := .ref (h 5)) (ref := "ShadowWallsModel") (T := TX2) (N := 14) (ci := 2) 0 8 inU_X2_X2_edges rfl rfl (by decide) (by decide +kernel) (fun _ h9 => h9) rfl dX2_edges_29 ?_
                refine z_iload_n C 2 dX2_edges_32 rfl ?_
                refine z_iald C (cA := cI) (N := 144) (f := LI) 5 0 rfl rfl (by decide) (by omega) dX2_edges_33 ?_
                refine z_st (v' := LI i) rfl ?_
                refine z_if_le C (tgt := 41) dX2_edges_34 (by decide) (by omega) (fun c_34 => ?_) (fun c_34 => ?_)
                ·
                  refine z_iconst C dX2_edges_41 ?_
                  refine z_aload_n C 0 dX2_edges_42 rfl ?_
                  refine z_get C (v := .ref (h 5)) (ref := "ShadowWallsModel") (T := TX2) (N := 14) (ci := 2) 0 8 inU_X2_X2_edges rfl rfl (by decide) (by decide +kernel) (fun _ h9 => h9) rfl dX2_edges_43 ?_
                  refine z_iload_n C 2 dX2_edges_46 rfl ?_
                  refine z_iload_n C 3 dX2_edges_47 rfl ?_
                  refine z_callSi C (As := [vI (i : Int), vI (1 + 2 * (j : Int))]) (st := [.ref (h 5), vI 0, vI fv]) (y := yX2_beside) (w := wsX2_beside) (rm := rm_X2_beside) (wr := (mx cI h σ LI BR γ φ θ)) (k' := 0) (n' := 0) [] [0, 1, 2, 3, 4, 5, 6, 7, 8] (c_X2_beside l D cI cJ  (i : Int) (1 + 2 * (j : Int)) (by omega) (by omega)) (va_cwS 2 C.1.2.2.2.2 gX2_edges_X2_beside rfl rfl rfl (by decide +kernel) ⟨Nat.le_of_ble_eq_true rfl, Nat.le_of_ble_eq_true rfl⟩) rfl rfl rfl rfl rfl (by decide) rfl rfl (Nat.le_of_ble_eq_true rfl) rfl rfl ⟨Nat.le_of_ble_eq_true rfl, Nat.le_of_ble_eq_true rfl⟩ dX2_edges_48 ?_
                  rintro z_48 _ ⟨rfl, hz_48⟩
                  refine z_ws (ws' := (mx cI h σ LI BR γ φ θ)) rfl ?_
                  have r_48 : z_48 = -1 ∨ (0 ≤ z_48 ∧ z_48 < 144) := by rw [hz_48]; exact bes_r (by omega) (by omega)
                  have hz_48 : z_48 = bes (i : Int) (1 + 2 * (j : Int)) := hz_48
                  have e48 : z_48 = z_21 := hz_48.trans hz_21.symm
                  have r_L2 := hL z_48.toNat
                  refine z_iald C (cA := cI) (N := 144) (f := LI) 5 0 rfl rfl (by decide) (by omega) dX2_edges_51 ?_
                  refine z_if_le C (tgt := 59) dX2_edges_52 (by decide) (by omega) (fun c_52 => ?_) (fun c_52 => ?_)
                  ·
                    refine z_iconst C dX2_edges_59 ?_
                    refine z_icmp_eq C (tgt := 67) dX2_edges_60 (by decide) (by omega) (by omega) (fun c_60 => ?_) (fun c_60 => ?_)
                    ·
                      refine z_iconst C dX2_edges_67 ?_
                      refine z_iadd C dX2_edges_68 ?_
                      have hx : (0 : Int) = bI (decide (LI i ≠ 0)) := (bI_f (by simp; omega)).symm
                      have hy : (0 : Int) = bI (decide (LI z_21.toNat ≠ 0)) := (bI_f (by rw [← e48]; simp; omega)).symm
                      have e9 := ed_e hf hj2 hz_n hx hy rfl
                      refine z_istore_n C [(1, vI (fv + 0)), (0, .ref (h 0)), (2, vI (i : Int)), (3, vI (1 + 2 * (j : Int)))] dX2_edges_69 (by decide) rfl ?_
                      refine z_iinc C 3 [(3, vI ((1 + 2 * (j : Int)) + 2)), (1, vI (fv + 0)), (0, .ref (h 0)), (2, vI (i : Int))] dX2_edges_70 rfl (by decide) rfl ?_
                      refine z_goto C (tgt := 13) dX2_edges_73 (by decide) ?_
                      refine z_chg 0 (x' := 1 + 2 * ((j + 1 : Nat) : Int)) (lv' := [(3, vI (1 + 2 * ((j + 1 : Nat) : Int))), (1, vI (fv + 0)), (0, .ref (h 0)), (2, vI (i : Int))]) rfl (by omega) rfl ?_
                      refine z_sub (lv' := [(0, .ref (h 0)), (1, vI (fv + 0)), (2, vI (i : Int)), (3, vI (1 + 2 * ((j + 1 : Nat) : Int)))]) [2, 1, 3, 0] rfl ?_
                      exact ih8 (j + 1) (fv + 0) (by omega) (by omega) (by first | exact e9 | exact (Int.add_zero _).trans e9)
                    ·
                      exfalso; omega
                  ·
                    refine z_iconst C dX2_edges_55 ?_
                    refine z_goto C (tgt := 60) dX2_edges_56 (by decide) ?_
                    refine z_icmp_eq C (tgt := 67) dX2_edges_60 (by decide) (by omega) (by omega) (fun c_60 => ?_) (fun c_60 => ?_)
                    ·
                      exfalso; omega
                    ·
                      refine z_iconst C dX2_edges_63 ?_
                      refine z_goto C (tgt := 68) dX2_edges_64 (by decide) ?_
                      refine z_iadd C dX2_edges_68 ?_
                      have hx : (0 : Int) = bI (decide (LI i ≠ 0)) := (bI_f (by simp; omega)).symm
                      have hy : (1 : Int) = bI (decide (LI z_21.toNat ≠ 0)) := (bI_t (by rw [← e48]; simp; omega)).symm
                      have e9 := ed_t hf hj2 hz_n hx hy c_25 (by decide)
                      refine z_istore_n C [(1, vI (fv + 1)), (0, .ref (h 0)), (2, vI (i : Int)), (3, vI (1 + 2 * (j : Int)))] dX2_edges_69 (by decide) rfl ?_
                      refine z_iinc C 3 [(3, vI ((1 + 2 * (j : Int)) + 2)), (1, vI (fv + 1)), (0, .ref (h 0)), (2, vI (i : Int))] dX2_edges_70 rfl (by decide) rfl ?_
                      refine z_goto C (tgt := 13) dX2_edges_73 (by decide) ?_
                      refine z_chg 0 (x' := 1 + 2 * ((j + 1 : Nat) : Int)) (lv' := [(3, vI (1 + 2 * ((j + 1 : Nat) : Int))), (1, vI (fv + 1)), (0, .ref (h 0)), (2, vI (i : Int))]) rfl (by omega) rfl ?_
                      refine z_sub (lv' := [(0, .ref (h 0)), (1, vI (fv + 1)), (2, vI (i : Int)), (3, vI (1 + 2 * ((j + 1 : Nat) : Int)))]) [2, 1, 3, 0] rfl ?_
                      exact ih8 (j + 1) (fv + 1) (by omega) (by omega) (by first | exact e9 | exact (Int.add_zero _).trans e9)
                ·
                  refine z_iconst C dX2_edges_37 ?_
                  refine z_goto C (tgt := 42) dX2_edges_38 (by decide) ?_
                  refine z_aload_n C 0 dX2_edges_42 rfl ?_
                  refine z_get C (v := .ref (h 5)) (ref := "ShadowWallsModel") (T := TX2) (N := 14) (ci := 2) 0 8 inU_X2_X2_edges rfl rfl (by decide) (by decide +kernel) (fun _ h9 => h9) rfl dX2_edges_43 ?_
                  refine z_iload_n C 2 dX2_edges_46 rfl ?_
                  refine z_iload_n C 3 dX2_edges_47 rfl ?_
                  refine z_callSi C (As := [vI (i : Int), vI (1 + 2 * (j : Int))]) (st := [.ref (h 5), vI 1, vI fv]) (y := yX2_beside) (w := wsX2_beside) (rm := rm_X2_beside) (wr := (mx cI h σ LI BR γ φ θ)) (k' := 0) (n' := 0) [] [0, 1, 2, 3, 4, 5, 6, 7, 8] (c_X2_beside l D cI cJ  (i : Int) (1 + 2 * (j : Int)) (by omega) (by omega)) (va_cwS 2 C.1.2.2.2.2 gX2_edges_X2_beside rfl rfl rfl (by decide +kernel) ⟨Nat.le_of_ble_eq_true rfl, Nat.le_of_ble_eq_true rfl⟩) rfl rfl rfl rfl rfl (by decide) rfl rfl (Nat.le_of_ble_eq_true rfl) rfl rfl ⟨Nat.le_of_ble_eq_true rfl, Nat.le_of_ble_eq_true rfl⟩ dX2_edges_48 ?_
                  rintro z_48 _ ⟨rfl, hz_48⟩
                  refine z_ws (ws' := (mx cI h σ LI BR γ φ θ)) rfl ?_
                  have r_48 : z_48 = -1 ∨ (0 ≤ z_48 ∧ z_48 < 144) := by rw [hz_48]; exact bes_r (by omega) (by omega)
                  have hz_48 : z_48 = bes (i : Int) (1 + 2 * (j : Int)) := hz_48
                  have e48 : z_48 = z_21 := hz_48.trans hz_21.symm
                  have r_L2 := hL z_48.toNat
                  refine z_iald C (cA := cI) (N := 144) (f := LI) 5 0 rfl rfl (by decide) (by omega) dX2_edges_51 ?_
                  refine z_if_le C (tgt := 59) dX2_edges_52 (by decide) (by omega) (fun c_52 => ?_) (fun c_52 => ?_)
                  ·
                    refine z_iconst C dX2_edges_59 ?_
                    refine z_icmp_eq C (tgt := 67) dX2_edges_60 (by decide) (by omega) (by omega) (fun c_60 => ?_) (fun c_60 => ?_)
                    ·
                      exfalso; omega
                    ·
                      refine z_iconst C dX2_edges_63 ?_
                      refine z_goto C (tgt := 68) dX2_edges_64 (by decide) ?_
                      refine z_iadd C dX2_edges_68 ?_
                      have hx : (1 : Int) = bI (decide (LI i ≠ 0)) := (bI_t (by simp; omega)).symm
                      have hy : (0 : Int) = bI (decide (LI z_21.toNat ≠ 0)) := (bI_f (by rw [← e48]; simp; omega)).symm
                      have e9 := ed_t hf hj2 hz_n hx hy c_25 (by decide)
                      refine z_istore_n C [(1, vI (fv + 1)), (0, .ref (h 0)), (2, vI (i : Int)), (3, vI (1 + 2 * (j : Int)))] dX2_edges_69 (by decide) rfl ?_
                      refine z_iinc C 3 [(3, vI ((1 + 2 * (j : Int)) + 2)), (1, vI (fv + 1)), (0, .ref (h 0)), (2, vI (i : Int))] dX2_edges_70 rfl (by decide) rfl ?_
                      refine z_goto C (tgt := 13) dX2_edges_73 (by decide) ?_
                      refine z_chg 0 (x' := 1 + 2 * ((j + 1 : Nat) : Int)) (lv' := [(3, vI (1 + 2 * ((j + 1 : Nat) : Int))), (1, vI (fv + 1)), (0, .ref (h 0)), (2, vI (i : Int))]) rfl (by omega) rfl ?_
                      refine z_sub (lv' := [(0, .ref (h 0)), (1, vI (fv + 1)), (2, vI (i : Int)), (3, vI (1 + 2 * ((j + 1 : Nat) : Int)))]) [2, 1, 3, 0] rfl ?_
                      exact ih8 (j + 1) (fv + 1) (by omega) (by omega) (by first | exact e9 | exact (Int.add_zero _).trans e9)
                  ·
                    refine z_iconst C dX2_edges_55 ?_
                    refine z_goto C (tgt := 60) dX2_edges_56 (by decide) ?_
                    refine z_icmp_eq C (tgt := 67) dX2_edges_60 (by decide) (by omega) (by omega) (fun c_60 => ?_) (fun c_60 => ?_)
                    ·
                      refine z_iconst C dX2_edges_67 ?_
                      refine z_iadd C dX2_edges_68 ?_
                      have hx : (1 : Int) = bI (decide (LI i ≠ 0)) := (bI_t (by simp; omega)).symm
                      have hy : (1 : Int) = bI (decide (LI z_21.toNat ≠ 0)) := (bI_t (by rw [← e48]; simp; omega)).symm
                      have e9 := ed_e hf hj2 hz_n hx hy rfl
                      refine z_istore_n C [(1, vI (fv + 0)), (0, .ref (h 0)), (2, vI (i : Int)), (3, vI (1 + 2 * (j : Int)))] dX2_edges_69 (by decide) rfl ?_
                      refine z_iinc C 3 [(3, vI ((1 + 2 * (j : Int)) + 2)), (1, vI (fv + 0)), (0, .ref (h 0)), (2, vI (i : Int))] dX2_edges_70 rfl (by decide) rfl ?_
                      refine z_goto C (tgt := 13) dX2_edges_73 (by decide) ?_
                      refine z_chg 0 (x' := 1 + 2 * ((j + 1 : Nat) : Int)) (lv' := [(3, vI (1 + 2 * ((j + 1 : Nat) : Int))), (1, vI (fv + 0)), (0, .ref (h 0)), (2, vI (i : Int))]) rfl (by omega) rfl ?_
                      refine z_sub (lv' := [(0, .ref (h 0)), (1, vI (fv + 0)), (2, vI (i : Int)), (3, vI (1 + 2 * ((j + 1 : Nat) : Int)))]) [2, 1, 3, 0] rfl ?_
                      exact ih8 (j + 1) (fv + 0) (by omega) (by omega) (by first | exact e9 | exact (Int.add_zero _).trans e9)
                    ·
                      exfalso; omega
        refine z_sub (lv' := [(0, .ref (h 0)), (1, vI (sm (fun c => bI (edF LI c 2) + bI (edF LI c 3)) i)), (2, vI (i : Int)), (3, vI 1)]) [1, 2, 3, 0] rfl ?_
        exact L_13 3 0 _ (by omega) (by omega) (by simp [edS])
  refine z_sub (lv' := [(0, .ref (h 0)), (1, vI 0), (2, vI 0)]) [2, 1, 0] rfl ?_
  exact L_4 (144 + 1) 0 (Nat.zero_le _) (by omega)

set_option maxRecDepth 100000 in
theorem inU_X2_X2_notOpen : ∀ w ∈ u_ws RX2 TX2 14, w ∈ wsX2_notOpen := by decide +kernel
abbrev rm_X2_notOpen : Room := { frames := 0, cells := 0, slots := 0, locals := 0 }
set_option maxHeartbeats 4000000 in
set_option maxRecDepth 100000 in
theorem c_X2_notOpen (l : Launch) (D : va_G) (cI cJ : ClassId) (h : Nat → Nat) (σ : YS) (LI BR : Nat → Int) (γ : YS) (φ : Nat → Int) (θ : Int)  (hO : Ok σ) : Ci l yX2_notOpen wsX2_notOpen rm_X2_notOpen D [(cI, .int), (cJ, .long)] [.ref (h 0)] (mx cI h σ LI BR γ φ θ) (fun z u => u = (mx cI h σ LI BR γ φ θ) ∧ z = sm (fun c => bI (decide (σ 0 c ≠ 0))) 144) := by
  refine z_ofi (own := RX2) (cc := cX2_notOpen) (maxL := 6) (lv := [(0, .ref (h 0))]) (by decide) rfl rfl (Nat.le_of_ble_eq_true rfl) rfl ?_
  intro p e s m args below meth cd Q A C hret
  refine z_iconst C dX2_notOpen_0 ?_
  refine z_istore_n C [(1, vI 0), (0, .ref (h 0))] dX2_notOpen_1 (by decide) rfl ?_
  refine z_aload_n C 1 dX2_notOpen_2 rfl ?_
  refine z_get C (v := .ref (h 1)) (ref := "ShadowWallsModel") (T := TX2) (N := 14) (ci := 2) 0 1 inU_X2_X2_notOpen rfl rfl (by decide) (by decide +kernel) (fun _ h9 => h9) rfl dX2_notOpen_3 ?_
  refine z_astore_n C [(2, .ref (h 1)), (1, vI 0), (0, .ref (h 0))] dX2_notOpen_6 (by decide) rfl ?_
  refine z_aload_n C 0 dX2_notOpen_7 rfl ?_
  refine z_alen C (v := 144) (cA := cI) (ty := .int) 1 0 rfl rfl rfl dX2_notOpen_8 ?_
  refine z_istore_n C [(3, vI 144), (2, .ref (h 1)), (1, vI 0), (0, .ref (h 0))] dX2_notOpen_9 (by decide) rfl ?_
  refine z_iconst C dX2_notOpen_10 ?_
  refine z_istore C [(4, vI 0), (3, vI 144), (2, .ref (h 1)), (1, vI 0), (0, .ref (h 0))] dX2_notOpen_11 (by decide) rfl ?_
  have L_13 : ∀ (d9 i : Nat) (hi : i ≤ 144) (hd : 144 + 1 ≤ i + d9), Zs p l e rm_X2_notOpen s m args below meth cd Q A D 6 13 [(0, .ref (h 0)), (1, vI (sm (fun c => bI (decide (σ 0 c ≠ 0))) i)), (2, .ref (h 1)), (3, vI 144), (4, vI (i : Int))] [] (mx cI h σ LI BR γ φ θ) 0 0 := by
    intro d9
    induction d9 with
    | zero =>
      intro i hi hd
      exfalso; omega
    | succ d9 ih9 =>
      intro i hi hd
      refine z_iload C 4 dX2_notOpen_13 rfl ?_
      refine z_iload_n C 3 dX2_notOpen_15 rfl ?_
      refine z_icmp_ge C (tgt := 44) dX2_notOpen_16 (by decide) (by omega) (by omega) (fun c_16 => ?_) (fun c_16 => ?_)
      ·
        obtain rfl : i = 144 := by omega
        refine z_iload_n C 1 dX2_notOpen_44 rfl ?_
        exact hret _ _ _ _ dX2_notOpen_45 ⟨rfl, by rfl⟩
      ·
        have r_K := hO.2.2.2.2 i
        refine z_aload_n C 2 dX2_notOpen_19 rfl ?_
        refine z_iload C 4 dX2_notOpen_20 rfl ?_
        refine z_iald C (cA := cI) (N := 144) (f := σ 0) 1 0 rfl rfl (by decide) (by omega) dX2_notOpen_22 ?_
        refine z_st (v' := σ 0 i) rfl ?_
        refine z_istore C [(5, vI (σ 0 i)), (0, .ref (h 0)), (1, vI (sm (fun c => bI (decide (σ 0 c ≠ 0))) i)), (2, .ref (h 1)), (3, vI 144), (4, vI (i : Int))] dX2_notOpen_23 (by decide) rfl ?_
        refine z_iload_n C 2 dX2_notOpen_25 rfl ?_
        refine z_iload C 0 dX2_notOpen_26 rfl ?_
        refine z_if_ne C (tgt := 35) dX2_notOpen_28 (by decide) (by omega) (fun c_28 => ?_) (fun c_28 => ?_)
        ·
          refine z_iconst C dX2_notOpen_35 ?_
          refine z_iadd C dX2_notOpen_36 ?_
          refine z_istore_n C [(1, vI ((sm (fun c => bI (decide (σ 0 c ≠ 0))) i) + 1)), (5, vI (σ 0 i)), (0, .ref (h 0)), (2, .ref (h 1)), (3, vI 144), (4, vI (i : Int))] dX2_notOpen_37 (by decide) rfl ?_
          refine z_iinc C 5 [(4, vI ((i : Int) + 1)), (1, vI ((sm (fun c => bI (decide (σ 0 c ≠ 0))) i) + 1)), (5, vI (σ 0 i)), (0, .ref (h 0)), (2, .ref (h 1)), (3, vI 144)] dX2_notOpen_38 rfl (by decide) rfl ?_
          refine z_goto C (tgt := 13) dX2_notOpen_41 (by decide) ?_
          refine z_chg 1 (x' := sm (fun c => bI (decide (σ 0 c ≠ 0))) (i + 1)) (lv' := [(4, vI ((i : Int) + 1)), (1, vI (sm (fun c => bI (decide (σ 0 c ≠ 0))) (i + 1))), (5, vI (σ 0 i)), (0, .ref (h 0)), (2, .ref (h 1)), (3, vI 144)]) rfl (by first | exact sm_t (by simp; omega) | exact (Int.add_zero _).trans (sm_f (by simp; omega))) rfl ?_
          refine z_chg 0 (x' := ((i + 1 : Nat) : Int)) (lv' := [(4, vI ((i + 1 : Nat) : Int)), (1, vI (sm (fun c => bI (decide (σ 0 c ≠ 0))) (i + 1))), (5, vI (σ 0 i)), (0, .ref (h 0)), (2, .ref (h 1)), (3, vI 144)]) rfl (by omega) rfl ?_
          refine z_sub (lv' := [(0, .ref (h 0)), (1, vI (sm (fun c => bI (decide (σ 0 c ≠ 0))) (i + 1))), (2, .ref (h 1)), (3, vI 144), (4, vI ((i + 1 : Nat) : Int))]) [3, 1, 4, 5, 0] rfl ?_
          exact ih9 (i + 1) (by omega) (by omega)
        ·
          refine z_iconst C dX2_notOpen_31 ?_
          refine z_goto C (tgt := 36) dX2_notOpen_32 (by decide) ?_
          refine z_iadd C dX2_notOpen_36 ?_
          refine z_istore_n C [(1, vI ((sm (fun c => bI (decide (σ 0 c ≠ 0))) i) + 0)), (5, vI (σ 0 i)), (0, .ref (h 0)), (2, .ref (h 1)), (3, vI 144), (4, vI (i : Int))] dX2_notOpen_37 (by decide) rfl ?_
          refine z_iinc C 5 [(4, vI ((i : Int) + 1)), (1, vI ((sm (fun c => bI (decide (σ 0 c ≠ 0))) i) + 0)), (5, vI (σ 0 i)), (0, .ref (h 0)), (2, .ref (h 1)), (3, vI 144)] dX2_notOpen_38 rfl (by decide) rfl ?_
          refine z_goto C (tgt := 13) dX2_notOpen_41 (by decide) ?_
          refine z_chg 1 (x' := sm (fun c => bI (decide (σ 0 c ≠ 0))) (i + 1)) (lv' := [(4, vI ((i : Int) + 1)), (1, vI (sm (fun c => bI (decide (σ 0 c ≠ 0))) (i + 1))), (5, vI (σ 0 i)), (0, .ref (h 0)), (2, .ref (h 1)), (3, vI 144)]) rfl (by first | exact sm_t (by simp; omega) | exact (Int.add_zero _).trans (sm_f (by simp; omega))) rfl ?_
          refine z_chg 0 (x' := ((i + 1 : Nat) : Int)) (lv' := [(4, vI ((i + 1 : Nat) : Int)), (1, vI (sm (fun c => bI (decide (σ 0 c ≠ 0))) (i + 1))), (5, vI (σ 0 i)), (0, .ref (h 0)), (2, .ref (h 1)), (3, vI 144)]) rfl (by omega) rfl ?_
          refine z_sub (lv' := [(0, .ref (h 0)), (1, vI (sm (fun c => bI (decide (σ 0 c ≠ 0))) (i + 1))), (2, .ref (h 1)), (3, vI 144), (4, vI ((i + 1 : Nat) : Int))]) [3, 1, 4, 5, 0] rfl ?_
          exact ih9 (i + 1) (by omega) (by omega)
  refine z_sub (lv' := [(0, .ref (h 0)), (1, vI 0), (2, .ref (h 1)), (3, vI 144), (4, vI 0)]) [4, 3, 2, 1, 0] rfl ?_
  exact L_13 (144 + 1) 0 (Nat.zero_le _) (by omega)

set_option maxRecDepth 100000 in
theorem inU_X2_X2_lit : ∀ w ∈ u_ws RX2 TX2 14, w ∈ wsX2_lit := by decide +kernel
abbrev rm_X2_lit : Room := { frames := 0, cells := 0, slots := 0, locals := 0 }
set_option maxHeartbeats 4000000 in
set_option maxRecDepth 100000 in
theorem c_X2_lit (l : Launch) (D : va_G) (cI cJ : ClassId) (h : Nat → Nat) (σ : YS) (LI BR : Nat → Int) (γ : YS) (φ : Nat → Int) (θ : Int)  (hL : LI4 LI) : Ci l yX2_lit wsX2_lit rm_X2_lit D [(cI, .int), (cJ, .long)] [.ref (h 0)] (mx cI h σ LI BR γ φ θ) (fun z u => u = (mx cI h σ LI BR γ φ θ) ∧ z = sm (fun c => bI (decide (LI c ≠ 0))) 144) := by
  refine z_ofi (own := RX2) (cc := cX2_lit) (maxL := 6) (lv := [(0, .ref (h 0))]) (by decide) rfl rfl (Nat.le_of_ble_eq_true rfl) rfl ?_
  intro p e s m args below meth cd Q A C hret
  refine z_iconst C dX2_lit_0 ?_
  refine z_istore_n C [(1, vI 0), (0, .ref (h 0))] dX2_lit_1 (by decide) rfl ?_
  refine z_aload_n C 1 dX2_lit_2 rfl ?_
  refine z_get C (v := .ref (h 5)) (ref := "ShadowWallsModel") (T := TX2) (N := 14) (ci := 2) 0 8 inU_X2_X2_lit rfl rfl (by decide) (by decide +kernel) (fun _ h9 => h9) rfl dX2_lit_3 ?_
  refine z_astore_n C [(2, .ref (h 5)), (1, vI 0), (0, .ref (h 0))] dX2_lit_6 (by decide) rfl ?_
  refine z_aload_n C 0 dX2_lit_7 rfl ?_
  refine z_alen C (v := 144) (cA := cI) (ty := .int) 5 0 rfl rfl rfl dX2_lit_8 ?_
  refine z_istore_n C [(3, vI 144), (2, .ref (h 5)), (1, vI 0), (0, .ref (h 0))] dX2_lit_9 (by decide) rfl ?_
  refine z_iconst C dX2_lit_10 ?_
  refine z_istore C [(4, vI 0), (3, vI 144), (2, .ref (h 5)), (1, vI 0), (0, .ref (h 0))] dX2_lit_11 (by decide) rfl ?_
  have L_13 : ∀ (d9 i : Nat) (hi : i ≤ 144) (hd : 144 + 1 ≤ i + d9), Zs p l e rm_X2_lit s m args below meth cd Q A D 6 13 [(0, .ref (h 0)), (1, vI (sm (fun c => bI (decide (LI c ≠ 0))) i)), (2, .ref (h 5)), (3, vI 144), (4, vI (i : Int))] [] (mx cI h σ LI BR γ φ θ) 0 0 := by
    intro d9
    induction d9 with
    | zero =>
      intro i hi hd
      exfalso; omega
    | succ d9 ih9 =>
      intro i hi hd
      refine z_iload C 4 dX2_lit_13 rfl ?_
      refine z_iload_n C 3 dX2_lit_15 rfl ?_
      refine z_icmp_ge C (tgt := 44) dX2_lit_16 (by decide) (by omega) (by omega) (fun c_16 => ?_) (fun c_16 => ?_)
      ·
        obtain rfl : i = 144 := by omega
        refine z_iload_n C 1 dX2_lit_44 rfl ?_
        exact hret _ _ _ _ dX2_lit_45 ⟨rfl, by rfl⟩
      ·
        have r_K := hL i
        refine z_aload_n C 2 dX2_lit_19 rfl ?_
        refine z_iload C 4 dX2_lit_20 rfl ?_
        refine z_iald C (cA := cI) (N := 144) (f := LI) 5 0 rfl rfl (by decide) (by omega) dX2_lit_22 ?_
        refine z_st (v' := LI i) rfl ?_
        refine z_istore C [(5, vI (LI i)), (0, .ref (h 0)), (1, vI (sm (fun c => bI (decide (LI c ≠ 0))) i)), (2, .ref (h 5)), (3, vI 144), (4, vI (i : Int))] dX2_lit_23 (by decide) rfl ?_
        refine z_iload_n C 2 dX2_lit_25 rfl ?_
        refine z_iload C 0 dX2_lit_26 rfl ?_
        refine z_if_le C (tgt := 35) dX2_lit_28 (by decide) (by omega) (fun c_28 => ?_) (fun c_28 => ?_)
        ·
          refine z_iconst C dX2_lit_35 ?_
          refine z_iadd C dX2_lit_36 ?_
          refine z_istore_n C [(1, vI ((sm (fun c => bI (decide (LI c ≠ 0))) i) + 0)), (5, vI (LI i)), (0, .ref (h 0)), (2, .ref (h 5)), (3, vI 144), (4, vI (i : Int))] dX2_lit_37 (by decide) rfl ?_
          refine z_iinc C 5 [(4, vI ((i : Int) + 1)), (1, vI ((sm (fun c => bI (decide (LI c ≠ 0))) i) + 0)), (5, vI (LI i)), (0, .ref (h 0)), (2, .ref (h 5)), (3, vI 144)] dX2_lit_38 rfl (by decide) rfl ?_
          refine z_goto C (tgt := 13) dX2_lit_41 (by decide) ?_
          refine z_chg 1 (x' := sm (fun c => bI (decide (LI c ≠ 0))) (i + 1)) (lv' := [(4, vI ((i : Int) + 1)), (1, vI (sm (fun c => bI (decide (LI c ≠ 0))) (i + 1))), (5, vI (LI i)), (0, .ref (h 0)), (2, .ref (h 5)), (3, vI 144)]) rfl (by first | exact sm_t (by simp; omega) | exact (Int.add_zero _).trans (sm_f (by simp; omega))) rfl ?_
          refine z_chg 0 (x' := ((i + 1 : Nat) : Int)) (lv' := [(4, vI ((i + 1 : Nat) : Int)), (1, vI (sm (fun c => bI (decide (LI c ≠ 0))) (i + 1))), (5, vI (LI i)), (0, .ref (h 0)), (2, .ref (h 5)), (3, vI 144)]) rfl (by omega) rfl ?_
          refine z_sub (lv' := [(0, .ref (h 0)), (1, vI (sm (fun c => bI (decide (LI c ≠ 0))) (i + 1))), (2, .ref (h 5)), (3, vI 144), (4, vI ((i + 1 : Nat) : Int))]) [3, 1, 4, 5, 0] rfl ?_
          exact ih9 (i + 1) (by omega) (by omega)
        ·
          refine z_iconst C dX2_lit_31 ?_
          refine z_goto C (tgt := 36) dX2_lit_32 (by decide) ?_
          refine z_iadd C dX2_lit_36 ?_
          refine z_istore_n C [(1, vI ((sm (fun c => bI (decide (LI c ≠ 0))) i) + 1)), (5, vI (LI i)), (0, .ref (h 0)), (2, .ref (h 5)), (3, vI 144), (4, vI (i : Int))] dX2_lit_37 (by decide) rfl ?_
          refine z_iinc C 5 [(4, vI ((i : Int) + 1)), (1, vI ((sm (fun c => bI (decide (LI c ≠ 0))) i) + 1)), (5, vI (LI i)), (0, .ref (h 0)), (2, .ref (h 5)), (3, vI 144)] dX2_lit_38 rfl (by decide) rfl ?_
          refine z_goto C (tgt := 13) dX2_lit_41 (by decide) ?_
          refine z_chg 1 (x' := sm (fun c => bI (decide (LI c ≠ 0))) (i + 1)) (lv' := [(4, vI ((i : Int) + 1)), (1, vI (sm (fun c => bI (decide (LI c ≠ 0))) (i + 1))), (5, vI (LI i)), (0, .ref (h 0)), (2, .ref (h 5)), (3, vI 144)]) rfl (by first | exact sm_t (by simp; omega) | exact (Int.add_zero _).trans (sm_f (by simp; omega))) rfl ?_
          refine z_chg 0 (x' := ((i + 1 : Nat) : Int)) (lv' := [(4, vI ((i + 1 : Nat) : Int)), (1, vI (sm (fun c => bI (decide (LI c ≠ 0))) (i + 1))), (5, vI (LI i)), (0, .ref (h 0)), (2, .ref (h 5)), (3, vI 144)]) rfl (by omega) rfl ?_
          refine z_sub (lv' := [(0, .ref (h 0)), (1, vI (sm (fun c => bI (decide (LI c ≠ 0))) (i + 1))), (2, .ref (h 5)), (3, vI 144), (4, vI ((i + 1 : Nat) : Int))]) [3, 1, 4, 5, 0] rfl ?_
          exact ih9 (i + 1) (by omega) (by omega)
  refine z_sub (lv' := [(0, .ref (h 0)), (1, vI 0), (2, .ref (h 5)), (3, vI 144), (4, vI 0)]) [4, 3, 2, 1, 0] rfl ?_
  exact L_13 (144 + 1) 0 (Nat.zero_le _) (by omega)

set_option maxRecDepth 100000 in
theorem inU_X2_X2_allBright : ∀ w ∈ u_ws RX2 TX2 14, w ∈ wsX2_allBright := by decide +kernel
abbrev rm_X2_allBright : Room := { frames := 0, cells := 0, slots := 0, locals := 0 }
set_option maxHeartbeats 4000000 in
set_option maxRecDepth 100000 in
theorem c_X2_allBright (l : Launch) (D : va_G) (cI cJ : ClassId) (h : Nat → Nat) (σ : YS) (LI BR : Nat → Int) (γ : YS) (φ : Nat → Int) (θ : Int)  (hB : BR9 BR) : Ci l yX2_allBright wsX2_allBright rm_X2_allBright D [(cI, .int), (cJ, .long)] [.ref (h 0)] (mx cI h σ LI BR γ φ θ) (fun z u => u = (mx cI h σ LI BR γ φ θ) ∧ z = sm (BR) 144) := by
  refine z_ofi (own := RX2) (cc := cX2_allBright) (maxL := 6) (lv := [(0, .ref (h 0))]) (by decide) rfl rfl (Nat.le_of_ble_eq_true rfl) rfl ?_
  intro p e s m args below meth cd Q A C hret
  refine z_iconst C dX2_allBright_0 ?_
  refine z_istore_n C [(1, vI 0), (0, .ref (h 0))] dX2_allBright_1 (by decide) rfl ?_
  refine z_aload_n C 1 dX2_allBright_2 rfl ?_
  refine z_get C (v := .ref (h 6)) (ref := "ShadowWallsModel") (T := TX2) (N := 14) (ci := 2) 0 9 inU_X2_X2_allBright rfl rfl (by decide) (by decide +kernel) (fun _ h9 => h9) rfl dX2_allBright_3 ?_
  refine z_astore_n C [(2, .ref (h 6)), (1, vI 0), (0, .ref (h 0))] dX2_allBright_6 (by decide) rfl ?_
  refine z_aload_n C 0 dX2_allBright_7 rfl ?_
  refine z_alen C (v := 144) (cA := cI) (ty := .int) 6 0 rfl rfl rfl dX2_allBright_8 ?_
  refine z_istore_n C [(3, vI 144), (2, .ref (h 6)), (1, vI 0), (0, .ref (h 0))] dX2_allBright_9 (by decide) rfl ?_
  refine z_iconst C dX2_allBright_10 ?_
  refine z_istore C [(4, vI 0), (3, vI 144), (2, .ref (h 6)), (1, vI 0), (0, .ref (h 0))] dX2_allBright_11 (by decide) rfl ?_
  have L_13 : ∀ (d9 i : Nat) (hi : i ≤ 144) (hd : 144 + 1 ≤ i + d9), Zs p l e rm_X2_allBright s m args below meth cd Q A D 6 13 [(0, .ref (h 0)), (1, vI (sm (BR) i)), (2, .ref (h 6)), (3, vI 144), (4, vI (i : Int))] [] (mx cI h σ LI BR γ φ θ) 0 0 := by
    intro d9
    induction d9 with
    | zero =>
      intro i hi hd
      exfalso; omega
    | succ d9 ih9 =>
      intro i hi hd
      refine z_iload C 4 dX2_allBright_13 rfl ?_
      refine z_iload_n C 3 dX2_allBright_15 rfl ?_
      refine z_icmp_ge C (tgt := 36) dX2_allBright_16 (by decide) (by omega) (by omega) (fun c_16 => ?_) (fun c_16 => ?_)
      ·
        obtain rfl : i = 144 := by omega
        refine z_iload_n C 1 dX2_allBright_36 rfl ?_
        exact hret _ _ _ _ dX2_allBright_37 ⟨rfl, by rfl⟩
      ·
        refine z_aload_n C 2 dX2_allBright_19 rfl ?_
        refine z_iload C 4 dX2_allBright_20 rfl ?_
        refine z_iald C (cA := cI) (N := 144) (f := BR) 6 0 rfl rfl (by decide) (by omega) dX2_allBright_22 ?_
        refine z_st (v' := BR i) rfl ?_
        refine z_istore C [(5, vI (BR i)), (0, .ref (h 0)), (1, vI (sm (BR) i)), (2, .ref (h 6)), (3, vI 144), (4, vI (i : Int))] dX2_allBright_23 (by decide) rfl ?_
        refine z_iload_n C 2 dX2_allBright_25 rfl ?_
        refine z_iload C 0 dX2_allBright_26 rfl ?_
        refine z_iadd C dX2_allBright_28 ?_
        refine z_istore_n C [(1, vI ((sm (BR) i) + (BR i))), (5, vI (BR i)), (0, .ref (h 0)), (2, .ref (h 6)), (3, vI 144), (4, vI (i : Int))] dX2_allBright_29 (by decide) rfl ?_
        refine z_iinc C 5 [(4, vI ((i : Int) + 1)), (1, vI ((sm (BR) i) + (BR i))), (5, vI (BR i)), (0, .ref (h 0)), (2, .ref (h 6)), (3, vI 144)] dX2_allBright_30 rfl (by decide) rfl ?_
        refine z_goto C (tgt := 13) dX2_allBright_33 (by decide) ?_
        refine z_chg 1 (x' := sm (BR) (i + 1)) (lv' := [(4, vI ((i : Int) + 1)), (1, vI (sm (BR) (i + 1))), (5, vI (BR i)), (0, .ref (h 0)), (2, .ref (h 6)), (3, vI 144)]) rfl (rfl) rfl ?_
        refine z_chg 0 (x' := ((i + 1 : Nat) : Int)) (lv' := [(4, vI ((i + 1 : Nat) : Int)), (1, vI (sm (BR) (i + 1))), (5, vI (BR i)), (0, .ref (h 0)), (2, .ref (h 6)), (3, vI 144)]) rfl (by omega) rfl ?_
        refine z_sub (lv' := [(0, .ref (h 0)), (1, vI (sm (BR) (i + 1))), (2, .ref (h 6)), (3, vI 144), (4, vI ((i + 1 : Nat) : Int))]) [3, 1, 4, 5, 0] rfl ?_
        exact ih9 (i + 1) (by omega) (by omega)
  refine z_sub (lv' := [(0, .ref (h 0)), (1, vI 0), (2, .ref (h 6)), (3, vI 144), (4, vI 0)]) [4, 3, 2, 1, 0] rfl ?_
  exact L_13 (144 + 1) 0 (Nat.zero_le _) (by omega)

set_option maxRecDepth 100000 in
theorem inU_X2_X2_hidden : ∀ w ∈ u_ws RX2 TX2 14, w ∈ wsX2_hidden := by decide +kernel
abbrev rm_X2_hidden : Room := { frames := 5, cells := 0, slots := 0, locals := 121 }
set_option maxHeartbeats 4000000 in
set_option maxRecDepth 100000 in
theorem c_X2_hidden (l : Launch) (D : va_G) (cI cJ : ClassId) (h : Nat → Nat) (σ : YS) (LI BR : Nat → Int) (γ : YS) (φ : Nat → Int) (θ : Int)  (hO : Ok σ) (hL : LI4 LI) : Ci l yX2_hidden wsX2_hidden rm_X2_hidden D [(cI, .int), (cJ, .long)] [.ref (h 0)] (mx cI h σ LI BR γ φ θ) (fun z u => ∃ φ' : Nat → Int, u = (mx cI h σ LI BR γ φ' θ) ∧ z = sm (fun o => bI (hidB σ LI o)) (nWa σ)) := by
  refine z_ofi (own := RX2) (cc := cX2_hidden) (maxL := 3) (lv := [(0, .ref (h 0))]) (by decide) rfl rfl (Nat.le_of_ble_eq_true rfl) rfl ?_
  intro p e s m args below meth cd Q A C hret
  have hn := hO.1
  have hm := hO.2.1
  have en := nLa_e hO
  have em := nWa_e hO
  refine z_iconst C dX2_hidden_0 ?_
  refine z_istore_n C [(1, vI 0), (0, .ref (h 0))] dX2_hidden_1 (by decide) rfl ?_
  refine z_iconst C dX2_hidden_2 ?_
  refine z_istore_n C [(2, vI 0), (1, vI 0), (0, .ref (h 0))] dX2_hidden_3 (by decide) rfl ?_
  have L_4 : ∀ (d9 i : Nat) (φ1 : Nat → Int) (hi : i ≤ (nWa σ)) (hd : (nWa σ) + 1 ≤ i + d9), Zs p l e rm_X2_hidden s m args below meth cd Q A D 3 4 [(0, .ref (h 0)), (1, vI (sm (fun o => bI (hidB σ LI o)) i)), (2, vI (i : Int))] [] (mx cI h σ LI BR γ φ1 θ) 0 0 := by
    intro d9
    induction d9 with
    | zero =>
      intro i φ1 hi hd
      exfalso; omega
    | succ d9 ih9 =>
      intro i φ1 hi hd
      have s1 := smB_r (fun o => hidB σ LI o) i
      refine z_iload_n C 2 dX2_hidden_4 rfl ?_
      refine z_aload_n C 0 dX2_hidden_5 rfl ?_
      refine z_get C (v := vI (σ 4 1)) (ref := "ShadowWallsModel") (T := TX2) (N := 14) (ci := 2) 0 5 inU_X2_X2_hidden rfl rfl (by decide) (by decide +kernel) (fun _ h9 => h9) rfl dX2_hidden_6 ?_
      refine z_icmp_ge C (tgt := 34) dX2_hidden_9 (by decide) (by omega) (by omega) (fun c_9 => ?_) (fun c_9 => ?_)
      ·
        obtain rfl : i = (nWa σ) := by omega
        refine z_iload_n C 1 dX2_hidden_34 rfl ?_
        exact hret _ _ _ _ dX2_hidden_35 ⟨_, rfl, by rfl⟩
      ·
        refine z_iload_n C 1 dX2_hidden_12 rfl ?_
        refine z_aload_n C 0 dX2_hidden_13 rfl ?_
        refine z_iload_n C 2 dX2_hidden_14 rfl ?_
        refine z_callVi C (As := [vI (i : Int)]) (st := [vI (sm (fun o => bI (hidB σ LI o)) i)]) (y := yX2_isHidden) (w := wsX2_isHidden) (rm := rm_X2_isHidden) (wr := []) (k' := 0) (n' := 0) [0, 1, 2, 3, 4, 5, 6, 7, 8] [] 0 (c_X2_isHidden l D cI cJ h σ LI BR γ φ1 θ (i : Int) (by omega) hO hL) (cwV 1 C.1.2.2.2.2 gX2_hidden_X2_isHidden rfl rfl rfl (by decide +kernel) ⟨Nat.le_of_ble_eq_true rfl, Nat.le_of_ble_eq_true rfl⟩) rfl rfl rfl rfl rfl (by decide) rfl rfl rfl rfl (Nat.le_of_ble_eq_true rfl) rfl rfl ⟨Nat.le_of_ble_eq_true rfl, Nat.le_of_ble_eq_true rfl⟩ dX2_hidden_15 ?_
        rintro z_15 _ ⟨φ'_15, rfl, hz_15⟩
        refine z_ws (ws' := (mx cI h σ LI BR γ φ'_15 θ)) rfl ?_
        have r_15 : z_15 = 0 ∨ z_15 = 1 := by rw [hz_15]; exact bI_01 _
        have hz_15 : z_15 = bI (hidB σ LI i) := hz_15
        refine z_if_eq C (tgt := 25) dX2_hidden_18 (by decide) (by omega) (fun c_18 => ?_) (fun c_18 => ?_)
        ·
          refine z_iconst C dX2_hidden_25 ?_
          refine z_iadd C dX2_hidden_26 ?_
          refine z_istore_n C [(1, vI ((sm (fun o => bI (hidB σ LI o)) i) + 0)), (0, .ref (h 0)), (2, vI (i : Int))] dX2_hidden_27 (by decide) rfl ?_
          refine z_iinc C 2 [(2, vI ((i : Int) + 1)), (1, vI ((sm (fun o => bI (hidB σ LI o)) i) + 0)), (0, .ref (h 0))] dX2_hidden_28 rfl (by decide) rfl ?_
          refine z_goto C (tgt := 4) dX2_hidden_31 (by decide) ?_
          refine z_chg 1 (x' := sm (fun o => bI (hidB σ LI o)) (i + 1)) (lv' := [(2, vI ((i : Int) + 1)), (1, vI (sm (fun o => bI (hidB σ LI o)) (i + 1))), (0, .ref (h 0))]) rfl (by first | exact sm_t (bz_t hz_15 c_18) | exact (Int.add_zero _).trans (sm_f (bz_f hz_15 c_18)) | exact sm_f (bz_f hz_15 c_18)) rfl ?_
          refine z_chg 0 (x' := ((i + 1 : Nat) : Int)) (lv' := [(2, vI ((i + 1 : Nat) : Int)), (1, vI (sm (fun o => bI (hidB σ LI o)) (i + 1))), (0, .ref (h 0))]) rfl (by omega) rfl ?_
          refine z_sub (lv' := [(0, .ref (h 0)), (1, vI (sm (fun o => bI (hidB σ LI o)) (i + 1))), (2, vI ((i + 1 : Nat) : Int))]) [2, 1, 0] rfl ?_
          exact ih9 (i + 1) φ'_15 (by omega) (by omega)
        ·
          refine z_iconst C dX2_hidden_21 ?_
          refine z_goto C (tgt := 26) dX2_hidden_22 (by decide) ?_
          refine z_iadd C dX2_hidden_26 ?_
          refine z_istore_n C [(1, vI ((sm (fun o => bI (hidB σ LI o)) i) + 1)), (0, .ref (h 0)), (2, vI (i : Int))] dX2_hidden_27 (by decide) rfl ?_
          refine z_iinc C 2 [(2, vI ((i : Int) + 1)), (1, vI ((sm (fun o => bI (hidB σ LI o)) i) + 1)), (0, .ref (h 0))] dX2_hidden_28 rfl (by decide) rfl ?_
          refine z_goto C (tgt := 4) dX2_hidden_31 (by decide) ?_
          refine z_chg 1 (x' := sm (fun o => bI (hidB σ LI o)) (i + 1)) (lv' := [(2, vI ((i : Int) + 1)), (1, vI (sm (fun o => bI (hidB σ LI o)) (i + 1))), (0, .ref (h 0))]) rfl (by first | exact sm_t (bz_t hz_15 c_18) | exact (Int.add_zero _).trans (sm_f (bz_f hz_15 c_18)) | exact sm_f (bz_f hz_15 c_18)) rfl ?_
          refine z_chg 0 (x' := ((i + 1 : Nat) : Int)) (lv' := [(2, vI ((i + 1 : Nat) : Int)), (1, vI (sm (fun o => bI (hidB σ LI o)) (i + 1))), (0, .ref (h 0))]) rfl (by omega) rfl ?_
          refine z_sub (lv' := [(0, .ref (h 0)), (1, vI (sm (fun o => bI (hidB σ LI o)) (i + 1))), (2, vI ((i + 1 : Nat) : Int))]) [2, 1, 0] rfl ?_
          exact ih9 (i + 1) φ'_15 (by omega) (by omega)
  refine z_sub (lv' := [(0, .ref (h 0)), (1, vI 0), (2, vI 0)]) [2, 1, 0] rfl ?_
  exact L_4 ((nWa σ) + 1) 0 φ (Nat.zero_le _) (by omega)

set_option maxRecDepth 100000 in
theorem inU_X2_X2_counted : ∀ w ∈ u_ws RX2 TX2 14, w ∈ wsX2_counted := by decide +kernel
abbrev rm_X2_counted : Room := { frames := 6, cells := 0, slots := 0, locals := 143 }
set_option maxHeartbeats 4000000 in
set_option maxRecDepth 100000 in
theorem c_X2_counted (l : Launch) (D : va_G) (cI cJ : ClassId) (h : Nat → Nat) (σ : YS) (LI BR : Nat → Int) (γ : YS) (φ : Nat → Int) (θ : Int) (wh : Int) (hwh : 0 ≤ wh ∧ wh < 8) (hO : Ok σ) (hL : LI4 LI) (hB : BR9 BR) : Ci l yX2_counted wsX2_counted rm_X2_counted D [(cI, .int), (cJ, .long)] [.ref (h 0), vI wh] (mx cI h σ LI BR γ φ θ) (fun z u => ∃ φ' : Nat → Int, u = (mx cI h σ LI BR γ φ' θ) ∧ z = couM σ LI BR wh) := by
  refine z_ofi (own := RX2) (cc := cX2_counted) (maxL := 2) (lv := [(0, .ref (h 0)), (1, vI wh)]) (by decide) rfl rfl (Nat.le_of_ble_eq_true rfl) rfl ?_
  intro p e s m args below meth cd Q A C hret
  have hn := hO.1
  have hm := hO.2.1
  have en := nLa_e hO
  have em := nWa_e hO
  refine z_iload_n C 1 dX2_counted_0 rfl ?_
  rcases (show wh = 0 ∨ wh = 1 ∨ wh = 2 ∨ wh = 3 ∨ wh = 4 ∨ wh = 5 ∨ wh = 6 ∨ (wh ≠ 0 ∧ wh ≠ 1 ∧ wh ≠ 2 ∧ wh ≠ 3 ∧ wh ≠ 4 ∧ wh ≠ 5 ∧ wh ≠ 6) by omega) with k_1 | k_1 | k_1 | k_1 | k_1 | k_1 | k_1 | k_1
  ·
    refine z_tabIn C (off := 43) (tgt := 44) dX2_counted_1 (by omega) (by omega) (by omega) (by rw [k_1]; rfl) (by decide) ?_
    refine z_aload_n C 0 dX2_counted_44 rfl ?_
    refine z_get C (v := vI (σ 4 0)) (ref := "ShadowWallsModel") (T := TX2) (N := 14) (ci := 2) 0 2 inU_X2_X2_counted rfl rfl (by decide) (by decide +kernel) (fun _ h9 => h9) rfl dX2_counted_45 ?_
    exact hret _ _ _ _ dX2_counted_48 ⟨_, rfl, by first | (simp [couM, k_1]; done) | (simp [couM, k_1, hz_55]; done) | (simp [couM, k_1, hz_60, litC]; done) | (simp [couM, k_1, hz_65]; done) | (simp [couM, k_1, hz_70]; done) | (simp [couM, k_1, hz_75]; done)⟩
  ·
    refine z_tabIn C (off := 48) (tgt := 49) dX2_counted_1 (by omega) (by omega) (by omega) (by rw [k_1]; rfl) (by decide) ?_
    refine z_aload_n C 0 dX2_counted_49 rfl ?_
    refine z_get C (v := vI (σ 4 1)) (ref := "ShadowWallsModel") (T := TX2) (N := 14) (ci := 2) 0 5 inU_X2_X2_counted rfl rfl (by decide) (by decide +kernel) (fun _ h9 => h9) rfl dX2_counted_50 ?_
    exact hret _ _ _ _ dX2_counted_53 ⟨_, rfl, by first | (simp [couM, k_1]; done) | (simp [couM, k_1, hz_55]; done) | (simp [couM, k_1, hz_60, litC]; done) | (simp [couM, k_1, hz_65]; done) | (simp [couM, k_1, hz_70]; done) | (simp [couM, k_1, hz_75]; done)⟩
  ·
    refine z_tabIn C (off := 53) (tgt := 54) dX2_counted_1 (by omega) (by omega) (by omega) (by rw [k_1]; rfl) (by decide) ?_
    refine z_aload_n C 0 dX2_counted_54 rfl ?_
    refine z_callVi C (As := []) (st := []) (y := yX2_notOpen) (w := wsX2_notOpen) (rm := rm_X2_notOpen) (wr := []) (k' := 0) (n' := 0) [0, 1, 2, 3, 4, 5, 6, 7, 8] [] 0 (c_X2_notOpen l D cI cJ h σ LI BR γ φ θ  hO) (cwV 0 C.1.2.2.2.2 gX2_counted_X2_notOpen rfl rfl rfl (by decide +kernel) ⟨Nat.le_of_ble_eq_true rfl, Nat.le_of_ble_eq_true rfl⟩) rfl rfl rfl rfl rfl (by decide) rfl rfl rfl rfl (Nat.le_of_ble_eq_true rfl) rfl rfl ⟨Nat.le_of_ble_eq_true rfl, Nat.le_of_ble_eq_true rfl⟩ dX2_counted_55 ?_
    rintro z_55 _ ⟨rfl, hz_55⟩
    refine z_ws (ws' := (mx cI h σ LI BR γ φ θ)) rfl ?_
    have hz_55 : z_55 = sm (fun c => bI (decide (σ 0 c ≠ 0))) 144 := hz_55
    exact hret _ _ _ _ dX2_counted_58 ⟨_, rfl, by first | (simp [couM, k_1]; done) | (simp [couM, k_1, hz_55]; done) | (simp [couM, k_1, hz_60, litC]; done) | (simp [couM, k_1, hz_65]; done) | (simp [couM, k_1, hz_70]; done) | (simp [couM, k_1, hz_75]; done)⟩
  ·
    refine z_tabIn C (off := 58) (tgt := 59) dX2_counted_1 (by omega) (by omega) (by omega) (by rw [k_1]; rfl) (by decide) ?_
    refine z_aload_n C 0 dX2_counted_59 rfl ?_
    refine z_callVi C (As := []) (st := []) (y := yX2_lit) (w := wsX2_lit) (rm := rm_X2_lit) (wr := []) (k' := 0) (n' := 0) [0, 1, 2, 3, 4, 5, 6, 7, 8] [] 0 (c_X2_lit l D cI cJ h σ LI BR γ φ θ  hL) (cwV 0 C.1.2.2.2.2 gX2_counted_X2_lit rfl rfl rfl (by decide +kernel) ⟨Nat.le_of_ble_eq_true rfl, Nat.le_of_ble_eq_true rfl⟩) rfl rfl rfl rfl rfl (by decide) rfl rfl rfl rfl (Nat.le_of_ble_eq_true rfl) rfl rfl ⟨Nat.le_of_ble_eq_true rfl, Nat.le_of_ble_eq_true rfl⟩ dX2_counted_60 ?_
    rintro z_60 _ ⟨rfl, hz_60⟩
    refine z_ws (ws' := (mx cI h σ LI BR γ φ θ)) rfl ?_
    have hz_60 : z_60 = sm (fun c => bI (decide (LI c ≠ 0))) 144 := hz_60
    exact hret _ _ _ _ dX2_counted_63 ⟨_, rfl, by first | (simp [couM, k_1]; done) | (simp [couM, k_1, hz_55]; done) | (simp [couM, k_1, hz_60, litC]; done) | (simp [couM, k_1, hz_65]; done) | (simp [couM, k_1, hz_70]; done) | (simp [couM, k_1, hz_75]; done)⟩
  ·
    refine z_tabIn C (off := 63) (tgt := 64) dX2_counted_1 (by omega) (by omega) (by omega) (by rw [k_1]; rfl) (by decide) ?_
    refine z_aload_n C 0 dX2_counted_64 rfl ?_
    refine z_callVi C (As := []) (st := []) (y := yX2_edges) (w := wsX2_edges) (rm := rm_X2_edges) (wr := []) (k' := 0) (n' := 0) [0, 1, 2, 3, 4, 5, 6, 7, 8] [] 0 (c_X2_edges l D cI cJ h σ LI BR γ φ θ  hL) (cwV 0 C.1.2.2.2.2 gX2_counted_X2_edges rfl rfl rfl (by decide +kernel) ⟨Nat.le_of_ble_eq_true rfl, Nat.le_of_ble_eq_true rfl⟩) rfl rfl rfl rfl rfl (by decide) rfl rfl rfl rfl (Nat.le_of_ble_eq_true rfl) rfl rfl ⟨Nat.le_of_ble_eq_true rfl, Nat.le_of_ble_eq_true rfl⟩ dX2_counted_65 ?_
    rintro z_65 _ ⟨rfl, hz_65⟩
    refine z_ws (ws' := (mx cI h σ LI BR γ φ θ)) rfl ?_
    have hz_65 : z_65 = sm (fun c => bI (edF LI c 2) + bI (edF LI c 3)) 144 := hz_65
    exact hret _ _ _ _ dX2_counted_68 ⟨_, rfl, by first | (simp [couM, k_1]; done) | (simp [couM, k_1, hz_55]; done) | (simp [couM, k_1, hz_60, litC]; done) | (simp [couM, k_1, hz_65]; done) | (simp [couM, k_1, hz_70]; done) | (simp [couM, k_1, hz_75]; done)⟩
  ·
    refine z_tabIn C (off := 68) (tgt := 69) dX2_counted_1 (by omega) (by omega) (by omega) (by rw [k_1]; rfl) (by decide) ?_
    refine z_aload_n C 0 dX2_counted_69 rfl ?_
    refine z_callVi C (As := []) (st := []) (y := yX2_hidden) (w := wsX2_hidden) (rm := rm_X2_hidden) (wr := []) (k' := 0) (n' := 0) [0, 1, 2, 3, 4, 5, 6, 7, 8] [] 0 (c_X2_hidden l D cI cJ h σ LI BR γ φ θ  hO hL) (cwV 0 C.1.2.2.2.2 gX2_counted_X2_hidden rfl rfl rfl (by decide +kernel) ⟨Nat.le_of_ble_eq_true rfl, Nat.le_of_ble_eq_true rfl⟩) rfl rfl rfl rfl rfl (by decide) rfl rfl rfl rfl (Nat.le_of_ble_eq_true rfl) rfl rfl ⟨Nat.le_of_ble_eq_true rfl, Nat.le_of_ble_eq_true rfl⟩ dX2_counted_70 ?_
    rintro z_70 _ ⟨φ'_70, rfl, hz_70⟩
    refine z_ws (ws' := (mx cI h σ LI BR γ φ'_70 θ)) rfl ?_
    have r_70 := smB_r (fun o => hidB σ LI o) ((nWa σ))
    rw [← hz_70] at r_70
    have hz_70 : z_70 = sm (fun o => bI (hidB σ LI o)) (nWa σ) := hz_70
    exact hret _ _ _ _ dX2_counted_73 ⟨_, rfl, by first | (simp [couM, k_1]; done) | (simp [couM, k_1, hz_55]; done) | (simp [couM, k_1, hz_60, litC]; done) | (simp [couM, k_1, hz_65]; done) | (simp [couM, k_1, hz_70]; done) | (simp [couM, k_1, hz_75]; done)⟩
  ·
    refine z_tabIn C (off := 73) (tgt := 74) dX2_counted_1 (by omega) (by omega) (by omega) (by rw [k_1]; rfl) (by decide) ?_
    refine z_aload_n C 0 dX2_counted_74 rfl ?_
    refine z_callVi C (As := []) (st := []) (y := yX2_allBright) (w := wsX2_allBright) (rm := rm_X2_allBright) (wr := []) (k' := 0) (n' := 0) [0, 1, 2, 3, 4, 5, 6, 7, 8] [] 0 (c_X2_allBright l D cI cJ h σ LI BR γ φ θ  hB) (cwV 0 C.1.2.2.2.2 gX2_counted_X2_allBright rfl rfl rfl (by decide +kernel) ⟨Nat.le_of_ble_eq_true rfl, Nat.le_of_ble_eq_true rfl⟩) rfl rfl rfl rfl rfl (by decide) rfl rfl rfl rfl (Nat.le_of_ble_eq_true rfl) rfl rfl ⟨Nat.le_of_ble_eq_true rfl, Nat.le_of_ble_eq_true rfl⟩ dX2_counted_75 ?_
    rintro z_75 _ ⟨rfl, hz_75⟩
    refine z_ws (ws' := (mx cI h σ LI BR γ φ θ)) rfl ?_
    have hz_75 : z_75 = sm (BR) 144 := hz_75
    exact hret _ _ _ _ dX2_counted_78 ⟨_, rfl, by first | (simp [couM, k_1]; done) | (simp [couM, k_1, hz_55]; done) | (simp [couM, k_1, hz_60, litC]; done) | (simp [couM, k_1, hz_65]; done) | (simp [couM, k_1, hz_70]; done) | (simp [couM, k_1, hz_75]; done)⟩
  ·
    refine z_tabOut C (tgt := 79) dX2_counted_1 (by omega) (by omega) (by decide) ?_
    refine z_aload_n C 0 dX2_counted_79 rfl ?_
    refine z_get C (v := vI (σ 4 2)) (ref := "ShadowWallsModel") (T := TX2) (N := 14) (ci := 2) 0 7 inU_X2_X2_counted rfl rfl (by decide) (by decide +kernel) (fun _ h9 => h9) rfl dX2_counted_80 ?_
    exact hret _ _ _ _ dX2_counted_83 ⟨_, rfl, by first | (simp [couM, k_1]; done) | (simp [couM, k_1, hz_55]; done) | (simp [couM, k_1, hz_60, litC]; done) | (simp [couM, k_1, hz_65]; done) | (simp [couM, k_1, hz_70]; done) | (simp [couM, k_1, hz_75]; done)⟩
