theorem sqr {x B : Int} (h : -B ≤ x ∧ x ≤ B) : 0 ≤ x * x ∧ x * x ≤ B * B := by
  by_cases q : 0 ≤ x
  · exact mulr ⟨q, h.2⟩ ⟨q, h.2⟩
  · have := mulr (a := -x) (b := -x) (A := B) (B := B) (by omega) (by omega)
    rw [Int.neg_mul_neg] at this
    exact this
theorem way_s {φ φ' : Nat → Int} {f t ix iy : Int} (h : WayAt φ f t ix iy) (hg : ix < abZ (t % 12 - f % 12) ∨ iy < abZ (t / 12 - f / 12))
    (f0 : φ' 0 = (if (1 + 2 * φ 6) * φ 5 ≤ (1 + 2 * φ 7) * φ 4 then φ 0 + φ 2 else φ 0)) (f1 : φ' 1 = (if (1 + 2 * φ 7) * φ 4 ≤ (1 + 2 * φ 6) * φ 5 then φ 1 + φ 3 else φ 1)) (f2 : φ' 2 = φ 2) (f3 : φ' 3 = φ 3) (f4 : φ' 4 = φ 4) (f5 : φ' 5 = φ 5)
    (f6 : φ' 6 = (if (1 + 2 * φ 6) * φ 5 ≤ (1 + 2 * φ 7) * φ 4 then φ 6 + 1 else φ 6)) (f7 : φ' 7 = (if (1 + 2 * φ 7) * φ 4 ≤ (1 + 2 * φ 6) * φ 5 then φ 7 + 1 else φ 7)) :
    WayAt φ' f t (nix (abZ (t % 12 - f % 12)) (abZ (t / 12 - f / 12)) ix iy) (niy (abZ (t % 12 - f % 12)) (abZ (t / 12 - f / 12)) ix iy) := by
  obtain ⟨w0, w1, w2, w3, w4, w5, w6, w7, w8, w9⟩ := h
  have hc := nix_c w8.1 w8.2 w9.1 w9.2 hg
  rw [w4, w5, w6, w7] at f0 f1 f6 f7
  refine ⟨?_, ?_, f2.trans w2, f3.trans w3, f4.trans w4, f5.trans w5, f6, f7, ⟨hc.1, hc.2.1⟩, hc.2.2⟩
  · rw [f0, w0, w2]; unfold nix; split
    · rw [Int.mul_add, Int.mul_one]; omega
    · rfl
  · rw [f1, w1, w3]; unfold niy; split
    · rw [Int.mul_add, Int.mul_one]; omega
    · rfl
set_option maxRecDepth 100000 in
theorem inU_X1_X1_stoppedBetween : ∀ w ∈ u_ws RX1 TX1 11, w ∈ wsX1_stoppedBetween := by decide +kernel
abbrev rm_X1_stoppedBetween : Room := { frames := 2, cells := 0, slots := 0, locals := 46 }
set_option maxHeartbeats 4000000 in
set_option maxRecDepth 100000 in
theorem c_X1_stoppedBetween (l : Launch) (D : va_G) (cI cJ : ClassId) (h : Nat → Nat) (σ : YS) (LT : Nat → Int) (γ : YS) (φ : Nat → Int) (f t : Int) (hf : 0 ≤ f ∧ f < 144) (ht : 0 ≤ t ∧ t < 144) (hO : Ok σ) : Ci l yX1_stoppedBetween wsX1_stoppedBetween rm_X1_stoppedBetween D [(cI, .int), (cJ, .long)] [.ref (h 0), vI f, vI t] (cw cI h σ LT γ φ) (fun z u => ∃ φ' : Nat → Int, u = (cw cI h σ LT γ φ') ∧ z = (ray (σ 0) f t).1) := by
  refine z_ofi (own := RX1) (cc := cX1_stoppedBetween) (maxL := 5) (lv := [(0, .ref (h 0)), (1, vI f), (2, vI t)]) (by decide) rfl rfl (Nat.le_of_ble_eq_true rfl) rfl ?_
  intro p e s m args below meth cd Q A C hret
  have a1 := abZ_c (t % 12 - f % 12)
  have a2 := abZ_c (t / 12 - f / 12)
  refine z_iconst C dX1_stoppedBetween_0 ?_
  refine z_istore_n C [(3, vI 0), (0, .ref (h 0)), (1, vI f), (2, vI t)] dX1_stoppedBetween_1 (by decide) rfl ?_
  refine z_aload_n C 1 dX1_stoppedBetween_2 rfl ?_
  refine z_get C (v := .ref (h 8)) (ref := "ShadowWalls") (T := TX1) (N := 11) (ci := 1) 0 7 inU_X1_X1_stoppedBetween rfl rfl (by decide) (by decide +kernel) (fun _ h9 => h9) rfl dX1_stoppedBetween_3 ?_
  refine z_iload_n C 2 dX1_stoppedBetween_6 rfl ?_
  refine z_iload_n C 3 dX1_stoppedBetween_7 rfl ?_
  refine z_callVv C (As := [vI f, vI t]) (st := []) (y := yX0_begin) (w := wsX0_begin) (rm := rm_X0_begin) (wr := [(h 0, .inr (1, [.ref (h 1), .ref (h 2), .ref (h 3), .ref (h 4), .ref (h 5), .ref (h 6), .ref (h 7), .ref (h 8), vI (σ 4 0), vI (σ 4 1), vI (σ 4 2)])), (h 1, ri cI 144 (σ 0)), (h 2, ri cI 4 (σ 1)), (h 3, ri cI 4 (σ 2)), (h 4, ri cI 6 (σ 3)), (h 5, ri cI 144 LT), (h 6, ri cI 144 (γ 0)), (h 7, ri cI 144 (γ 1))]) (k' := 0) (n' := 0) [8] [0, 1, 2, 3, 4, 5, 6, 7] 8 (c_X0_begin l D cI cJ (h 8) φ f t (by omega) (by omega)) (cwV 2 C.1.2.2.2.2 gX1_stoppedBetween_X0_begin rfl rfl rfl (by decide +kernel) ⟨Nat.le_of_ble_eq_true rfl, Nat.le_of_ble_eq_true rfl⟩) rfl rfl rfl rfl rfl (by decide) rfl rfl rfl rfl (Nat.le_of_ble_eq_true rfl) rfl rfl ⟨Nat.le_of_ble_eq_true rfl, Nat.le_of_ble_eq_true rfl⟩ dX1_stoppedBetween_8 ?_
  rintro _ rfl
  refine z_ws (ws' := (cw cI h σ LT γ (wB f t))) rfl ?_
  refine z_iconst C dX1_stoppedBetween_11 ?_
  refine z_istore C [(4, vI 0), (3, vI 0), (0, .ref (h 0)), (1, vI f), (2, vI t)] dX1_stoppedBetween_12 (by decide) rfl ?_
  have L_14 : ∀ (d9 i : Nat) (φ1 : Nat → Int) (ix iy sv gv : Int) (hi : i ≤ 22) (hd : 23 ≤ i + d9) (hw : WayAt φ1 f t ix iy) (hs : 0 ≤ sv ∧ sv < 4) (hr : ryH (σ 0) (f % 12) (f / 12) (sgZ (t % 12 - f % 12)) (sgZ (t / 12 - f / 12)) (abZ (t % 12 - f % 12)) (abZ (t / 12 - f / 12)) (22 - i) ix iy sv gv = ray (σ 0) f t), Zs p l e rm_X1_stoppedBetween s m args below meth cd Q A D 5 14 [(0, .ref (h 0)), (1, vI f), (2, vI t), (3, vI sv), (4, vI (i : Int))] [] (cw cI h σ LT γ φ1) 0 0 := by
    intro d9
    induction d9 with
    | zero =>
      intro i φ1 ix iy sv gv hi hd hw hs hr
      exfalso; omega
    | succ d9 ih9 =>
      intro i φ1 ix iy sv gv hi hd hw hs hr
      obtain ⟨w0, w1, w2, w3, w4, w5, w6, w7, w8, w9⟩ := id hw
      refine z_iload C 4 dX1_stoppedBetween_14 rfl ?_
      refine z_bipush C dX1_stoppedBetween_16 (by decide) ?_
      refine z_icmp_ge C (tgt := 104) dX1_stoppedBetween_18 (by decide) (by omega) (by omega) (fun c_18 => ?_) (fun c_18 => ?_)
      ·
        have hr9 : sv = (ray (σ 0) f t).1 := by rw [← hr, show 22 - i = 0 by omega]; rfl
        refine z_iload_n C 3 dX1_stoppedBetween_104 rfl ?_
        exact hret _ _ _ _ dX1_stoppedBetween_105 ⟨_, rfl, by exact hr9⟩
      ·
        refine z_aload_n C 0 dX1_stoppedBetween_21 rfl ?_
        refine z_get C (v := .ref (h 8)) (ref := "ShadowWalls") (T := TX1) (N := 11) (ci := 1) 0 7 inU_X1_X1_stoppedBetween rfl rfl (by decide) (by decide +kernel) (fun _ h9 => h9) rfl dX1_stoppedBetween_22 ?_
        refine z_callVi C (As := []) (st := []) (y := yX0_goesOn) (w := wsX0_goesOn) (rm := rm_X0_goesOn) (wr := [(h 0, .inr (1, [.ref (h 1), .ref (h 2), .ref (h 3), .ref (h 4), .ref (h 5), .ref (h 6), .ref (h 7), .ref (h 8), vI (σ 4 0), vI (σ 4 1), vI (σ 4 2)])), (h 1, ri cI 144 (σ 0)), (h 2, ri cI 4 (σ 1)), (h 3, ri cI 4 (σ 2)), (h 4, ri cI 6 (σ 3)), (h 5, ri cI 144 LT), (h 6, ri cI 144 (γ 0)), (h 7, ri cI 144 (γ 1))]) (k' := 0) (n' := 0) [8] [0, 1, 2, 3, 4, 5, 6, 7] 8 (c_X0_goesOn l D cI cJ (h 8) φ1  (by omega)) (cwV 0 C.1.2.2.2.2 gX1_stoppedBetween_X0_goesOn rfl rfl rfl (by decide +kernel) ⟨Nat.le_of_ble_eq_true rfl, Nat.le_of_ble_eq_true rfl⟩) rfl rfl rfl rfl rfl (by decide) rfl rfl rfl rfl (Nat.le_of_ble_eq_true rfl) rfl rfl ⟨Nat.le_of_ble_eq_true rfl, Nat.le_of_ble_eq_true rfl⟩ dX1_stoppedBetween_25 ?_
        rintro z_25 _ ⟨rfl, hz_25⟩
        refine z_ws (ws' := (cw cI h σ LT γ φ1)) rfl ?_
        have r_25 : z_25 = 0 ∨ z_25 = 1 := by rw [hz_25]; exact bI_01 _
        have hz_25 : z_25 = bI (decide (φ1 6 < φ1 4 ∨ φ1 7 < φ1 5)) := hz_25
        refine z_if_eq C (tgt := 104) dX1_stoppedBetween_28 (by decide) (by omega) (fun c_28 => ?_) (fun c_28 => ?_)
        ·
          have hg := of_decide_eq_false (bz_f hz_25 c_28)
          rw [w4, w5, w6, w7] at hg
          have hr9 : sv = (ray (σ 0) f t).1 := by rw [← hr, show 22 - i = (21 - i) + 1 by omega]; simp only [ryH]; rw [if_neg hg]
          refine z_iload_n C 3 dX1_stoppedBetween_104 rfl ?_
          exact hret _ _ _ _ dX1_stoppedBetween_105 ⟨_, rfl, by exact hr9⟩
        ·
          have hg := of_decide_eq_true (bz_t hz_25 c_28)
          rw [w4, w5, w6, w7] at hg
          have hc := nix_c w8.1 w8.2 w9.1 w9.2 hg
          have hr1 := hr
          rw [show 22 - i = (22 - (i + 1)) + 1 by omega] at hr1
          simp only [ryH] at hr1
          rw [if_pos hg] at hr1
          refine z_aload_n C 0 dX1_stoppedBetween_31 rfl ?_
          refine z_get C (v := .ref (h 8)) (ref := "ShadowWalls") (T := TX1) (N := 11) (ci := 1) 0 7 inU_X1_X1_stoppedBetween rfl rfl (by decide) (by decide +kernel) (fun _ h9 => h9) rfl dX1_stoppedBetween_32 ?_
          refine z_callVv C (As := []) (st := []) (y := yX0_step) (w := wsX0_step) (rm := rm_X0_step) (wr := [(h 0, .inr (1, [.ref (h 1), .ref (h 2), .ref (h 3), .ref (h 4), .ref (h 5), .ref (h 6), .ref (h 7), .ref (h 8), vI (σ 4 0), vI (σ 4 1), vI (σ 4 2)])), (h 1, ri cI 144 (σ 0)), (h 2, ri cI 4 (σ 1)), (h 3, ri cI 4 (σ 2)), (h 4, ri cI 6 (σ 3)), (h 5, ri cI 144 LT), (h 6, ri cI 144 (γ 0)), (h 7, ri cI 144 (γ 1))]) (k' := 0) (n' := 0) [8] [0, 1, 2, 3, 4, 5, 6, 7] 8 (c_X0_step l D cI cJ (h 8) φ1  (by omega) (by omega) (by omega) (by omega)) (cwV 0 C.1.2.2.2.2 gX1_stoppedBetween_X0_step rfl rfl rfl (by decide +kernel) ⟨Nat.le_of_ble_eq_true rfl, Nat.le_of_ble_eq_true rfl⟩) rfl rfl rfl rfl rfl (by decide) rfl rfl rfl rfl (Nat.le_of_ble_eq_true rfl) rfl rfl ⟨Nat.le_of_ble_eq_true rfl, Nat.le_of_ble_eq_true rfl⟩ dX1_stoppedBetween_35 ?_
          rintro _ ⟨φ'_35, rfl, f0_35, f1_35, f2_35, f3_35, f4_35, f5_35, f6_35, f7_35, f8_35⟩
          refine z_ws (ws' := (cw cI h σ LT γ φ'_35)) rfl ?_
          have hw1 := way_s hw hg f0_35 f1_35 f2_35 f3_35 f4_35 f5_35 f6_35 f7_35
          rw [w4, w5, w6, w7] at f8_35
          obtain ⟨v0, v1, v2, v3, v4, v5, v6, v7, v8, v9⟩ := id hw1
          have g1 := pos_in (f := f % 12) (t := t % 12) (i := ix) (by omega) (by omega) (by omega)
          have g2 := pos_in (f := f / 12) (t := t / 12) (i := iy) (by omega) (by omega) (by omega)
          have g3 := pos_in (f := f % 12) (t := t % 12) (i := nix (abZ (t % 12 - f % 12)) (abZ (t / 12 - f / 12)) ix iy) (by omega) (by omega) (by omega)
          have g4 := pos_in (f := f / 12) (t := t / 12) (i := niy (abZ (t % 12 - f % 12)) (abZ (t / 12 - f / 12)) ix iy) (by omega) (by omega) (by omega)
          have x3 : 12 * φ'_35 1 + φ'_35 0 = cl (f % 12) (f / 12) (sgZ (t % 12 - f % 12)) (sgZ (t / 12 - f / 12)) (nix (abZ (t % 12 - f % 12)) (abZ (t / 12 - f / 12)) ix iy) (niy (abZ (t % 12 - f % 12)) (abZ (t / 12 - f / 12)) ix iy) := by rw [v0, v1]; rfl
          refine z_aload_n C 0 dX1_stoppedBetween_38 rfl ?_
          refine z_get C (v := .ref (h 8)) (ref := "ShadowWalls") (T := TX1) (N := 11) (ci := 1) 0 7 inU_X1_X1_stoppedBetween rfl rfl (by decide) (by decide +kernel) (fun _ h9 => h9) rfl dX1_stoppedBetween_39 ?_
          refine z_callVi C (As := []) (st := []) (y := yX0_wentThroughCorner) (w := wsX0_wentThroughCorner) (rm := rm_X0_wentThroughCorner) (wr := [(h 0, .inr (1, [.ref (h 1), .ref (h 2), .ref (h 3), .ref (h 4), .ref (h 5), .ref (h 6), .ref (h 7), .ref (h 8), vI (σ 4 0), vI (σ 4 1), vI (σ 4 2)])), (h 1, ri cI 144 (σ 0)), (h 2, ri cI 4 (σ 1)), (h 3, ri cI 4 (σ 2)), (h 4, ri cI 6 (σ 3)), (h 5, ri cI 144 LT), (h 6, ri cI 144 (γ 0)), (h 7, ri cI 144 (γ 1))]) (k' := 0) (n' := 0) [8] [0, 1, 2, 3, 4, 5, 6, 7] 8 (c_X0_wentThroughCorner l D cI cJ (h 8) φ'_35  (by rw [f8_35]; exact bI_01 _)) (cwV 0 C.1.2.2.2.2 gX1_stoppedBetween_X0_wentThroughCorner rfl rfl rfl (by decide +kernel) ⟨Nat.le_of_ble_eq_true rfl, Nat.le_of_ble_eq_true rfl⟩) rfl rfl rfl rfl rfl (by decide) rfl rfl rfl rfl (Nat.le_of_ble_eq_true rfl) rfl rfl ⟨Nat.le_of_ble_eq_true rfl, Nat.le_of_ble_eq_true rfl⟩ dX1_stoppedBetween_42 ?_
          rintro z_42 _ ⟨rfl, hz_42⟩
          refine z_ws (ws' := (cw cI h σ LT γ φ'_35)) rfl ?_
          have hz_42 : z_42 = φ'_35 8 := hz_42
          have r_42 : z_42 = 0 ∨ z_42 = 1 := by rw [hz_42, f8_35]; exact bI_01 _
          refine z_if_eq C (tgt := 74) dX1_stoppedBetween_45 (by decide) (by omega) (fun c_45 => ?_) (fun c_45 => ?_)
          ·
            have hq := of_decide_eq_false (bz_f (hz_42.trans f8_35) c_45)
            have hA : ns1 (σ 0) (f % 12) (f / 12) (sgZ (t % 12 - f % 12)) (sgZ (t / 12 - f / 12)) (abZ (t % 12 - f % 12)) (abZ (t / 12 - f / 12)) ix iy sv = sv := if_neg hq
            refine z_aload_n C 0 dX1_stoppedBetween_74 rfl ?_
            refine z_get C (v := .ref (h 8)) (ref := "ShadowWalls") (T := TX1) (N := 11) (ci := 1) 0 7 inU_X1_X1_stoppedBetween rfl rfl (by decide) (by decide +kernel) (fun _ h9 => h9) rfl dX1_stoppedBetween_75 ?_
            refine z_callVi C (As := []) (st := []) (y := yX0_goesOn) (w := wsX0_goesOn) (rm := rm_X0_goesOn) (wr := [(h 0, .inr (1, [.ref (h 1), .ref (h 2), .ref (h 3), .ref (h 4), .ref (h 5), .ref (h 6), .ref (h 7), .ref (h 8), vI (σ 4 0), vI (σ 4 1), vI (σ 4 2)])), (h 1, ri cI 144 (σ 0)), (h 2, ri cI 4 (σ 1)), (h 3, ri cI 4 (σ 2)), (h 4, ri cI 6 (σ 3)), (h 5, ri cI 144 LT), (h 6, ri cI 144 (γ 0)), (h 7, ri cI 144 (γ 1))]) (k' := 0) (n' := 0) [8] [0, 1, 2, 3, 4, 5, 6, 7] 8 (c_X0_goesOn l D cI cJ (h 8) φ'_35  (by omega)) (cwV 0 C.1.2.2.2.2 gX1_stoppedBetween_X0_goesOn rfl rfl rfl (by decide +kernel) ⟨Nat.le_of_ble_eq_true rfl, Nat.le_of_ble_eq_true rfl⟩) rfl rfl rfl rfl rfl (by decide) rfl rfl rfl rfl (Nat.le_of_ble_eq_true rfl) rfl rfl ⟨Nat.le_of_ble_eq_true rfl, Nat.le_of_ble_eq_true rfl⟩ dX1_stoppedBetween_78 ?_
            rintro z_78 _ ⟨rfl, hz_78⟩
            refine z_ws (ws' := (cw cI h σ LT γ φ'_35)) rfl ?_
            have r_78 : z_78 = 0 ∨ z_78 = 1 := by rw [hz_78]; exact bI_01 _
            have hz_78 : z_78 = bI (decide (φ'_35 6 < φ'_35 4 ∨ φ'_35 7 < φ'_35 5)) := hz_78
            refine z_if_eq C (tgt := 98) dX1_stoppedBetween_81 (by decide) (by omega) (fun c_81 => ?_) (fun c_81 => ?_)
            ·
              have hB := of_decide_eq_false (bz_f hz_78 c_81)
              rw [v4, v5, v6, v7] at hB
              refine z_iinc C 4 [(4, vI ((i : Int) + 1)), (0, .ref (h 0)), (1, vI f), (2, vI t), (3, vI sv)] dX1_stoppedBetween_98 rfl (by decide) rfl ?_
              refine z_goto C (tgt := 14) dX1_stoppedBetween_101 (by decide) ?_
              refine z_chg 4 (x' := nsv (σ 0) (f % 12) (f / 12) (sgZ (t % 12 - f % 12)) (sgZ (t / 12 - f / 12)) (abZ (t % 12 - f % 12)) (abZ (t / 12 - f / 12)) ix iy sv) (lv' := [(4, vI ((i : Int) + 1)), (0, .ref (h 0)), (1, vI f), (2, vI t), (3, vI (nsv (σ 0) (f % 12) (f / 12) (sgZ (t % 12 - f % 12)) (sgZ (t / 12 - f / 12)) (abZ (t % 12 - f % 12)) (abZ (t / 12 - f / 12)) ix iy sv))]) rfl (by unfold nsv; first | (rw [if_pos hB, hA, hz_93, x3]; done) | (rw [if_neg hB, hA]; done)) rfl ?_
              refine z_chg 0 (x' := ((i + 1 : Nat) : Int)) (lv' := [(4, vI ((i + 1 : Nat) : Int)), (0, .ref (h 0)), (1, vI f), (2, vI t), (3, vI (nsv (σ 0) (f % 12) (f / 12) (sgZ (t % 12 - f % 12)) (sgZ (t / 12 - f / 12)) (abZ (t % 12 - f % 12)) (abZ (t / 12 - f / 12)) ix iy sv))]) rfl (by omega) rfl ?_
              refine z_sub (lv' := [(0, .ref (h 0)), (1, vI f), (2, vI t), (3, vI (nsv (σ 0) (f % 12) (f / 12) (sgZ (t % 12 - f % 12)) (sgZ (t / 12 - f / 12)) (abZ (t % 12 - f % 12)) (abZ (t / 12 - f / 12)) ix iy sv)), (4, vI ((i + 1 : Nat) : Int))]) [1, 2, 3, 4, 0] rfl ?_
              exact ih9 (i + 1) φ'_35 (nix (abZ (t % 12 - f % 12)) (abZ (t / 12 - f / 12)) ix iy) (niy (abZ (t % 12 - f % 12)) (abZ (t / 12 - f / 12)) ix iy) (nsv (σ 0) (f % 12) (f / 12) (sgZ (t % 12 - f % 12)) (sgZ (t / 12 - f / 12)) (abZ (t % 12 - f % 12)) (abZ (t / 12 - f / 12)) ix iy sv) (gv + 1) (by omega) (by omega) hw1 (nsv_r hs).2 hr1
            ·
              have hB := of_decide_eq_true (bz_t hz_78 c_81)
              rw [v4, v5, v6, v7] at hB
              have y3 : 0 ≤ 12 * φ'_35 1 + φ'_35 0 ∧ 12 * φ'_35 1 + φ'_35 0 < 144 := by rw [v0, v1]; omega
              refine z_iload_n C 3 dX1_stoppedBetween_84 rfl ?_
              refine z_aload_n C 0 dX1_stoppedBetween_85 rfl ?_
              refine z_aload_n C 0 dX1_stoppedBetween_86 rfl ?_
              refine z_get C (v := .ref (h 8)) (ref := "ShadowWalls") (T := TX1) (N := 11) (ci := 1) 0 7 inU_X1_X1_stoppedBetween rfl rfl (by decide) (by decide +kernel) (fun _ h9 => h9) rfl dX1_stoppedBetween_87 ?_
              refine z_callVi C (As := []) (st := [.ref (h 0), vI sv]) (y := yX0_cell) (w := wsX0_cell) (rm := rm_X0_cell) (wr := [(h 0, .inr (1, [.ref (h 1), .ref (h 2), .ref (h 3), .ref (h 4), .ref (h 5), .ref (h 6), .ref (h 7), .ref (h 8), vI (σ 4 0), vI (σ 4 1), vI (σ 4 2)])), (h 1, ri cI 144 (σ 0)), (h 2, ri cI 4 (σ 1)), (h 3, ri cI 4 (σ 2)), (h 4, ri cI 6 (σ 3)), (h 5, ri cI 144 LT), (h 6, ri cI 144 (γ 0)), (h 7, ri cI 144 (γ 1))]) (k' := 0) (n' := 0) [8] [0, 1, 2, 3, 4, 5, 6, 7] 8 (c_X0_cell l D cI cJ (h 8) φ'_35  ) (cwV 0 C.1.2.2.2.2 gX1_stoppedBetween_X0_cell rfl rfl rfl (by decide +kernel) ⟨Nat.le_of_ble_eq_true rfl, Nat.le_of_ble_eq_true rfl⟩) rfl rfl rfl rfl rfl (by decide) rfl rfl rfl rfl (Nat.le_of_ble_eq_true rfl) rfl rfl ⟨Nat.le_of_ble_eq_true rfl, Nat.le_of_ble_eq_true rfl⟩ dX1_stoppedBetween_90 ?_
              rintro z_90 _ ⟨rfl, rfl⟩
              refine z_ws (ws' := (cw cI h σ LT γ φ'_35)) rfl ?_
              refine z_st (v' := (12 * φ'_35 1 + φ'_35 0)) rfl ?_
              refine z_callVi C (As := [vI (12 * φ'_35 1 + φ'_35 0)]) (st := [vI sv]) (y := yX1_stoppedBy) (w := wsX1_stoppedBy) (rm := rm_X1_stoppedBy) (wr := []) (k' := 0) (n' := 0) [0, 1, 2, 3, 4, 5, 6, 7, 8] [] 0 (c_X1_stoppedBy l D cI cJ h σ LT γ φ'_35 (12 * φ'_35 1 + φ'_35 0) y3 hO) (cwV 1 C.1.2.2.2.2 gX1_stoppedBetween_X1_stoppedBy rfl rfl rfl (by decide +kernel) ⟨Nat.le_of_ble_eq_true rfl, Nat.le_of_ble_eq_true rfl⟩) rfl rfl rfl rfl rfl (by decide) rfl rfl rfl rfl (Nat.le_of_ble_eq_true rfl) rfl rfl ⟨Nat.le_of_ble_eq_true rfl, Nat.le_of_ble_eq_true rfl⟩ dX1_stoppedBetween_93 ?_
              rintro z_93 _ ⟨rfl, hz_93⟩
              refine z_ws (ws' := (cw cI h σ LT γ φ'_35)) rfl ?_
              have r_93 : 0 ≤ z_93 ∧ z_93 ≤ 3 := by rw [hz_93]; exact sbK_r _ _
              have hz_93 : z_93 = sbK (σ 0) (12 * φ'_35 1 + φ'_35 0) := hz_93
              refine z_ior C (r := bor sv z_93) dX1_stoppedBetween_96 ((bits_e (by omega) (by omega)).1.2) ?_
              refine z_istore_n C [(3, vI (bor sv z_93)), (0, .ref (h 0)), (1, vI f), (2, vI t), (4, vI (i : Int))] dX1_stoppedBetween_97 (by decide) rfl ?_
              refine z_iinc C 4 [(4, vI ((i : Int) + 1)), (3, vI (bor sv z_93)), (0, .ref (h 0)), (1, vI f), (2, vI t)] dX1_stoppedBetween_98 rfl (by decide) rfl ?_
              refine z_goto C (tgt := 14) dX1_stoppedBetween_101 (by decide) ?_
              refine z_chg 1 (x' := nsv (σ 0) (f % 12) (f / 12) (sgZ (t % 12 - f % 12)) (sgZ (t / 12 - f / 12)) (abZ (t % 12 - f % 12)) (abZ (t / 12 - f / 12)) ix iy sv) (lv' := [(4, vI ((i : Int) + 1)), (3, vI (nsv (σ 0) (f % 12) (f / 12) (sgZ (t % 12 - f % 12)) (sgZ (t / 12 - f / 12)) (abZ (t % 12 - f % 12)) (abZ (t / 12 - f / 12)) ix iy sv)), (0, .ref (h 0)), (1, vI f), (2, vI t)]) rfl (by unfold nsv; first | (rw [if_pos hB, hA, hz_93, x3]; done) | (rw [if_neg hB, hA]; done)) rfl ?_
              refine z_chg 0 (x' := ((i + 1 : Nat) : Int)) (lv' := [(4, vI ((i + 1 : Nat) : Int)), (3, vI (nsv (σ 0) (f % 12) (f / 12) (sgZ (t % 12 - f % 12)) (sgZ (t / 12 - f / 12)) (abZ (t % 12 - f % 12)) (abZ (t / 12 - f / 12)) ix iy sv)), (0, .ref (h 0)), (1, vI f), (2, vI t)]) rfl (by omega) rfl ?_
              refine z_sub (lv' := [(0, .ref (h 0)), (1, vI f), (2, vI t), (3, vI (nsv (σ 0) (f % 12) (f / 12) (sgZ (t % 12 - f % 12)) (sgZ (t / 12 - f / 12)) (abZ (t % 12 - f % 12)) (abZ (t / 12 - f / 12)) ix iy sv)), (4, vI ((i + 1 : Nat) : Int))]) [2, 3, 4, 1, 0] rfl ?_
              exact ih9 (i + 1) φ'_35 (nix (abZ (t % 12 - f % 12)) (abZ (t / 12 - f / 12)) ix iy) (niy (abZ (t % 12 - f % 12)) (abZ (t / 12 - f / 12)) ix iy) (nsv (σ 0) (f % 12) (f / 12) (sgZ (t % 12 - f % 12)) (sgZ (t / 12 - f / 12)) (abZ (t % 12 - f % 12)) (abZ (t / 12 - f / 12)) ix iy sv) (gv + 1) (by omega) (by omega) hw1 (nsv_r hs).2 hr1
          ·
            have hp := of_decide_eq_true (bz_t (hz_42.trans f8_35) c_45)
            have e1 : nix (abZ (t % 12 - f % 12)) (abZ (t / 12 - f / 12)) ix iy = ix + 1 := if_pos (by omega)
            have e2 : niy (abZ (t % 12 - f % 12)) (abZ (t / 12 - f / 12)) ix iy = iy + 1 := if_pos (by omega)
            have x1 : 12 * (φ'_35 1 - φ'_35 3) + φ'_35 0 = cl (f % 12) (f / 12) (sgZ (t % 12 - f % 12)) (sgZ (t / 12 - f / 12)) (ix + 1) iy := by rw [v0, v1, v3, e1, e2]; unfold cl; rw [Int.mul_add (sgZ (t / 12 - f / 12)) iy 1]; omega
            have x2 : 12 * φ'_35 1 + (φ'_35 0 - φ'_35 2) = cl (f % 12) (f / 12) (sgZ (t % 12 - f % 12)) (sgZ (t / 12 - f / 12)) ix (iy + 1) := by rw [v0, v1, v2, e1, e2]; unfold cl; rw [Int.mul_add (sgZ (t % 12 - f % 12)) ix 1]; omega
            have g5 := g3
            rw [e1] at g5
            have g6 := g4
            rw [e2] at g6
            have y1 : 0 ≤ 12 * (φ'_35 1 - φ'_35 3) + φ'_35 0 ∧ 12 * (φ'_35 1 - φ'_35 3) + φ'_35 0 < 144 := by rw [x1]; unfold cl; omega
            have y2 : 0 ≤ 12 * φ'_35 1 + (φ'_35 0 - φ'_35 2) ∧ 12 * φ'_35 1 + (φ'_35 0 - φ'_35 2) < 144 := by rw [x2]; unfold cl; omega
            refine z_iload_n C 3 dX1_stoppedBetween_48 rfl ?_
            refine z_aload_n C 0 dX1_stoppedBetween_49 rfl ?_
            refine z_aload_n C 0 dX1_stoppedBetween_50 rfl ?_
            refine z_get C (v := .ref (h 8)) (ref := "ShadowWalls") (T := TX1) (N := 11) (ci := 1) 0 7 inU_X1_X1_stoppedBetween rfl rfl (by decide) (by decide +kernel) (fun _ h9 => h9) rfl dX1_stoppedBetween_51 ?_
            refine z_callVi C (As := []) (st := [.ref (h 0), vI sv]) (y := yX0_cornerByX) (w := wsX0_cornerByX) (rm := rm_X0_cornerByX) (wr := [(h 0, .inr (1, [.ref (h 1), .ref (h 2), .ref (h 3), .ref (h 4), .ref (h 5), .ref (h 6), .ref (h 7), .ref (h 8), vI (σ 4 0), vI (σ 4 1), vI (σ 4 2)])), (h 1, ri cI 144 (σ 0)), (h 2, ri cI 4 (σ 1)), (h 3, ri cI 4 (σ 2)), (h 4, ri cI 6 (σ 3)), (h 5, ri cI 144 LT), (h 6, ri cI 144 (γ 0)), (h 7, ri cI 144 (γ 1))]) (k' := 0) (n' := 0) [8] [0, 1, 2, 3, 4, 5, 6, 7] 8 (c_X0_cornerByX l D cI cJ (h 8) φ'_35  ) (cwV 0 C.1.2.2.2.2 gX1_stoppedBetween_X0_cornerByX rfl rfl rfl (by decide +kernel) ⟨Nat.le_of_ble_eq_true rfl, Nat.le_of_ble_eq_true rfl⟩) rfl rfl rfl rfl rfl (by decide) rfl rfl rfl rfl (Nat.le_of_ble_eq_true rfl) rfl rfl ⟨Nat.le_of_ble_eq_true rfl, Nat.le_of_ble_eq_true rfl⟩ dX1_stoppedBetween_54 ?_
            rintro z_54 _ ⟨rfl, rfl⟩
            refine z_ws (ws' := (cw cI h σ LT γ φ'_35)) rfl ?_
            refine z_st (v' := (12 * (φ'_35 1 - φ'_35 3) + φ'_35 0)) rfl ?_
            refine z_callVi C (As := [vI (12 * (φ'_35 1 - φ'_35 3) + φ'_35 0)]) (st := [vI sv]) (y := yX1_stoppedBy) (w := wsX1_stoppedBy) (rm := rm_X1_stoppedBy) (wr := []) (k' := 0) (n' := 0) [0, 1, 2, 3, 4, 5, 6, 7, 8] [] 0 (c_X1_stoppedBy l D cI cJ h σ LT γ φ'_35 (12 * (φ'_35 1 - φ'_35 3) + φ'_35 0) y1 hO) (cwV 1 C.1.2.2.2.2 gX1_stoppedBetween_X1_stoppedBy rfl rfl rfl (by decide +kernel) ⟨Nat.le_of_ble_eq_true rfl, Nat.le_of_ble_eq_true rfl⟩) rfl rfl rfl rfl rfl (by decide) rfl rfl rfl rfl (Nat.le_of_ble_eq_true rfl) rfl rfl ⟨Nat.le_of_ble_eq_true rfl, Nat.le_of_ble_eq_true rfl⟩ dX1_stoppedBetween_57 ?_
            rintro z_57 _ ⟨rfl, hz_57⟩
            refine z_ws (ws' := (cw cI h σ LT γ φ'_35)) rfl ?_
            have r_57 : 0 ≤ z_57 ∧ z_57 ≤ 3 := by rw [hz_57]; exact sbK_r _ _
            have hz_57 : z_57 = sbK (σ 0) (12 * (φ'_35 1 - φ'_35 3) + φ'_35 0) := hz_57
            refine z_aload_n C 0 dX1_stoppedBetween_60 rfl ?_
            refine z_aload_n C 0 dX1_stoppedBetween_61 rfl ?_
            refine z_get C (v := .ref (h 8)) (ref := "ShadowWalls") (T := TX1) (N := 11) (ci := 1) 0 7 inU_X1_X1_stoppedBetween rfl rfl (by decide) (by decide +kernel) (fun _ h9 => h9) rfl dX1_stoppedBetween_62 ?_
            refine z_callVi C (As := []) (st := [.ref (h 0), vI z_57, vI sv]) (y := yX0_cornerByY) (w := wsX0_cornerByY) (rm := rm_X0_cornerByY) (wr := [(h 0, .inr (1, [.ref (h 1), .ref (h 2), .ref (h 3), .ref (h 4), .ref (h 5), .ref (h 6), .ref (h 7), .ref (h 8), vI (σ 4 0), vI (σ 4 1), vI (σ 4 2)])), (h 1, ri cI 144 (σ 0)), (h 2, ri cI 4 (σ 1)), (h 3, ri cI 4 (σ 2)), (h 4, ri cI 6 (σ 3)), (h 5, ri cI 144 LT), (h 6, ri cI 144 (γ 0)), (h 7, ri cI 144 (γ 1))]) (k' := 0) (n' := 0) [8] [0, 1, 2, 3, 4, 5, 6, 7] 8 (c_X0_cornerByY l D cI cJ (h 8) φ'_35  ) (cwV 0 C.1.2.2.2.2 gX1_stoppedBetween_X0_cornerByY rfl rfl rfl (by decide +kernel) ⟨Nat.le_of_ble_eq_true rfl, Nat.le_of_ble_eq_true rfl⟩) rfl rfl rfl rfl rfl (by decide) rfl rfl rfl rfl (Nat.le_of_ble_eq_true rfl) rfl rfl ⟨Nat.le_of_ble_eq_true rfl, Nat.le_of_ble_eq_true rfl⟩ dX1_stoppedBetween_65 ?_
            rintro z_65 _ ⟨rfl, rfl⟩
            refine z_ws (ws' := (cw cI h σ LT γ φ'_35)) rfl ?_
            refine z_st (v' := (12 * φ'_35 1 + (φ'_35 0 - φ'_35 2))) rfl ?_
            refine z_callVi C (As := [vI (12 * φ'_35 1 + (φ'_35 0 - φ'_35 2))]) (st := [vI z_57, vI sv]) (y := yX1_stoppedBy) (w := wsX1_stoppedBy) (rm := rm_X1_stoppedBy) (wr := []) (k' := 0) (n' := 0) [0, 1, 2, 3, 4, 5, 6, 7, 8] [] 0 (c_X1_stoppedBy l D cI cJ h σ LT γ φ'_35 (12 * φ'_35 1 + (φ'_35 0 - φ'_35 2)) y2 hO) (cwV 1 C.1.2.2.2.2 gX1_stoppedBetween_X1_stoppedBy rfl rfl rfl (by decide +kernel) ⟨Nat.le_of_ble_eq_true rfl, Nat.le_of_ble_eq_true rfl⟩) rfl rfl rfl rfl rfl (by decide) rfl rfl rfl rfl (Nat.le_of_ble_eq_true rfl) rfl rfl ⟨Nat.le_of_ble_eq_true rfl, Nat.le_of_ble_eq_true rfl⟩ dX1_stoppedBetween_68 ?_
            rintro z_68 _ ⟨rfl, hz_68⟩
            refine z_ws (ws' := (cw cI h σ LT γ φ'_35)) rfl ?_
            have r_68 : 0 ≤ z_68 ∧ z_68 ≤ 3 := by rw [hz_68]; exact sbK_r _ _
            have hz_68 : z_68 = sbK (σ 0) (12 * φ'_35 1 + (φ'_35 0 - φ'_35 2)) := hz_68
            have b_71 := bits_e (a := z_57) (b := z_68) (by omega) (by omega)
            refine z_iand C (r := band z_57 z_68) dX1_stoppedBetween_71 (b_71.1.1) ?_
            have b_72 := bits_e (a := sv) (b := band z_57 z_68) (by omega) (by omega)
            refine z_ior C (r := bor sv (band z_57 z_68)) dX1_stoppedBetween_72 (b_72.1.2) ?_
            refine z_istore_n C [(3, vI (bor sv (band z_57 z_68))), (0, .ref (h 0)), (1, vI f), (2, vI t), (4, vI (i : Int))] dX1_stoppedBetween_73 (by decide) rfl ?_
            have hA : ns1 (σ 0) (f % 12) (f / 12) (sgZ (t % 12 - f % 12)) (sgZ (t / 12 - f / 12)) (abZ (t % 12 - f % 12)) (abZ (t / 12 - f / 12)) ix iy sv = bor sv (band z_57 z_68) := by unfold ns1; rw [if_pos hp, hz_57, hz_68, x1, x2]
            have hs1 : 0 ≤ bor sv (band z_57 z_68) ∧ bor sv (band z_57 z_68) < 4 := ⟨b_72.2.2.1.1, b_72.2.2.2 (by omega) (by omega)⟩
            refine z_aload_n C 1 dX1_stoppedBetween_74 rfl ?_
            refine z_get C (v := .ref (h 8)) (ref := "ShadowWalls") (T := TX1) (N := 11) (ci := 1) 0 7 inU_X1_X1_stoppedBetween rfl rfl (by decide) (by decide +kernel) (fun _ h9 => h9) rfl dX1_stoppedBetween_75 ?_
            refine z_callVi C (As := []) (st := []) (y := yX0_goesOn) (w := wsX0_goesOn) (rm := rm_X0_goesOn) (wr := [(h 0, .inr (1, [.ref (h 1), .ref (h 2), .ref (h 3), .ref (h 4), .ref (h 5), .ref (h 6), .ref (h 7), .ref (h 8), vI (σ 4 0), vI (σ 4 1), vI (σ 4 2)])), (h 1, ri cI 144 (σ 0)), (h 2, ri cI 4 (σ 1)), (h 3, ri cI 4 (σ 2)), (h 4, ri cI 6 (σ 3)), (h 5, ri cI 144 LT), (h 6, ri cI 144 (γ 0)), (h 7, ri cI 144 (γ 1))]) (k' := 0) (n' := 0) [8] [0, 1, 2, 3, 4, 5, 6, 7] 8 (c_X0_goesOn l D cI cJ (h 8) φ'_35  (by omega)) (cwV 0 C.1.2.2.2.2 gX1_stoppedBetween_X0_goesOn rfl rfl rfl (by decide +kernel) ⟨Nat.le_of_ble_eq_true rfl, Nat.le_of_ble_eq_true rfl⟩) rfl rfl rfl rfl rfl (by decide) rfl rfl rfl rfl (Nat.le_of_ble_eq_true rfl) rfl rfl ⟨Nat.le_of_ble_eq_true rfl, Nat.le_of_ble_eq_true rfl⟩ dX1_stoppedBetween_78 ?_
            rintro z_78 _ ⟨rfl, hz_78⟩
            refine z_ws (ws' := (cw cI h σ LT γ φ'_35)) rfl ?_
            have r_78 : z_78 = 0 ∨ z_78 = 1 := by rw [hz_78]; exact bI_01 _
            have hz_78 : z_78 = bI (decide (φ'_35 6 < φ'_35 4 ∨ φ'_35 7 < φ'_35 5)) := hz_78
            refine z_if_eq C (tgt := 98) dX1_stoppedBetween_81 (by decide) (by omega) (fun c_81 => ?_) (fun c_81 => ?_)
            ·
              have hB := of_decide_eq_false (bz_f hz_78 c_81)
              rw [v4, v5, v6, v7] at hB
              refine z_iinc C 4 [(4, vI ((i : Int) + 1)), (3, vI (bor sv (band z_57 z_68))), (0, .ref (h 0)), (1, vI f), (2, vI t)] dX1_stoppedBetween_98 rfl (by decide) rfl ?_
              refine z_goto C (tgt := 14) dX1_stoppedBetween_101 (by decide) ?_
              refine z_chg 1 (x' := nsv (σ 0) (f % 12) (f / 12) (sgZ (t % 12 - f % 12)) (sgZ (t / 12 - f / 12)) (abZ (t % 12 - f % 12)) (abZ (t / 12 - f / 12)) ix iy sv) (lv' := [(4, vI ((i : Int) + 1)), (3, vI (nsv (σ 0) (f % 12) (f / 12) (sgZ (t % 12 - f % 12)) (sgZ (t / 12 - f / 12)) (abZ (t % 12 - f % 12)) (abZ (t / 12 - f / 12)) ix iy sv)), (0, .ref (h 0)), (1, vI f), (2, vI t)]) rfl (by unfold nsv; first | (rw [if_pos hB, hA, hz_93, x3]; done) | (rw [if_neg hB, hA]; done)) rfl ?_
              refine z_chg 0 (x' := ((i + 1 : Nat) : Int)) (lv' := [(4, vI ((i + 1 : Nat) : Int)), (3, vI (nsv (σ 0) (f % 12) (f / 12) (sgZ (t % 12 - f % 12)) (sgZ (t / 12 - f / 12)) (abZ (t % 12 - f % 12)) (abZ (t / 12 - f / 12)) ix iy sv)), (0, .ref (h 0)), (1, vI f), (2, vI t)]) rfl (by omega) rfl ?_
              refine z_sub (lv' := [(0, .ref (h 0)), (1, vI f), (2, vI t), (3, vI (nsv (σ 0) (f % 12) (f / 12) (sgZ (t % 12 - f % 12)) (sgZ (t / 12 - f / 12)) (abZ (t % 12 - f % 12)) (abZ (t / 12 - f / 12)) ix iy sv)), (4, vI ((i + 1 : Nat) : Int))]) [2, 3, 4, 1, 0] rfl ?_
              exact ih9 (i + 1) φ'_35 (nix (abZ (t % 12 - f % 12)) (abZ (t / 12 - f / 12)) ix iy) (niy (abZ (t % 12 - f % 12)) (abZ (t / 12 - f / 12)) ix iy) (nsv (σ 0) (f % 12) (f / 12) (sgZ (t % 12 - f % 12)) (sgZ (t / 12 - f / 12)) (abZ (t % 12 - f % 12)) (abZ (t / 12 - f / 12)) ix iy sv) (gv + 1) (by omega) (by omega) hw1 (nsv_r hs).2 hr1
            ·
              have hB := of_decide_eq_true (bz_t hz_78 c_81)
              rw [v4, v5, v6, v7] at hB
              have y3 : 0 ≤ 12 * φ'_35 1 + φ'_35 0 ∧ 12 * φ'_35 1 + φ'_35 0 < 144 := by rw [v0, v1]; omega
              refine z_iload_n C 0 dX1_stoppedBetween_84 rfl ?_
              refine z_aload_n C 1 dX1_stoppedBetween_85 rfl ?_
              refine z_aload_n C 1 dX1_stoppedBetween_86 rfl ?_
              refine z_get C (v := .ref (h 8)) (ref := "ShadowWalls") (T := TX1) (N := 11) (ci := 1) 0 7 inU_X1_X1_stoppedBetween rfl rfl (by decide) (by decide +kernel) (fun _ h9 => h9) rfl dX1_stoppedBetween_87 ?_
              refine z_callVi C (As := []) (st := [.ref (h 0), vI (bor sv (band z_57 z_68))]) (y := yX0_cell) (w := wsX0_cell) (rm := rm_X0_cell) (wr := [(h 0, .inr (1, [.ref (h 1), .ref (h 2), .ref (h 3), .ref (h 4), .ref (h 5), .ref (h 6), .ref (h 7), .ref (h 8), vI (σ 4 0), vI (σ 4 1), vI (σ 4 2)])), (h 1, ri cI 144 (σ 0)), (h 2, ri cI 4 (σ 1)), (h 3, ri cI 4 (σ 2)), (h 4, ri cI 6 (σ 3)), (h 5, ri cI 144 LT), (h 6, ri cI 144 (γ 0)), (h 7, ri cI 144 (γ 1))]) (k' := 0) (n' := 0) [8] [0, 1, 2, 3, 4, 5, 6, 7] 8 (c_X0_cell l D cI cJ (h 8) φ'_35  ) (cwV 0 C.1.2.2.2.2 gX1_stoppedBetween_X0_cell rfl rfl rfl (by decide +kernel) ⟨Nat.le_of_ble_eq_true rfl, Nat.le_of_ble_eq_true rfl⟩) rfl rfl rfl rfl rfl (by decide) rfl rfl rfl rfl (Nat.le_of_ble_eq_true rfl) rfl rfl ⟨Nat.le_of_ble_eq_true rfl, Nat.le_of_ble_eq_true rfl⟩ dX1_stoppedBetween_90 ?_
              rintro z_90 _ ⟨rfl, rfl⟩
              refine z_ws (ws' := (cw cI h σ LT γ φ'_35)) rfl ?_
              refine z_st (v' := (12 * φ'_35 1 + φ'_35 0)) rfl ?_
              refine z_callVi C (As := [vI (12 * φ'_35 1 + φ'_35 0)]) (st := [vI (bor sv (band z_57 z_68))]) (y := yX1_stoppedBy) (w := wsX1_stoppedBy) (rm := rm_X1_stoppedBy) (wr := []) (k' := 0) (n' := 0) [0, 1, 2, 3, 4, 5, 6, 7, 8] [] 0 (c_X1_stoppedBy l D cI cJ h σ LT γ φ'_35 (12 * φ'_35 1 + φ'_35 0) y3 hO) (cwV 1 C.1.2.2.2.2 gX1_stoppedBetween_X1_stoppedBy rfl rfl rfl (by decide +kernel) ⟨Nat.le_of_ble_eq_true rfl, Nat.le_of_ble_eq_true rfl⟩) rfl rfl rfl rfl rfl (by decide) rfl rfl rfl rfl (Nat.le_of_ble_eq_true rfl) rfl rfl ⟨Nat.le_of_ble_eq_true rfl, Nat.le_of_ble_eq_true rfl⟩ dX1_stoppedBetween_93 ?_
              rintro z_93 _ ⟨rfl, hz_93⟩
              refine z_ws (ws' := (cw cI h σ LT γ φ'_35)) rfl ?_
              have r_93 : 0 ≤ z_93 ∧ z_93 ≤ 3 := by rw [hz_93]; exact sbK_r _ _
              have hz_93 : z_93 = sbK (σ 0) (12 * φ'_35 1 + φ'_35 0) := hz_93
              refine z_ior C (r := bor (bor sv (band z_57 z_68)) z_93) dX1_stoppedBetween_96 ((bits_e (by omega) (by omega)).1.2) ?_
              refine z_istore_n C [(3, vI (bor (bor sv (band z_57 z_68)) z_93)), (0, .ref (h 0)), (1, vI f), (2, vI t), (4, vI (i : Int))] dX1_stoppedBetween_97 (by decide) rfl ?_
              refine z_iinc C 4 [(4, vI ((i : Int) + 1)), (3, vI (bor (bor sv (band z_57 z_68)) z_93)), (0, .ref (h 0)), (1, vI f), (2, vI t)] dX1_stoppedBetween_98 rfl (by decide) rfl ?_
              refine z_goto C (tgt := 14) dX1_stoppedBetween_101 (by decide) ?_
              refine z_chg 1 (x' := nsv (σ 0) (f % 12) (f / 12) (sgZ (t % 12 - f % 12)) (sgZ (t / 12 - f / 12)) (abZ (t % 12 - f % 12)) (abZ (t / 12 - f / 12)) ix iy sv) (lv' := [(4, vI ((i : Int) + 1)), (3, vI (nsv (σ 0) (f % 12) (f / 12) (sgZ (t % 12 - f % 12)) (sgZ (t / 12 - f / 12)) (abZ (t % 12 - f % 12)) (abZ (t / 12 - f / 12)) ix iy sv)), (0, .ref (h 0)), (1, vI f), (2, vI t)]) rfl (by unfold nsv; first | (rw [if_pos hB, hA, hz_93, x3]; done) | (rw [if_neg hB, hA]; done)) rfl ?_
              refine z_chg 0 (x' := ((i + 1 : Nat) : Int)) (lv' := [(4, vI ((i + 1 : Nat) : Int)), (3, vI (nsv (σ 0) (f % 12) (f / 12) (sgZ (t % 12 - f % 12)) (sgZ (t / 12 - f / 12)) (abZ (t % 12 - f % 12)) (abZ (t / 12 - f / 12)) ix iy sv)), (0, .ref (h 0)), (1, vI f), (2, vI t)]) rfl (by omega) rfl ?_
              refine z_sub (lv' := [(0, .ref (h 0)), (1, vI f), (2, vI t), (3, vI (nsv (σ 0) (f % 12) (f / 12) (sgZ (t % 12 - f % 12)) (sgZ (t / 12 - f / 12)) (abZ (t % 12 - f % 12)) (abZ (t / 12 - f / 12)) ix iy sv)), (4, vI ((i + 1 : Nat) : Int))]) [2, 3, 4, 1, 0] rfl ?_
              exact ih9 (i + 1) φ'_35 (nix (abZ (t % 12 - f % 12)) (abZ (t / 12 - f / 12)) ix iy) (niy (abZ (t % 12 - f % 12)) (abZ (t / 12 - f / 12)) ix iy) (nsv (σ 0) (f % 12) (f / 12) (sgZ (t % 12 - f % 12)) (sgZ (t / 12 - f / 12)) (abZ (t % 12 - f % 12)) (abZ (t / 12 - f / 12)) ix iy sv) (gv + 1) (by omega) (by omega) hw1 (nsv_r hs).2 hr1
  refine z_sub (lv' := [(0, .ref (h 0)), (1, vI f), (2, vI t), (3, vI 0), (4, vI 0)]) [2, 3, 4, 1, 0] rfl ?_
  exact L_14 23 0 (wB f t) 0 0 0 0 (by omega) (by omega) (way_0 f t) (by omega) rfl

abbrev rm_X1_shinesOn : Room := { frames := 3, cells := 0, slots := 0, locals := 70 }
set_option maxHeartbeats 4000000 in
set_option maxRecDepth 100000 in
theorem c_X1_shinesOn (l : Launch) (D : va_G) (cI cJ : ClassId) (h : Nat → Nat) (σ : YS) (LT : Nat → Int) (γ : YS) (φ : Nat → Int) (k c : Int) (hk : 0 ≤ k ∧ k < σ 4 0) (hc : 0 ≤ c ∧ c < 144) (hO : Ok σ) : Ci l yX1_shinesOn wsX1_shinesOn rm_X1_shinesOn D [(cI, .int), (cJ, .long)] [.ref (h 0), vI k, vI c] (cw cI h σ LT γ φ) (fun z u => ∃ φ' : Nat → Int, u = (cw cI h σ LT γ φ') ∧ z = bI (litB σ k.toNat c.toNat)) := by
  refine z_ofz (own := RX1) (cc := cX1_shinesOn) (maxL := 7) (lv := [(0, .ref (h 0)), (1, vI k), (2, vI c)]) (by decide) rfl rfl (Nat.le_of_ble_eq_true rfl) rfl ?_
  intro p e s m args below meth cd Q A C hret
  have hn := hO.1
  have h1 := hO.2.2.1 k.toNat (by omega)
  have q1 := sqr (x := c % 12 - σ 1 k.toNat % 12) (B := 11) (by omega)
  have q2 := sqr (x := c / 12 - σ 1 k.toNat / 12) (B := 11) (by omega)
  have q3 := sqr (x := σ 2 k.toNat) (B := 12) (by omega)
  have hl : litB σ k.toNat c.toNat = (decide ((c % 12 - σ 1 k.toNat % 12) * (c % 12 - σ 1 k.toNat % 12) + (c / 12 - σ 1 k.toNat / 12) * (c / 12 - σ 1 k.toNat / 12) ≤ σ 2 k.toNat * σ 2 k.toNat) && decide (band (ray (σ 0) (σ 1 k.toNat) c).1 1 = 0)) := by unfold litB dX dY; rw [Int.toNat_of_nonneg hc.1]
  refine z_aload_n C 0 dX1_shinesOn_0 rfl ?_
  refine z_iload_n C 1 dX1_shinesOn_1 rfl ?_
  refine z_callVi C (As := [vI k]) (st := []) (y := yX1_cellOfLamp) (w := wsX1_cellOfLamp) (rm := rm_X1_cellOfLamp) (wr := []) (k' := 0) (n' := 0) [0, 1, 2, 3, 4, 5, 6, 7, 8] [] 0 (c_X1_cellOfLamp l D cI cJ h σ LT γ φ k (by omega)) (cwV 1 C.1.2.2.2.2 gX1_shinesOn_X1_cellOfLamp rfl rfl rfl (by decide +kernel) ⟨Nat.le_of_ble_eq_true rfl, Nat.le_of_ble_eq_true rfl⟩) rfl rfl rfl rfl rfl (by decide) rfl rfl rfl rfl (Nat.le_of_ble_eq_true rfl) rfl rfl ⟨Nat.le_of_ble_eq_true rfl, Nat.le_of_ble_eq_true rfl⟩ dX1_shinesOn_2 ?_
  rintro z_2 _ ⟨rfl, rfl⟩
  refine z_ws (ws' := (cw cI h σ LT γ φ)) rfl ?_
  refine z_st (v' := (σ 1 k.toNat)) rfl ?_
  refine z_istore_n C [(3, vI (σ 1 k.toNat)), (0, .ref (h 0)), (1, vI k), (2, vI c)] dX1_shinesOn_5 (by decide) rfl ?_
  refine z_aload_n C 1 dX1_shinesOn_6 rfl ?_
  refine z_iload_n C 2 dX1_shinesOn_7 rfl ?_
  refine z_callVi C (As := [vI k]) (st := []) (y := yX1_reachOf) (w := wsX1_reachOf) (rm := rm_X1_reachOf) (wr := []) (k' := 0) (n' := 0) [0, 1, 2, 3, 4, 5, 6, 7, 8] [] 0 (c_X1_reachOf l D cI cJ h σ LT γ φ k (by omega)) (cwV 1 C.1.2.2.2.2 gX1_shinesOn_X1_reachOf rfl rfl rfl (by decide +kernel) ⟨Nat.le_of_ble_eq_true rfl, Nat.le_of_ble_eq_true rfl⟩) rfl rfl rfl rfl rfl (by decide) rfl rfl rfl rfl (Nat.le_of_ble_eq_true rfl) rfl rfl ⟨Nat.le_of_ble_eq_true rfl, Nat.le_of_ble_eq_true rfl⟩ dX1_shinesOn_8 ?_
  rintro z_8 _ ⟨rfl, rfl⟩
  refine z_ws (ws' := (cw cI h σ LT γ φ)) rfl ?_
  refine z_st (v' := (σ 2 k.toNat)) rfl ?_
  refine z_istore C [(4, vI (σ 2 k.toNat)), (3, vI (σ 1 k.toNat)), (0, .ref (h 0)), (1, vI k), (2, vI c)] dX1_shinesOn_11 (by decide) rfl ?_
  refine z_iload_n C 4 dX1_shinesOn_13 rfl ?_
  refine z_callSi C (As := [vI c]) (st := []) (y := yX1_columnOf) (w := wsX1_columnOf) (rm := rm_X1_columnOf) (wr := (cw cI h σ LT γ φ)) (k' := 0) (n' := 0) [] [0, 1, 2, 3, 4, 5, 6, 7, 8] (c_X1_columnOf l D cI cJ  c (by omega)) (va_cwS 1 C.1.2.2.2.2 gX1_shinesOn_X1_columnOf rfl rfl rfl (by decide +kernel) ⟨Nat.le_of_ble_eq_true rfl, Nat.le_of_ble_eq_true rfl⟩) rfl rfl rfl rfl rfl (by decide) rfl rfl (Nat.le_of_ble_eq_true rfl) rfl rfl ⟨Nat.le_of_ble_eq_true rfl, Nat.le_of_ble_eq_true rfl⟩ dX1_shinesOn_14 ?_
  rintro z_14 _ ⟨rfl, rfl⟩
  refine z_ws (ws' := (cw cI h σ LT γ φ)) rfl ?_
  refine z_st (v' := (c % 12)) rfl ?_
  refine z_iload_n C 1 dX1_shinesOn_17 rfl ?_
  refine z_callSi C (As := [vI (σ 1 k.toNat)]) (st := [vI (c % 12)]) (y := yX1_columnOf) (w := wsX1_columnOf) (rm := rm_X1_columnOf) (wr := (cw cI h σ LT γ φ)) (k' := 0) (n' := 0) [] [0, 1, 2, 3, 4, 5, 6, 7, 8] (c_X1_columnOf l D cI cJ  (σ 1 k.toNat) (by omega)) (va_cwS 1 C.1.2.2.2.2 gX1_shinesOn_X1_columnOf rfl rfl rfl (by decide +kernel) ⟨Nat.le_of_ble_eq_true rfl, Nat.le_of_ble_eq_true rfl⟩) rfl rfl rfl rfl rfl (by decide) rfl rfl (Nat.le_of_ble_eq_true rfl) rfl rfl ⟨Nat.le_of_ble_eq_true rfl, Nat.le_of_ble_eq_true rfl⟩ dX1_shinesOn_18 ?_
  rintro z_18 _ ⟨rfl, rfl⟩
  refine z_ws (ws' := (cw cI h σ LT γ φ)) rfl ?_
  refine z_st (v' := ((σ 1 k.toNat) % 12)) rfl ?_
  refine z_isub C dX1_shinesOn_21 ?_
  refine z_istore C [(5, vI ((c % 12) - ((σ 1 k.toNat) % 12))), (4, vI (σ 2 k.toNat)), (3, vI (σ 1 k.toNat)), (0, .ref (h 0)), (1, vI k), (2, vI c)] dX1_shinesOn_22 (by decide) rfl ?_
  refine z_iload_n C 5 dX1_shinesOn_24 rfl ?_
  refine z_callSi C (As := [vI c]) (st := []) (y := yX1_rowOf) (w := wsX1_rowOf) (rm := rm_X1_rowOf) (wr := (cw cI h σ LT γ φ)) (k' := 0) (n' := 0) [] [0, 1, 2, 3, 4, 5, 6, 7, 8] (c_X1_rowOf l D cI cJ  c (by omega)) (va_cwS 1 C.1.2.2.2.2 gX1_shinesOn_X1_rowOf rfl rfl rfl (by decide +kernel) ⟨Nat.le_of_ble_eq_true rfl, Nat.le_of_ble_eq_true rfl⟩) rfl rfl rfl rfl rfl (by decide) rfl rfl (Nat.le_of_ble_eq_true rfl) rfl rfl ⟨Nat.le_of_ble_eq_true rfl, Nat.le_of_ble_eq_true rfl⟩ dX1_shinesOn_25 ?_
  rintro z_25 _ ⟨rfl, rfl⟩
  refine z_ws (ws' := (cw cI h σ LT γ φ)) rfl ?_
  refine z_st (v' := (c / 12)) rfl ?_
  refine z_iload_n C 2 dX1_shinesOn_28 rfl ?_
  refine z_callSi C (As := [vI (σ 1 k.toNat)]) (st := [vI (c / 12)]) (y := yX1_rowOf) (w := wsX1_rowOf) (rm := rm_X1_rowOf) (wr := (cw cI h σ LT γ φ)) (k' := 0) (n' := 0) [] [0, 1, 2, 3, 4, 5, 6, 7, 8] (c_X1_rowOf l D cI cJ  (σ 1 k.toNat) (by omega)) (va_cwS 1 C.1.2.2.2.2 gX1_shinesOn_X1_rowOf rfl rfl rfl (by decide +kernel) ⟨Nat.le_of_ble_eq_true rfl, Nat.le_of_ble_eq_true rfl⟩) rfl rfl rfl rfl rfl (by decide) rfl rfl (Nat.le_of_ble_eq_true rfl) rfl rfl ⟨Nat.le_of_ble_eq_true rfl, Nat.le_of_ble_eq_true rfl⟩ dX1_shinesOn_29 ?_
  rintro z_29 _ ⟨rfl, rfl⟩
  refine z_ws (ws' := (cw cI h σ LT γ φ)) rfl ?_
  refine z_st (v' := ((σ 1 k.toNat) / 12)) rfl ?_
  refine z_isub C dX1_shinesOn_32 ?_
  refine z_istore C [(6, vI ((c / 12) - ((σ 1 k.toNat) / 12))), (5, vI ((c % 12) - ((σ 1 k.toNat) % 12))), (4, vI (σ 2 k.toNat)), (3, vI (σ 1 k.toNat)), (0, .ref (h 0)), (1, vI k), (2, vI c)] dX1_shinesOn_33 (by decide) rfl ?_
  refine z_iload C 1 dX1_shinesOn_35 rfl ?_
  refine z_iload C 1 dX1_shinesOn_37 rfl ?_
  refine z_imul C dX1_shinesOn_39 ?_
  refine z_iload C 0 dX1_shinesOn_40 rfl ?_
  refine z_iload C 0 dX1_shinesOn_42 rfl ?_
  refine z_imul C dX1_shinesOn_44 ?_
  refine z_iadd C dX1_shinesOn_45 ?_
  refine z_iload C 2 dX1_shinesOn_46 rfl ?_
  refine z_iload C 2 dX1_shinesOn_48 rfl ?_
  refine z_imul C dX1_shinesOn_50 ?_
  refine z_icmp_gt C (tgt := 69) dX1_shinesOn_51 (by decide) (by omega) (by omega) (fun c_51 => ?_) (fun c_51 => ?_)
  ·
    have hv : litB σ k.toNat c.toNat = false := by rw [hl, decide_eq_false (by omega)]; rfl
    refine z_iconst C dX1_shinesOn_69 ?_
    exact hret _ _ _ _ dX1_shinesOn_70 (Or.inl rfl) ⟨_, rfl, by first | exact (bI_f hv).symm | exact (bI_t hv).symm⟩
  ·
    refine z_aload_n C 4 dX1_shinesOn_54 rfl ?_
    refine z_iload_n C 3 dX1_shinesOn_55 rfl ?_
    refine z_iload_n C 6 dX1_shinesOn_56 rfl ?_
    refine z_callVi C (As := [vI (σ 1 k.toNat), vI c]) (st := []) (y := yX1_stoppedBetween) (w := wsX1_stoppedBetween) (rm := rm_X1_stoppedBetween) (wr := []) (k' := 0) (n' := 0) [0, 1, 2, 3, 4, 5, 6, 7, 8] [] 0 (c_X1_stoppedBetween l D cI cJ h σ LT γ φ (σ 1 k.toNat) c (by omega) (by omega) hO) (cwV 2 C.1.2.2.2.2 gX1_shinesOn_X1_stoppedBetween rfl rfl rfl (by decide +kernel) ⟨Nat.le_of_ble_eq_true rfl, Nat.le_of_ble_eq_true rfl⟩) rfl rfl rfl rfl rfl (by decide) rfl rfl rfl rfl (Nat.le_of_ble_eq_true rfl) rfl rfl ⟨Nat.le_of_ble_eq_true rfl, Nat.le_of_ble_eq_true rfl⟩ dX1_shinesOn_57 ?_
    rintro z_57 _ ⟨φ'_57, rfl, hz_57⟩
    refine z_ws (ws' := (cw cI h σ LT γ φ'_57)) rfl ?_
    have r_57 := (ray_r (σ 0) ((σ 1 k.toNat)) (c)).1
    rw [← hz_57] at r_57
    have hz_57 : z_57 = (ray (σ 0) (σ 1 k.toNat) c).1 := hz_57
    refine z_iconst C dX1_shinesOn_60 ?_
    have b_61 := bits_e (a := z_57) (b := 1) (by omega) (by omega)
    refine z_iand C (r := band z_57 1) dX1_shinesOn_61 (b_61.1.1) ?_
    refine z_if_ne C (tgt := 69) dX1_shinesOn_62 (by decide) (by omega) (fun c_62 => ?_) (fun c_62 => ?_)
    ·
      rw [hz_57] at c_62
      have hv : litB σ k.toNat c.toNat = false := by rw [hl, decide_eq_false c_62]; exact Bool.and_false _
      refine z_iconst C dX1_shinesOn_69 ?_
      exact hret _ _ _ _ dX1_shinesOn_70 (Or.inl rfl) ⟨_, rfl, by first | exact (bI_f hv).symm | exact (bI_t hv).symm⟩
    ·
      rw [hz_57] at c_62
      have hv : litB σ k.toNat c.toNat = true := by rw [hl, decide_eq_true c_62, decide_eq_true (by omega)]; rfl
      refine z_iconst C dX1_shinesOn_65 ?_
      refine z_goto C (tgt := 70) dX1_shinesOn_66 (by decide) ?_
      exact hret _ _ _ _ dX1_shinesOn_70 (Or.inr rfl) ⟨_, rfl, by first | exact (bI_f hv).symm | exact (bI_t hv).symm⟩
