def dgCM (σ : YS) (LI : Nat → Int) (d : Int64) : Nat → Int64
  | 0 => d
  | n + 1 => dst (dst (dgCM σ LI d n) (σ 0 n)) (LI n)
def dgLM (σ : YS) (LI : Nat → Int) (d : Int64) : Nat → Int64
  | 0 => d
  | n + 1 => dgF (fun wh => aboM σ LI n (wh : Int)) (dgLM σ LI d n) 4
def digM (σ : YS) (LI BR : Nat → Int) : Int64 := dgW σ LI (dgLM σ LI (dgCM σ LI (dgF (fun wh => couM σ LI BR (wh : Int)) 1447 8) 144) (nLa σ)) (nWa σ)
def adM (σ : YS) (k : Nat) : Nat → Int × Int
  | 0 => (-1, litC (lgV σ))
  | j + 1 => if nb (σ 1 k) (j : Int) ≠ -1 ∧ lampB σ (nb (σ 1 k) (j : Int)) = false ∧ (adM σ k j).2 < litC (lgV (sU σ 1 k (nb (σ 1 k) (j : Int)))) then (nb (σ 1 k) (j : Int), litC (lgV (sU σ 1 k (nb (σ 1 k) (j : Int))))) else adM σ k j
theorem adM_r (σ : YS) (k : Nat) : ∀ j : Nat, 0 ≤ (adM σ k j).2 ∧ (adM σ k j).2 ≤ 144 := by
  intro j
  induction j with
  | zero => exact litC_r _
  | succ j ih =>
    simp only [adM]
    split
    · exact litC_r _
    · exact ih
theorem sd_c {c : Int} {i : Nat} (hi : i < 4) : 0 ≤ fU (fU (fU (fU (fun _ => (0 : Int)) 0 2) 1 0) 2 1) 3 3 i ∧ fU (fU (fU (fU (fun _ => (0 : Int)) 0 2) 1 0) 2 1) 3 3 i < 4 ∧ bes c (fU (fU (fU (fU (fun _ => (0 : Int)) 0 2) 1 0) 2 1) 3 3 i) = nb c (i : Int) := by
  obtain ⟨e0, e1, e2, e3⟩ := bes_nb (c := c) (s := 0)
  rcases (show i = 0 ∨ i = 1 ∨ i = 2 ∨ i = 3 by omega) with rfl | rfl | rfl | rfl
  · exact ⟨by decide, by decide, e2⟩
  · exact ⟨by decide, by decide, e0⟩
  · exact ⟨by decide, by decide, e1⟩
  · exact ⟨by decide, by decide, e3⟩
set_option maxRecDepth 100000 in
theorem inU_X2_X2_digest : ∀ w ∈ u_ws RX2 TX2 14, w ∈ wsX2_digest := by decide +kernel
abbrev rm_X2_digest : Room := { frames := 7, cells := 0, slots := 0, locals := 164 }
set_option maxHeartbeats 4000000 in
set_option maxRecDepth 100000 in
theorem c_X2_digest (l : Launch) (D : va_G) (cI cJ : ClassId) (h : Nat → Nat) (σ : YS) (LI BR : Nat → Int) (γ : YS) (φ : Nat → Int) (θ : Int)  (hO : Ok σ) (hL : LI4 LI) (hB : BR9 BR) : Cl l yX2_digest wsX2_digest rm_X2_digest D [(cI, .int), (cJ, .long)] [.ref (h 0)] (mx cI h σ LI BR γ φ θ) (fun z u => ∃ φ' : Nat → Int, u = (mx cI h σ (lkF (lgV σ) LI 144) (lkF (brV σ) BR 144) γ φ' 0) ∧ z = digM σ (lkF (lgV σ) LI 144) (lkF (brV σ) BR 144)) := by
  refine z_ofl (own := RX2) (cc := cX2_digest) (maxL := 5) (lv := [(0, .ref (h 0))]) (by decide) rfl rfl (Nat.le_of_ble_eq_true rfl) rfl ?_
  intro p e s m args below meth cd Q A C hret
  have hn := hO.1
  have hm := hO.2.1
  have en := nLa_e hO
  have em := nWa_e hO
  refine z_aload_n C 0 dX2_digest_0 rfl ?_
  refine z_iconst C dX2_digest_1 ?_
  refine z_put C (ref := "ShadowWallsModel") (T := TX2) (N := 14) (ci := 2) (ty := .int) (ws' := (mx cI h σ LI BR γ φ 0)) 0 0 inU_X2_X2_digest tyX2 tyX2_ok nmX2 rfl rfl (by decide) (by decide +kernel) (fun _ h9 => h9) rfl (by decide +kernel) (rfl) (rfl) (Nat.le_of_ble_eq_true rfl) rfl dX2_digest_2 ?_
  refine z_aload_n C 0 dX2_digest_5 rfl ?_
  refine z_callVi C (As := []) (st := []) (y := yX2_look) (w := wsX2_look) (rm := rm_X2_look) (wr := []) (k' := 0) (n' := 0) [0, 1, 2, 3, 4, 5, 6, 7, 8] [] 0 (c_X2_look l D cI cJ h σ LI BR γ φ 0  hO hL) (cwV 0 C.1.2.2.2.2 gX2_digest_X2_look rfl rfl rfl (by decide +kernel) ⟨Nat.le_of_ble_eq_true rfl, Nat.le_of_ble_eq_true rfl⟩) rfl rfl rfl rfl rfl (by decide) rfl rfl rfl rfl (Nat.le_of_ble_eq_true rfl) rfl rfl ⟨Nat.le_of_ble_eq_true rfl, Nat.le_of_ble_eq_true rfl⟩ dX2_digest_6 ?_
  rintro z_6 _ ⟨φ'_6, rfl, hz_6⟩
  refine z_ws (ws' := (mx cI h σ (lkF (lgV σ) LI 144) (lkF (brV σ) BR 144) γ φ'_6 0)) rfl ?_
  have r_6 := smB_r (fun c => decide (lgV σ c ≠ 0)) 144
  rw [← hz_6] at r_6
  have hz_6 : z_6 = sm (fun c => bI (decide (lgV σ c ≠ 0))) 144 := hz_6
  refine z_pop C dX2_digest_9 rfl ?_
  refine z_ldc2 C (v := 1447) (by decide +kernel) dX2_digest_10 ?_
  refine z_lstore_n C [(1, .long 1447), (0, .ref (h 0))] dX2_digest_13 (by decide) rfl ?_
  refine z_iconst C dX2_digest_14 ?_
  refine z_istore_n C [(3, vI 0), (1, .long 1447), (0, .ref (h 0))] dX2_digest_15 (by decide) rfl ?_
  have L_16 : ∀ (d9 i : Nat) (φ1 : Nat → Int) (hi : i ≤ 8) (hd : 8 + 1 ≤ i + d9), Zs p l e rm_X2_digest s m args below meth cd Q A D 5 16 [(0, .ref (h 0)), (1, .long (dgF (fun wh => couM σ (lkF (lgV σ) LI 144) (lkF (brV σ) BR 144) (wh : Int)) 1447 i)), (3, vI (i : Int))] [] (mx cI h σ (lkF (lgV σ) LI 144) (lkF (brV σ) BR 144) γ φ1 0) 0 0 := by
    intro d9
    induction d9 with
    | zero =>
      intro i φ1 hi hd
      exfalso; omega
    | succ d9 ih9 =>
      intro i φ1 hi hd
      refine z_iload_n C 2 dX2_digest_16 rfl ?_
      refine z_bipush C dX2_digest_17 (by decide) ?_
      refine z_icmp_ge C (tgt := 41) dX2_digest_19 (by decide) (by omega) (by omega) (fun c_19 => ?_) (fun c_19 => ?_)
      ·
        obtain rfl : i = 8 := by omega
        refine z_sub (lv' := [(0, .ref (h 0)), (1, .long (dgF (fun wh => couM σ (lkF (lgV σ) LI 144) (lkF (brV σ) BR 144) (wh : Int)) 1447 8))]) [0, 1] rfl ?_
        refine z_iconst C dX2_digest_41 ?_
        refine z_istore_n C [(3, vI 0), (0, .ref (h 0)), (1, .long (dgF (fun wh => couM σ (lkF (lgV σ) LI 144) (lkF (brV σ) BR 144) (wh : Int)) 1447 8))] dX2_digest_42 (by decide) rfl ?_
        have L_43 : ∀ (d9 i : Nat) (φ1 : Nat → Int) (hi : i ≤ 144) (hd : 144 + 1 ≤ i + d9), Zs p l e rm_X2_digest s m args below meth cd Q A D 5 43 [(0, .ref (h 0)), (1, .long (dgCM σ (lkF (lgV σ) LI 144) (dgF (fun wh => couM σ (lkF (lgV σ) LI 144) (lkF (brV σ) BR 144) (wh : Int)) 1447 8) i)), (3, vI (i : Int))] [] (mx cI h σ (lkF (lgV σ) LI 144) (lkF (brV σ) BR 144) γ φ1 0) 0 0 := by
          intro d9
          induction d9 with
          | zero =>
            intro i φ1 hi hd
            exfalso; omega
          | succ d9 ih9 =>
            intro i φ1 hi hd
            refine z_iload_n C 2 dX2_digest_43 rfl ?_
            refine z_sipush C dX2_digest_44 (by decide) ?_
            refine z_icmp_ge C (tgt := 82) dX2_digest_47 (by decide) (by omega) (by omega) (fun c_47 => ?_) (fun c_47 => ?_)
            ·
              obtain rfl : i = 144 := by omega
              refine z_sub (lv' := [(0, .ref (h 0)), (1, .long (dgCM σ (lkF (lgV σ) LI 144) (dgF (fun wh => couM σ (lkF (lgV σ) LI 144) (lkF (brV σ) BR 144) (wh : Int)) 1447 8) 144))]) [0, 1] rfl ?_
              refine z_iconst C dX2_digest_82 ?_
              refine z_istore_n C [(3, vI 0), (0, .ref (h 0)), (1, .long (dgCM σ (lkF (lgV σ) LI 144) (dgF (fun wh => couM σ (lkF (lgV σ) LI 144) (lkF (brV σ) BR 144) (wh : Int)) 1447 8) 144))] dX2_digest_83 (by decide) rfl ?_
              have L_84 : ∀ (d9 i : Nat) (φ1 : Nat → Int) (hi : i ≤ (nLa σ)) (hd : (nLa σ) + 1 ≤ i + d9), Zs p l e rm_X2_digest s m args below meth cd Q A D 5 84 [(0, .ref (h 0)), (1, .long (dgLM σ (lkF (lgV σ) LI 144) (dgCM σ (lkF (lgV σ) LI 144) (dgF (fun wh => couM σ (lkF (lgV σ) LI 144) (lkF (brV σ) BR 144) (wh : Int)) 1447 8) 144) i)), (3, vI (i : Int))] [] (mx cI h σ (lkF (lgV σ) LI 144) (lkF (brV σ) BR 144) γ φ1 0) 0 0 := by
                intro d9
                induction d9 with
                | zero =>
                  intro i φ1 hi hd
                  exfalso; omega
                | succ d9 ih9 =>
                  intro i φ1 hi hd
                  refine z_iload_n C 2 dX2_digest_84 rfl ?_
                  refine z_aload_n C 0 dX2_digest_85 rfl ?_
                  refine z_get C (v := vI (σ 4 0)) (ref := "ShadowWallsModel") (T := TX2) (N := 14) (ci := 2) 0 2 inU_X2_X2_digest rfl rfl (by decide) (by decide +kernel) (fun _ h9 => h9) rfl dX2_digest_86 ?_
                  refine z_icmp_ge C (tgt := 128) dX2_digest_89 (by decide) (by omega) (by omega) (fun c_89 => ?_) (fun c_89 => ?_)
                  ·
                    obtain rfl : i = (nLa σ) := by omega
                    refine z_sub (lv' := [(0, .ref (h 0)), (1, .long (dgLM σ (lkF (lgV σ) LI 144) (dgCM σ (lkF (lgV σ) LI 144) (dgF (fun wh => couM σ (lkF (lgV σ) LI 144) (lkF (brV σ) BR 144) (wh : Int)) 1447 8) 144) (nLa σ)))]) [0, 1] rfl ?_
                    refine z_iconst C dX2_digest_128 ?_
                    refine z_istore_n C [(3, vI 0), (0, .ref (h 0)), (1, .long (dgLM σ (lkF (lgV σ) LI 144) (dgCM σ (lkF (lgV σ) LI 144) (dgF (fun wh => couM σ (lkF (lgV σ) LI 144) (lkF (brV σ) BR 144) (wh : Int)) 1447 8) 144) (nLa σ)))] dX2_digest_129 (by decide) rfl ?_
                    have L_130 : ∀ (d9 i : Nat) (φ1 : Nat → Int) (hi : i ≤ (nWa σ)) (hd : (nWa σ) + 1 ≤ i + d9), Zs p l e rm_X2_digest s m args below meth cd Q A D 5 130 [(0, .ref (h 0)), (1, .long (dgW σ (lkF (lgV σ) LI 144) (dgLM σ (lkF (lgV σ) LI 144) (dgCM σ (lkF (lgV σ) LI 144) (dgF (fun wh => couM σ (lkF (lgV σ) LI 144) (lkF (brV σ) BR 144) (wh : Int)) 1447 8) 144) (nLa σ)) i)), (3, vI (i : Int))] [] (mx cI h σ (lkF (lgV σ) LI 144) (lkF (brV σ) BR 144) γ φ1 0) 0 0 := by
                      intro d9
                      induction d9 with
                      | zero =>
                        intro i φ1 hi hd
                        exfalso; omega
                      | succ d9 ih9 =>
                        intro i φ1 hi hd
                        refine z_iload_n C 2 dX2_digest_130 rfl ?_
                        refine z_aload_n C 0 dX2_digest_131 rfl ?_
                        refine z_get C (v := vI (σ 4 1)) (ref := "ShadowWallsModel") (T := TX2) (N := 14) (ci := 2) 0 5 inU_X2_X2_digest rfl rfl (by decide) (by decide +kernel) (fun _ h9 => h9) rfl dX2_digest_132 ?_
                        refine z_icmp_ge C (tgt := 174) dX2_digest_135 (by decide) (by omega) (by omega) (fun c_135 => ?_) (fun c_135 => ?_)
                        ·
                          obtain rfl : i = (nWa σ) := by omega
                          refine z_sub (lv' := [(0, .ref (h 0)), (1, .long (dgW σ (lkF (lgV σ) LI 144) (dgLM σ (lkF (lgV σ) LI 144) (dgCM σ (lkF (lgV σ) LI 144) (dgF (fun wh => couM σ (lkF (lgV σ) LI 144) (lkF (brV σ) BR 144) (wh : Int)) 1447 8) 144) (nLa σ)) (nWa σ)))]) [0, 1] rfl ?_
                          refine z_lload_n C 1 dX2_digest_174 rfl ?_
                          exact hret _ _ _ _ dX2_digest_175 ⟨_, rfl, by rfl⟩
                        ·
                          refine z_iconst C dX2_digest_138 ?_
                          refine z_istore C [(4, vI 0), (0, .ref (h 0)), (1, .long (dgW σ (lkF (lgV σ) LI 144) (dgLM σ (lkF (lgV σ) LI 144) (dgCM σ (lkF (lgV σ) LI 144) (dgF (fun wh => couM σ (lkF (lgV σ) LI 144) (lkF (brV σ) BR 144) (wh : Int)) 1447 8) 144) (nLa σ)) i)), (3, vI (i : Int))] dX2_digest_139 (by decide) rfl ?_
                          have L_141 : ∀ (d8 j : Nat) (φ2 : Nat → Int) (hj : j ≤ 5) (hd2 : 6 ≤ j + d8), Zs p l e rm_X2_digest s m args below meth cd Q A D 5 141 [(0, .ref (h 0)), (1, .long (dgF (fun wh => seaV σ (lkF (lgV σ) LI 144) i (wh : Int)) (dgW σ (lkF (lgV σ) LI 144) (dgLM σ (lkF (lgV σ) LI 144) (dgCM σ (lkF (lgV σ) LI 144) (dgF (fun wh => couM σ (lkF (lgV σ) LI 144) (lkF (brV σ) BR 144) (wh : Int)) 1447 8) 144) (nLa σ)) i) j)), (3, vI (i : Int)), (4, vI (j : Int))] [] (mx cI h σ (lkF (lgV σ) LI 144) (lkF (brV σ) BR 144) γ φ2 0) 0 0 := by
                            intro d8
                            induction d8 with
                            | zero =>
                              intro j φ2 hj hd2
                              exfalso; omega
                            | succ d8 ih8 =>
                              intro j φ2 hj hd2
                              refine z_iload C 3 dX2_digest_141 rfl ?_
                              refine z_iconst C dX2_digest_143 ?_
                              refine z_icmp_ge C (tgt := 168) dX2_digest_144 (by decide) (by omega) (by omega) (fun c_144 => ?_) (fun c_144 => ?_)
                              ·
                                refine z_iinc C 2 [(3, vI ((i : Int) + 1)), (0, .ref (h 0)), (1, .long (dgF (fun wh => seaV σ (lkF (lgV σ) LI 144) i (wh : Int)) (dgW σ (lkF (lgV σ) LI 144) (dgLM σ (lkF (lgV σ) LI 144) (dgCM σ (lkF (lgV σ) LI 144) (dgF (fun wh => couM σ (lkF (lgV σ) LI 144) (lkF (brV σ) BR 144) (wh : Int)) 1447 8) 144) (nLa σ)) i) j)), (4, vI (j : Int))] dX2_digest_168 rfl (by decide) rfl ?_
                                refine z_goto C (tgt := 130) dX2_digest_171 (by decide) ?_
                                refine z_chgl 2 (x' := dgW σ (lkF (lgV σ) LI 144) (dgLM σ (lkF (lgV σ) LI 144) (dgCM σ (lkF (lgV σ) LI 144) (dgF (fun wh => couM σ (lkF (lgV σ) LI 144) (lkF (brV σ) BR 144) (wh : Int)) 1447 8) 144) (nLa σ)) (i + 1)) (lv' := [(3, vI ((i : Int) + 1)), (0, .ref (h 0)), (1, .long (dgW σ (lkF (lgV σ) LI 144) (dgLM σ (lkF (lgV σ) LI 144) (dgCM σ (lkF (lgV σ) LI 144) (dgF (fun wh => couM σ (lkF (lgV σ) LI 144) (lkF (brV σ) BR 144) (wh : Int)) 1447 8) 144) (nLa σ)) (i + 1))), (4, vI (j : Int))]) rfl (by rw [show j = 5 by omega]; rfl) rfl ?_
                                refine z_chg 0 (x' := ((i + 1 : Nat) : Int)) (lv' := [(3, vI ((i + 1 : Nat) : Int)), (0, .ref (h 0)), (1, .long (dgW σ (lkF (lgV σ) LI 144) (dgLM σ (lkF (lgV σ) LI 144) (dgCM σ (lkF (lgV σ) LI 144) (dgF (fun wh => couM σ (lkF (lgV σ) LI 144) (lkF (brV σ) BR 144) (wh : Int)) 1447 8) 144) (nLa σ)) (i + 1))), (4, vI (j : Int))]) rfl (by omega) rfl ?_
                                refine z_sub (lv' := [(0, .ref (h 0)), (1, .long (dgW σ (lkF (lgV σ) LI 144) (dgLM σ (lkF (lgV σ) LI 144) (dgCM σ (lkF (lgV σ) LI 144) (dgF (fun wh => couM σ (lkF (lgV σ) LI 144) (lkF (brV σ) BR 144) (wh : Int)) 1447 8) 144) (nLa σ)) (i + 1))), (3, vI ((i + 1 : Nat) : Int))]) [1, 2, 0] rfl ?_
                                exact ih9 (i + 1) φ2 (by omega) (by omega)
                              ·
                                refine z_lload_n C 1 dX2_digest_147 rfl ?_
                                refine z_ldc2 C (v := 31) (by decide +kernel) dX2_digest_148 ?_
                                refine z_lmul C dX2_digest_151 ?_
                                refine z_aload_n C 0 dX2_digest_152 rfl ?_
                                refine z_iload_n C 2 dX2_digest_153 rfl ?_
                                refine z_iload C 3 dX2_digest_154 rfl ?_
                                refine z_callVi C (As := [vI (i : Int), vI (j : Int)]) (st := [.long ((dgF (fun wh => seaV σ (lkF (lgV σ) LI 144) i (wh : Int)) (dgW σ (lkF (lgV σ) LI 144) (dgLM σ (lkF (lgV σ) LI 144) (dgCM σ (lkF (lgV σ) LI 144) (dgF (fun wh => couM σ (lkF (lgV σ) LI 144) (lkF (brV σ) BR 144) (wh : Int)) 1447 8) 144) (nLa σ)) i) j) * 31)]) (y := yX2_seatTold) (w := wsX2_seatTold) (rm := rm_X2_seatTold) (wr := []) (k' := 0) (n' := 0) [0, 1, 2, 3, 4, 5, 6, 7, 8] [] 0 (c_X2_seatTold l D cI cJ h σ (lkF (lgV σ) LI 144) (lkF (brV σ) BR 144) γ φ2 0 (i : Int) (j : Int) (by omega) (by omega) hO (lkL_r hO hL 144)) (cwV 2 C.1.2.2.2.2 gX2_digest_X2_seatTold rfl rfl rfl (by decide +kernel) ⟨Nat.le_of_ble_eq_true rfl, Nat.le_of_ble_eq_true rfl⟩) rfl rfl rfl rfl rfl (by decide) rfl rfl rfl rfl (Nat.le_of_ble_eq_true rfl) rfl rfl ⟨Nat.le_of_ble_eq_true rfl, Nat.le_of_ble_eq_true rfl⟩ dX2_digest_156 ?_
                                rintro z_156 _ ⟨φ'_156, rfl, hz_156⟩
                                refine z_ws (ws' := (mx cI h σ ((lkF (lgV σ) LI 144)) ((lkF (brV σ) BR 144)) γ φ'_156 0)) rfl ?_
                                have hz_156 : z_156 = seaV σ (lkF (lgV σ) LI 144) i (j : Int) := hz_156
                                refine z_i2l C dX2_digest_159 ?_
                                refine z_ladd C dX2_digest_160 ?_
                                refine z_lstore_n C [(1, .long (((dgF (fun wh => seaV σ (lkF (lgV σ) LI 144) i (wh : Int)) (dgW σ (lkF (lgV σ) LI 144) (dgLM σ (lkF (lgV σ) LI 144) (dgCM σ (lkF (lgV σ) LI 144) (dgF (fun wh => couM σ (lkF (lgV σ) LI 144) (lkF (brV σ) BR 144) (wh : Int)) 1447 8) 144) (nLa σ)) i) j) * 31) + ((iI z_156).toInt64))), (0, .ref (h 0)), (3, vI (i : Int)), (4, vI (j : Int))] dX2_digest_161 (by decide) rfl ?_
                                refine z_iinc C 3 [(4, vI ((j : Int) + 1)), (1, .long (((dgF (fun wh => seaV σ (lkF (lgV σ) LI 144) i (wh : Int)) (dgW σ (lkF (lgV σ) LI 144) (dgLM σ (lkF (lgV σ) LI 144) (dgCM σ (lkF (lgV σ) LI 144) (dgF (fun wh => couM σ (lkF (lgV σ) LI 144) (lkF (brV σ) BR 144) (wh : Int)) 1447 8) 144) (nLa σ)) i) j) * 31) + ((iI z_156).toInt64))), (0, .ref (h 0)), (3, vI (i : Int))] dX2_digest_162 rfl (by decide) rfl ?_
                                refine z_goto C (tgt := 141) dX2_digest_165 (by decide) ?_
                                refine z_chgl 1 (x' := dgF (fun wh => seaV σ (lkF (lgV σ) LI 144) i (wh : Int)) (dgW σ (lkF (lgV σ) LI 144) (dgLM σ (lkF (lgV σ) LI 144) (dgCM σ (lkF (lgV σ) LI 144) (dgF (fun wh => couM σ (lkF (lgV σ) LI 144) (lkF (brV σ) BR 144) (wh : Int)) 1447 8) 144) (nLa σ)) i) (j + 1)) (lv' := [(4, vI ((j : Int) + 1)), (1, .long (dgF (fun wh => seaV σ (lkF (lgV σ) LI 144) i (wh : Int)) (dgW σ (lkF (lgV σ) LI 144) (dgLM σ (lkF (lgV σ) LI 144) (dgCM σ (lkF (lgV σ) LI 144) (dgF (fun wh => couM σ (lkF (lgV σ) LI 144) (lkF (brV σ) BR 144) (wh : Int)) 1447 8) 144) (nLa σ)) i) (j + 1))), (0, .ref (h 0)), (3, vI (i : Int))]) rfl (by rw [hz_156]; rfl) rfl ?_
                                refine z_chg 0 (x' := ((j + 1 : Nat) : Int)) (lv' := [(4, vI ((j + 1 : Nat) : Int)), (1, .long (dgF (fun wh => seaV σ (lkF (lgV σ) LI 144) i (wh : Int)) (dgW σ (lkF (lgV σ) LI 144) (dgLM σ (lkF (lgV σ) LI 144) (dgCM σ (lkF (lgV σ) LI 144) (dgF (fun wh => couM σ (lkF (lgV σ) LI 144) (lkF (brV σ) BR 144) (wh : Int)) 1447 8) 144) (nLa σ)) i) (j + 1))), (0, .ref (h 0)), (3, vI (i : Int))]) rfl (by omega) rfl ?_
                                refine z_sub (lv' := [(0, .ref (h 0)), (1, .long (dgF (fun wh => seaV σ (lkF (lgV σ) LI 144) i (wh : Int)) (dgW σ (lkF (lgV σ) LI 144) (dgLM σ (lkF (lgV σ) LI 144) (dgCM σ (lkF (lgV σ) LI 144) (dgF (fun wh => couM σ (lkF (lgV σ) LI 144) (lkF (brV σ) BR 144) (wh : Int)) 1447 8) 144) (nLa σ)) i) (j + 1))), (3, vI (i : Int)), (4, vI ((j + 1 : Nat) : Int))]) [2, 1, 3, 0] rfl ?_
                                exact ih8 (j + 1) φ'_156 (by omega) (by omega)
                          refine z_sub (lv' := [(0, .ref (h 0)), (1, .long (dgW σ (lkF (lgV σ) LI 144) (dgLM σ (lkF (lgV σ) LI 144) (dgCM σ (lkF (lgV σ) LI 144) (dgF (fun wh => couM σ (lkF (lgV σ) LI 144) (lkF (brV σ) BR 144) (wh : Int)) 1447 8) 144) (nLa σ)) i)), (3, vI (i : Int)), (4, vI 0)]) [1, 2, 3, 0] rfl ?_
                          exact L_141 6 0 φ1 (by omega) (by omega)
                    refine z_sub (lv' := [(0, .ref (h 0)), (1, .long (dgLM σ (lkF (lgV σ) LI 144) (dgCM σ (lkF (lgV σ) LI 144) (dgF (fun wh => couM σ (lkF (lgV σ) LI 144) (lkF (brV σ) BR 144) (wh : Int)) 1447 8) 144) (nLa σ))), (3, vI 0)]) [1, 2, 0] rfl ?_
                    exact L_130 ((nWa σ) + 1) 0 φ1 (Nat.zero_le _) (by omega)
                  ·
                    refine z_iconst C dX2_digest_92 ?_
                    refine z_istore C [(4, vI 0), (0, .ref (h 0)), (1, .long (dgLM σ (lkF (lgV σ) LI 144) (dgCM σ (lkF (lgV σ) LI 144) (dgF (fun wh => couM σ (lkF (lgV σ) LI 144) (lkF (brV σ) BR 144) (wh : Int)) 1447 8) 144) i)), (3, vI (i : Int))] dX2_digest_93 (by decide) rfl ?_
                    have L_95 : ∀ (d8 j : Nat) (φ2 : Nat → Int) (hj : j ≤ 4) (hd2 : 5 ≤ j + d8), Zs p l e rm_X2_digest s m args below meth cd Q A D 5 95 [(0, .ref (h 0)), (1, .long (dgF (fun wh => aboM σ (lkF (lgV σ) LI 144) i (wh : Int)) (dgLM σ (lkF (lgV σ) LI 144) (dgCM σ (lkF (lgV σ) LI 144) (dgF (fun wh => couM σ (lkF (lgV σ) LI 144) (lkF (brV σ) BR 144) (wh : Int)) 1447 8) 144) i) j)), (3, vI (i : Int)), (4, vI (j : Int))] [] (mx cI h σ (lkF (lgV σ) LI 144) (lkF (brV σ) BR 144) γ φ2 0) 0 0 := by
                      intro d8
                      induction d8 with
                      | zero =>
                        intro j φ2 hj hd2
                        exfalso; omega
                      | succ d8 ih8 =>
                        intro j φ2 hj hd2
                        refine z_iload C 3 dX2_digest_95 rfl ?_
                        refine z_iconst C dX2_digest_97 ?_
                        refine z_icmp_ge C (tgt := 122) dX2_digest_98 (by decide) (by omega) (by omega) (fun c_98 => ?_) (fun c_98 => ?_)
                        ·
                          refine z_iinc C 2 [(3, vI ((i : Int) + 1)), (0, .ref (h 0)), (1, .long (dgF (fun wh => aboM σ (lkF (lgV σ) LI 144) i (wh : Int)) (dgLM σ (lkF (lgV σ) LI 144) (dgCM σ (lkF (lgV σ) LI 144) (dgF (fun wh => couM σ (lkF (lgV σ) LI 144) (lkF (brV σ) BR 144) (wh : Int)) 1447 8) 144) i) j)), (4, vI (j : Int))] dX2_digest_122 rfl (by decide) rfl ?_
                          refine z_goto C (tgt := 84) dX2_digest_125 (by decide) ?_
                          refine z_chgl 2 (x' := dgLM σ (lkF (lgV σ) LI 144) (dgCM σ (lkF (lgV σ) LI 144) (dgF (fun wh => couM σ (lkF (lgV σ) LI 144) (lkF (brV σ) BR 144) (wh : Int)) 1447 8) 144) (i + 1)) (lv' := [(3, vI ((i : Int) + 1)), (0, .ref (h 0)), (1, .long (dgLM σ (lkF (lgV σ) LI 144) (dgCM σ (lkF (lgV σ) LI 144) (dgF (fun wh => couM σ (lkF (lgV σ) LI 144) (lkF (brV σ) BR 144) (wh : Int)) 1447 8) 144) (i + 1))), (4, vI (j : Int))]) rfl (by rw [show j = 4 by omega]; rfl) rfl ?_
                          refine z_chg 0 (x' := ((i + 1 : Nat) : Int)) (lv' := [(3, vI ((i + 1 : Nat) : Int)), (0, .ref (h 0)), (1, .long (dgLM σ (lkF (lgV σ) LI 144) (dgCM σ (lkF (lgV σ) LI 144) (dgF (fun wh => couM σ (lkF (lgV σ) LI 144) (lkF (brV σ) BR 144) (wh : Int)) 1447 8) 144) (i + 1))), (4, vI (j : Int))]) rfl (by omega) rfl ?_
                          refine z_sub (lv' := [(0, .ref (h 0)), (1, .long (dgLM σ (lkF (lgV σ) LI 144) (dgCM σ (lkF (lgV σ) LI 144) (dgF (fun wh => couM σ (lkF (lgV σ) LI 144) (lkF (brV σ) BR 144) (wh : Int)) 1447 8) 144) (i + 1))), (3, vI ((i + 1 : Nat) : Int))]) [1, 2, 0] rfl ?_
                          exact ih9 (i + 1) φ2 (by omega) (by omega)
                        ·
                          refine z_lload_n C 1 dX2_digest_101 rfl ?_
                          refine z_ldc2 C (v := 31) (by decide +kernel) dX2_digest_102 ?_
                          refine z_lmul C dX2_digest_105 ?_
                          refine z_aload_n C 0 dX2_digest_106 rfl ?_
                          refine z_iload_n C 2 dX2_digest_107 rfl ?_
                          refine z_iload C 3 dX2_digest_108 rfl ?_
                          refine z_callVi C (As := [vI (i : Int), vI (j : Int)]) (st := [.long ((dgF (fun wh => aboM σ (lkF (lgV σ) LI 144) i (wh : Int)) (dgLM σ (lkF (lgV σ) LI 144) (dgCM σ (lkF (lgV σ) LI 144) (dgF (fun wh => couM σ (lkF (lgV σ) LI 144) (lkF (brV σ) BR 144) (wh : Int)) 1447 8) 144) i) j) * 31)]) (y := yX2_lampTold) (w := wsX2_lampTold) (rm := rm_X2_lampTold) (wr := []) (k' := 0) (n' := 0) [0, 1, 2, 3, 4, 5, 6, 7, 8] [] 0 (c_X2_lampTold l D cI cJ h σ (lkF (lgV σ) LI 144) (lkF (brV σ) BR 144) γ φ2 0 (i : Int) (j : Int) (by omega) (by omega) hO (lkL_r hO hL 144)) (cwV 2 C.1.2.2.2.2 gX2_digest_X2_lampTold rfl rfl rfl (by decide +kernel) ⟨Nat.le_of_ble_eq_true rfl, Nat.le_of_ble_eq_true rfl⟩) rfl rfl rfl rfl rfl (by decide) rfl rfl rfl rfl (Nat.le_of_ble_eq_true rfl) rfl rfl ⟨Nat.le_of_ble_eq_true rfl, Nat.le_of_ble_eq_true rfl⟩ dX2_digest_110 ?_
                          rintro z_110 _ ⟨φ'_110, rfl, hz_110⟩
                          refine z_ws (ws' := (mx cI h σ ((lkF (lgV σ) LI 144)) ((lkF (brV σ) BR 144)) γ φ'_110 0)) rfl ?_
                          have hz_110 : z_110 = aboM σ (lkF (lgV σ) LI 144) i (j : Int) := hz_110
                          refine z_i2l C dX2_digest_113 ?_
                          refine z_ladd C dX2_digest_114 ?_
                          refine z_lstore_n C [(1, .long (((dgF (fun wh => aboM σ (lkF (lgV σ) LI 144) i (wh : Int)) (dgLM σ (lkF (lgV σ) LI 144) (dgCM σ (lkF (lgV σ) LI 144) (dgF (fun wh => couM σ (lkF (lgV σ) LI 144) (lkF (brV σ) BR 144) (wh : Int)) 1447 8) 144) i) j) * 31) + ((iI z_110).toInt64))), (0, .ref (h 0)), (3, vI (i : Int)), (4, vI (j : Int))] dX2_digest_115 (by decide) rfl ?_
                          refine z_iinc C 3 [(4, vI ((j : Int) + 1)), (1, .long (((dgF (fun wh => aboM σ (lkF (lgV σ) LI 144) i (wh : Int)) (dgLM σ (lkF (lgV σ) LI 144) (dgCM σ (lkF (lgV σ) LI 144) (dgF (fun wh => couM σ (lkF (lgV σ) LI 144) (lkF (brV σ) BR 144) (wh : Int)) 1447 8) 144) i) j) * 31) + ((iI z_110).toInt64))), (0, .ref (h 0)), (3, vI (i : Int))] dX2_digest_116 rfl (by decide) rfl ?_
                          refine z_goto C (tgt := 95) dX2_digest_119 (by decide) ?_
                          refine z_chgl 1 (x' := dgF (fun wh => aboM σ (lkF (lgV σ) LI 144) i (wh : Int)) (dgLM σ (lkF (lgV σ) LI 144) (dgCM σ (lkF (lgV σ) LI 144) (dgF (fun wh => couM σ (lkF (lgV σ) LI 144) (lkF (brV σ) BR 144) (wh : Int)) 1447 8) 144) i) (j + 1)) (lv' := [(4, vI ((j : Int) + 1)), (1, .long (dgF (fun wh => aboM σ (lkF (lgV σ) LI 144) i (wh : Int)) (dgLM σ (lkF (lgV σ) LI 144) (dgCM σ (lkF (lgV σ) LI 144) (dgF (fun wh => couM σ (lkF (lgV σ) LI 144) (lkF (brV σ) BR 144) (wh : Int)) 1447 8) 144) i) (j + 1))), (0, .ref (h 0)), (3, vI (i : Int))]) rfl (by rw [hz_110]; rfl) rfl ?_
                          refine z_chg 0 (x' := ((j + 1 : Nat) : Int)) (lv' := [(4, vI ((j + 1 : Nat) : Int)), (1, .long (dgF (fun wh => aboM σ (lkF (lgV σ) LI 144) i (wh : Int)) (dgLM σ (lkF (lgV σ) LI 144) (dgCM σ (lkF (lgV σ) LI 144) (dgF (fun wh => couM σ (lkF (lgV σ) LI 144) (lkF (brV σ) BR 144) (wh : Int)) 1447 8) 144) i) (j + 1))), (0, .ref (h 0)), (3, vI (i : Int))]) rfl (by omega) rfl ?_
                          refine z_sub (lv' := [(0, .ref (h 0)), (1, .long (dgF (fun wh => aboM σ (lkF (lgV σ) LI 144) i (wh : Int)) (dgLM σ (lkF (lgV σ) LI 144) (dgCM σ (lkF (lgV σ) LI 144) (dgF (fun wh => couM σ (lkF (lgV σ) LI 144) (lkF (brV σ) BR 144) (wh : Int)) 1447 8) 144) i) (j + 1))), (3, vI (i : Int)), (4, vI ((j + 1 : Nat) : Int))]) [2, 1, 3, 0] rfl ?_
                          exact ih8 (j + 1) φ'_110 (by omega) (by omega)
                    refine z_sub (lv' := [(0, .ref (h 0)), (1, .long (dgLM σ (lkF (lgV σ) LI 144) (dgCM σ (lkF (lgV σ) LI 144) (dgF (fun wh => couM σ (lkF (lgV σ) LI 144) (lkF (brV σ) BR 144) (wh : Int)) 1447 8) 144) i)), (3, vI (i : Int)), (4, vI 0)]) [1, 2, 3, 0] rfl ?_
                    exact L_95 5 0 φ1 (by omega) (by omega)
              refine z_sub (lv' := [(0, .ref (h 0)), (1, .long (dgCM σ (lkF (lgV σ) LI 144) (dgF (fun wh => couM σ (lkF (lgV σ) LI 144) (lkF (brV σ) BR 144) (wh : Int)) 1447 8) 144)), (3, vI 0)]) [1, 2, 0] rfl ?_
              exact L_84 ((nLa σ) + 1) 0 φ1 (Nat.zero_le _) (by omega)
            ·
              refine z_lload_n C 1 dX2_digest_50 rfl ?_
              refine z_ldc2 C (v := 31) (by decide +kernel) dX2_digest_51 ?_
              refine z_lmul C dX2_digest_54 ?_
              refine z_aload_n C 0 dX2_digest_55 rfl ?_
              refine z_get C (v := .ref (h 1)) (ref := "ShadowWallsModel") (T := TX2) (N := 14) (ci := 2) 0 1 inU_X2_X2_digest rfl rfl (by decide) (by decide +kernel) (fun _ h9 => h9) rfl dX2_digest_56 ?_
              refine z_iload_n C 2 dX2_digest_59 rfl ?_
              refine z_iald C (cA := cI) (N := 144) (f := σ 0) 1 0 rfl rfl (by decide) (by omega) dX2_digest_60 ?_
              refine z_st (v' := σ 0 i) rfl ?_
              refine z_i2l C dX2_digest_61 ?_
              refine z_ladd C dX2_digest_62 ?_
              refine z_ldc2 C (v := 31) (by decide +kernel) dX2_digest_63 ?_
              refine z_lmul C dX2_digest_66 ?_
              refine z_aload_n C 0 dX2_digest_67 rfl ?_
              refine z_get C (v := .ref (h 5)) (ref := "ShadowWallsModel") (T := TX2) (N := 14) (ci := 2) 0 8 inU_X2_X2_digest rfl rfl (by decide) (by decide +kernel) (fun _ h9 => h9) rfl dX2_digest_68 ?_
              refine z_iload_n C 2 dX2_digest_71 rfl ?_
              refine z_iald C (cA := cI) (N := 144) (f := lkF (lgV σ) LI 144) 5 0 rfl rfl (by decide) (by omega) dX2_digest_72 ?_
              refine z_st (v' := lkF (lgV σ) LI 144 i) rfl ?_
              refine z_i2l C dX2_digest_73 ?_
              refine z_ladd C dX2_digest_74 ?_
              refine z_lstore_n C [(1, .long (((((dgCM σ (lkF (lgV σ) LI 144) (dgF (fun wh => couM σ (lkF (lgV σ) LI 144) (lkF (brV σ) BR 144) (wh : Int)) 1447 8) i) * 31) + ((iI (σ 0 i)).toInt64)) * 31) + ((iI (lkF (lgV σ) LI 144 i)).toInt64))), (0, .ref (h 0)), (3, vI (i : Int))] dX2_digest_75 (by decide) rfl ?_
              refine z_iinc C 2 [(3, vI ((i : Int) + 1)), (1, .long (((((dgCM σ (lkF (lgV σ) LI 144) (dgF (fun wh => couM σ (lkF (lgV σ) LI 144) (lkF (brV σ) BR 144) (wh : Int)) 1447 8) i) * 31) + ((iI (σ 0 i)).toInt64)) * 31) + ((iI (lkF (lgV σ) LI 144 i)).toInt64))), (0, .ref (h 0))] dX2_digest_76 rfl (by decide) rfl ?_
              refine z_goto C (tgt := 43) dX2_digest_79 (by decide) ?_
              refine z_chgl 1 (x' := dgCM σ (lkF (lgV σ) LI 144) (dgF (fun wh => couM σ (lkF (lgV σ) LI 144) (lkF (brV σ) BR 144) (wh : Int)) 1447 8) (i + 1)) (lv' := [(3, vI ((i : Int) + 1)), (1, .long (dgCM σ (lkF (lgV σ) LI 144) (dgF (fun wh => couM σ (lkF (lgV σ) LI 144) (lkF (brV σ) BR 144) (wh : Int)) 1447 8) (i + 1))), (0, .ref (h 0))]) rfl (rfl) rfl ?_
              refine z_chg 0 (x' := ((i + 1 : Nat) : Int)) (lv' := [(3, vI ((i + 1 : Nat) : Int)), (1, .long (dgCM σ (lkF (lgV σ) LI 144) (dgF (fun wh => couM σ (lkF (lgV σ) LI 144) (lkF (brV σ) BR 144) (wh : Int)) 1447 8) (i + 1))), (0, .ref (h 0))]) rfl (by omega) rfl ?_
              refine z_sub (lv' := [(0, .ref (h 0)), (1, .long (dgCM σ (lkF (lgV σ) LI 144) (dgF (fun wh => couM σ (lkF (lgV σ) LI 144) (lkF (brV σ) BR 144) (wh : Int)) 1447 8) (i + 1))), (3, vI ((i + 1 : Nat) : Int))]) [2, 1, 0] rfl ?_
              exact ih9 (i + 1) φ1 (by omega) (by omega)
        refine z_sub (lv' := [(0, .ref (h 0)), (1, .long (dgF (fun wh => couM σ (lkF (lgV σ) LI 144) (lkF (brV σ) BR 144) (wh : Int)) 1447 8)), (3, vI 0)]) [1, 2, 0] rfl ?_
        exact L_43 (144 + 1) 0 φ1 (Nat.zero_le _) (by omega)
      ·
        refine z_lload_n C 1 dX2_digest_22 rfl ?_
        refine z_ldc2 C (v := 31) (by decide +kernel) dX2_digest_23 ?_
        refine z_lmul C dX2_digest_26 ?_
        refine z_aload_n C 0 dX2_digest_27 rfl ?_
        refine z_iload_n C 2 dX2_digest_28 rfl ?_
        refine z_callVi C (As := [vI (i : Int)]) (st := [.long ((dgF (fun wh => couM σ (lkF (lgV σ) LI 144) (lkF (brV σ) BR 144) (wh : Int)) 1447 i) * 31)]) (y := yX2_counted) (w := wsX2_counted) (rm := rm_X2_counted) (wr := []) (k' := 0) (n' := 0) [0, 1, 2, 3, 4, 5, 6, 7, 8] [] 0 (c_X2_counted l D cI cJ h σ (lkF (lgV σ) LI 144) (lkF (brV σ) BR 144) γ φ1 0 (i : Int) (by omega) hO (lkL_r hO hL 144) (lkB_r hO hB (Nat.le_refl _))) (cwV 1 C.1.2.2.2.2 gX2_digest_X2_counted rfl rfl rfl (by decide +kernel) ⟨Nat.le_of_ble_eq_true rfl, Nat.le_of_ble_eq_true rfl⟩) rfl rfl rfl rfl rfl (by decide) rfl rfl rfl rfl (Nat.le_of_ble_eq_true rfl) rfl rfl ⟨Nat.le_of_ble_eq_true rfl, Nat.le_of_ble_eq_true rfl⟩ dX2_digest_29 ?_
        rintro z_29 _ ⟨φ'_29, rfl, hz_29⟩
        refine z_ws (ws' := (mx cI h σ ((lkF (lgV σ) LI 144)) ((lkF (brV σ) BR 144)) γ φ'_29 0)) rfl ?_
        have hz_29 : z_29 = couM σ (lkF (lgV σ) LI 144) (lkF (brV σ) BR 144) (i : Int) := hz_29
        refine z_i2l C dX2_digest_32 ?_
        refine z_ladd C dX2_digest_33 ?_
        refine z_lstore_n C [(1, .long (((dgF (fun wh => couM σ (lkF (lgV σ) LI 144) (lkF (brV σ) BR 144) (wh : Int)) 1447 i) * 31) + ((iI z_29).toInt64))), (0, .ref (h 0)), (3, vI (i : Int))] dX2_digest_34 (by decide) rfl ?_
        refine z_iinc C 2 [(3, vI ((i : Int) + 1)), (1, .long (((dgF (fun wh => couM σ (lkF (lgV σ) LI 144) (lkF (brV σ) BR 144) (wh : Int)) 1447 i) * 31) + ((iI z_29).toInt64))), (0, .ref (h 0))] dX2_digest_35 rfl (by decide) rfl ?_
        refine z_goto C (tgt := 16) dX2_digest_38 (by decide) ?_
        refine z_chgl 1 (x' := dgF (fun wh => couM σ (lkF (lgV σ) LI 144) (lkF (brV σ) BR 144) (wh : Int)) 1447 (i + 1)) (lv' := [(3, vI ((i : Int) + 1)), (1, .long (dgF (fun wh => couM σ (lkF (lgV σ) LI 144) (lkF (brV σ) BR 144) (wh : Int)) 1447 (i + 1))), (0, .ref (h 0))]) rfl (by rw [hz_29]; rfl) rfl ?_
        refine z_chg 0 (x' := ((i + 1 : Nat) : Int)) (lv' := [(3, vI ((i + 1 : Nat) : Int)), (1, .long (dgF (fun wh => couM σ (lkF (lgV σ) LI 144) (lkF (brV σ) BR 144) (wh : Int)) 1447 (i + 1))), (0, .ref (h 0))]) rfl (by omega) rfl ?_
        refine z_sub (lv' := [(0, .ref (h 0)), (1, .long (dgF (fun wh => couM σ (lkF (lgV σ) LI 144) (lkF (brV σ) BR 144) (wh : Int)) 1447 (i + 1))), (3, vI ((i + 1 : Nat) : Int))]) [2, 1, 0] rfl ?_
        exact ih9 (i + 1) φ'_29 (by omega) (by omega)
  refine z_sub (lv' := [(0, .ref (h 0)), (1, .long 1447), (3, vI 0)]) [2, 1, 0] rfl ?_
  exact L_16 (8 + 1) 0 φ'_6 (Nat.zero_le _) (by omega)

set_option maxRecDepth 100000 in
theorem inU_X2_X2_init : ∀ w ∈ u_ws RX2 TX2 14, w ∈ wsX2_init := by decide +kernel
abbrev rm_X2_init : Room := { frames := 6, cells := 8, slots := 734, locals := 100 }
set_option maxHeartbeats 4000000 in
set_option maxRecDepth 100000 in
theorem c_X2_init (l : Launch) (D : va_G) (cI cJ : ClassId) (a : Nat) : Cv l yX2_init wsX2_init rm_X2_init D [(cI, .int), (cJ, .long)] [.ref a] [(a, .inr (2, [.int 0, .null, .int 0, .null, .null, .int 0, .null, .int 0, .null, .null, .null, .null, .int 0, .int 0]))] (fun u => ∃ h : Nat → Nat, h 0 = a ∧ u = mx cI h (fun _ _ => 0) (fun _ => 0) (fun _ => 0) (fun _ _ => 0) (fun _ => 0) 0) := by
  refine z_ofvI (own := RX2) (cc := cX2_init) (maxL := 1) (lv := [(0, .ref a)]) (by decide) rfl rfl rfl (Nat.le_of_ble_eq_true rfl) rfl ?_
  intro p e s m args below meth cd Q A C hini hret
  refine z_aload_n C 0 dX2_init_0 rfl ?_
  refine z_objInit C (by decide +kernel) (by decide +kernel) (by decide +kernel) dX2_init_1 (Nat.le_of_ble_eq_true rfl) (Nat.le_of_ble_eq_true rfl) ?_
  refine z_aload_n C 0 dX2_init_4 rfl ?_
  refine z_sipush C dX2_init_5 (by decide) ?_
  refine z_newa C (cI := cI) 144 rfl (by decide) rfl (by decide +kernel) dX2_init_8 (Nat.le_of_ble_eq_true rfl) (Nat.le_of_ble_eq_true rfl) (fun q8 => ?_)
  refine z_ws (ws' := [(a, .inr (2, [.int 0, .null, .int 0, .null, .null, .int 0, .null, .int 0, .null, .null, .null, .null, .int 0, .int 0])), (q8, ri cI 144 (fun _ => 0))]) rfl ?_
  refine z_putF C (ref := "ShadowWallsModel") (T := TX2) (N := 14) (ci := 2) (ty := .array .int) (ws' := [(a, .inr (2, [.int 0, .ref q8, .int 0, .null, .null, .int 0, .null, .int 0, .null, .null, .null, .null, .int 0, .int 0])), (q8, ri cI 144 (fun _ => 0))]) 0 1 inU_X2_X2_init tyX2 tyX2_ok nmX2 rfl rfl (by decide) (by decide +kernel) (fun _ h9 => h9) rfl hini rfl (by decide +kernel) rfl rfl (Nat.le_of_ble_eq_true rfl) rfl dX2_init_10 ?_
  refine z_aload_n C 0 dX2_init_13 rfl ?_
  refine z_iconst C dX2_init_14 ?_
  refine z_newa C (cI := cI) 4 rfl (by decide) rfl (by decide +kernel) dX2_init_15 (Nat.le_of_ble_eq_true rfl) (Nat.le_of_ble_eq_true rfl) (fun q15 => ?_)
  refine z_ws (ws' := [(a, .inr (2, [.int 0, .ref q8, .int 0, .null, .null, .int 0, .null, .int 0, .null, .null, .null, .null, .int 0, .int 0])), (q8, ri cI 144 (fun _ => 0)), (q15, ri cI 4 (fun _ => 0))]) rfl ?_
  refine z_putF C (ref := "ShadowWallsModel") (T := TX2) (N := 14) (ci := 2) (ty := .array .int) (ws' := [(a, .inr (2, [.int 0, .ref q8, .int 0, .ref q15, .null, .int 0, .null, .int 0, .null, .null, .null, .null, .int 0, .int 0])), (q8, ri cI 144 (fun _ => 0)), (q15, ri cI 4 (fun _ => 0))]) 0 3 inU_X2_X2_init tyX2 tyX2_ok nmX2 rfl rfl (by decide) (by decide +kernel) (fun _ h9 => h9) rfl hini rfl (by decide +kernel) rfl rfl (Nat.le_of_ble_eq_true rfl) rfl dX2_init_17 ?_
  refine z_aload_n C 0 dX2_init_20 rfl ?_
  refine z_iconst C dX2_init_21 ?_
  refine z_newa C (cI := cI) 4 rfl (by decide) rfl (by decide +kernel) dX2_init_22 (Nat.le_of_ble_eq_true rfl) (Nat.le_of_ble_eq_true rfl) (fun q22 => ?_)
  refine z_ws (ws' := [(a, .inr (2, [.int 0, .ref q8, .int 0, .ref q15, .null, .int 0, .null, .int 0, .null, .null, .null, .null, .int 0, .int 0])), (q8, ri cI 144 (fun _ => 0)), (q15, ri cI 4 (fun _ => 0)), (q22, ri cI 4 (fun _ => 0))]) rfl ?_
  refine z_putF C (ref := "ShadowWallsModel") (T := TX2) (N := 14) (ci := 2) (ty := .array .int) (ws' := [(a, .inr (2, [.int 0, .ref q8, .int 0, .ref q15, .ref q22, .int 0, .null, .int 0, .null, .null, .null, .null, .int 0, .int 0])), (q8, ri cI 144 (fun _ => 0)), (q15, ri cI 4 (fun _ => 0)), (q22, ri cI 4 (fun _ => 0))]) 0 4 inU_X2_X2_init tyX2 tyX2_ok nmX2 rfl rfl (by decide) (by decide +kernel) (fun _ h9 => h9) rfl hini rfl (by decide +kernel) rfl rfl (Nat.le_of_ble_eq_true rfl) rfl dX2_init_24 ?_
  refine z_aload_n C 0 dX2_init_27 rfl ?_
  refine z_bipush C dX2_init_28 (by decide) ?_
  refine z_newa C (cI := cI) 6 rfl (by decide) rfl (by decide +kernel) dX2_init_30 (Nat.le_of_ble_eq_true rfl) (Nat.le_of_ble_eq_true rfl) (fun q30 => ?_)
  refine z_ws (ws' := [(a, .inr (2, [.int 0, .ref q8, .int 0, .ref q15, .ref q22, .int 0, .null, .int 0, .null, .null, .null, .null, .int 0, .int 0])), (q8, ri cI 144 (fun _ => 0)), (q15, ri cI 4 (fun _ => 0)), (q22, ri cI 4 (fun _ => 0)), (q30, ri cI 6 (fun _ => 0))]) rfl ?_
  refine z_putF C (ref := "ShadowWallsModel") (T := TX2) (N := 14) (ci := 2) (ty := .array .int) (ws' := [(a, .inr (2, [.int 0, .ref q8, .int 0, .ref q15, .ref q22, .int 0, .ref q30, .int 0, .null, .null, .null, .null, .int 0, .int 0])), (q8, ri cI 144 (fun _ => 0)), (q15, ri cI 4 (fun _ => 0)), (q22, ri cI 4 (fun _ => 0)), (q30, ri cI 6 (fun _ => 0))]) 0 6 inU_X2_X2_init tyX2 tyX2_ok nmX2 rfl rfl (by decide) (by decide +kernel) (fun _ h9 => h9) rfl hini rfl (by decide +kernel) rfl rfl (Nat.le_of_ble_eq_true rfl) rfl dX2_init_32 ?_
  refine z_aload_n C 0 dX2_init_35 rfl ?_
  refine z_sipush C dX2_init_36 (by decide) ?_
  refine z_newa C (cI := cI) 144 rfl (by decide) rfl (by decide +kernel) dX2_init_39 (Nat.le_of_ble_eq_true rfl) (Nat.le_of_ble_eq_true rfl) (fun q39 => ?_)
  refine z_ws (ws' := [(a, .inr (2, [.int 0, .ref q8, .int 0, .ref q15, .ref q22, .int 0, .ref q30, .int 0, .null, .null, .null, .null, .int 0, .int 0])), (q8, ri cI 144 (fun _ => 0)), (q15, ri cI 4 (fun _ => 0)), (q22, ri cI 4 (fun _ => 0)), (q30, ri cI 6 (fun _ => 0)), (q39, ri cI 144 (fun _ => 0))]) rfl ?_
  refine z_putF C (ref := "ShadowWallsModel") (T := TX2) (N := 14) (ci := 2) (ty := .array .int) (ws' := [(a, .inr (2, [.int 0, .ref q8, .int 0, .ref q15, .ref q22, .int 0, .ref q30, .int 0, .ref q39, .null, .null, .null, .int 0, .int 0])), (q8, ri cI 144 (fun _ => 0)), (q15, ri cI 4 (fun _ => 0)), (q22, ri cI 4 (fun _ => 0)), (q30, ri cI 6 (fun _ => 0)), (q39, ri cI 144 (fun _ => 0))]) 0 8 inU_X2_X2_init tyX2 tyX2_ok nmX2 rfl rfl (by decide) (by decide +kernel) (fun _ h9 => h9) rfl hini rfl (by decide +kernel) rfl rfl (Nat.le_of_ble_eq_true rfl) rfl dX2_init_41 ?_
  refine z_aload_n C 0 dX2_init_44 rfl ?_
  refine z_sipush C dX2_init_45 (by decide) ?_
  refine z_newa C (cI := cI) 144 rfl (by decide) rfl (by decide +kernel) dX2_init_48 (Nat.le_of_ble_eq_true rfl) (Nat.le_of_ble_eq_true rfl) (fun q48 => ?_)
  refine z_ws (ws' := [(a, .inr (2, [.int 0, .ref q8, .int 0, .ref q15, .ref q22, .int 0, .ref q30, .int 0, .ref q39, .null, .null, .null, .int 0, .int 0])), (q8, ri cI 144 (fun _ => 0)), (q15, ri cI 4 (fun _ => 0)), (q22, ri cI 4 (fun _ => 0)), (q30, ri cI 6 (fun _ => 0)), (q39, ri cI 144 (fun _ => 0)), (q48, ri cI 144 (fun _ => 0))]) rfl ?_
  refine z_putF C (ref := "ShadowWallsModel") (T := TX2) (N := 14) (ci := 2) (ty := .array .int) (ws' := [(a, .inr (2, [.int 0, .ref q8, .int 0, .ref q15, .ref q22, .int 0, .ref q30, .int 0, .ref q39, .ref q48, .null, .null, .int 0, .int 0])), (q8, ri cI 144 (fun _ => 0)), (q15, ri cI 4 (fun _ => 0)), (q22, ri cI 4 (fun _ => 0)), (q30, ri cI 6 (fun _ => 0)), (q39, ri cI 144 (fun _ => 0)), (q48, ri cI 144 (fun _ => 0))]) 0 9 inU_X2_X2_init tyX2 tyX2_ok nmX2 rfl rfl (by decide) (by decide +kernel) (fun _ h9 => h9) rfl hini rfl (by decide +kernel) rfl rfl (Nat.le_of_ble_eq_true rfl) rfl dX2_init_50 ?_
  refine z_aload_n C 0 dX2_init_53 rfl ?_
  refine z_sipush C dX2_init_54 (by decide) ?_
  refine z_newa C (cI := cI) 144 rfl (by decide) rfl (by decide +kernel) dX2_init_57 (Nat.le_of_ble_eq_true rfl) (Nat.le_of_ble_eq_true rfl) (fun q57 => ?_)
  refine z_ws (ws' := [(a, .inr (2, [.int 0, .ref q8, .int 0, .ref q15, .ref q22, .int 0, .ref q30, .int 0, .ref q39, .ref q48, .null, .null, .int 0, .int 0])), (q8, ri cI 144 (fun _ => 0)), (q15, ri cI 4 (fun _ => 0)), (q22, ri cI 4 (fun _ => 0)), (q30, ri cI 6 (fun _ => 0)), (q39, ri cI 144 (fun _ => 0)), (q48, ri cI 144 (fun _ => 0)), (q57, ri cI 144 (fun _ => 0))]) rfl ?_
  refine z_putF C (ref := "ShadowWallsModel") (T := TX2) (N := 14) (ci := 2) (ty := .array .int) (ws' := [(a, .inr (2, [.int 0, .ref q8, .int 0, .ref q15, .ref q22, .int 0, .ref q30, .int 0, .ref q39, .ref q48, .ref q57, .null, .int 0, .int 0])), (q8, ri cI 144 (fun _ => 0)), (q15, ri cI 4 (fun _ => 0)), (q22, ri cI 4 (fun _ => 0)), (q30, ri cI 6 (fun _ => 0)), (q39, ri cI 144 (fun _ => 0)), (q48, ri cI 144 (fun _ => 0)), (q57, ri cI 144 (fun _ => 0))]) 0 10 inU_X2_X2_init tyX2 tyX2_ok nmX2 rfl rfl (by decide) (by decide +kernel) (fun _ h9 => h9) rfl hini rfl (by decide +kernel) rfl rfl (Nat.le_of_ble_eq_true rfl) rfl dX2_init_59 ?_
  refine z_aload_n C 0 dX2_init_62 rfl ?_
  refine z_sipush C dX2_init_63 (by decide) ?_
  refine z_newa C (cI := cI) 144 rfl (by decide) rfl (by decide +kernel) dX2_init_66 (Nat.le_of_ble_eq_true rfl) (Nat.le_of_ble_eq_true rfl) (fun q66 => ?_)
  refine z_ws (ws' := [(a, .inr (2, [.int 0, .ref q8, .int 0, .ref q15, .ref q22, .int 0, .ref q30, .int 0, .ref q39, .ref q48, .ref q57, .null, .int 0, .int 0])), (q8, ri cI 144 (fun _ => 0)), (q15, ri cI 4 (fun _ => 0)), (q22, ri cI 4 (fun _ => 0)), (q30, ri cI 6 (fun _ => 0)), (q39, ri cI 144 (fun _ => 0)), (q48, ri cI 144 (fun _ => 0)), (q57, ri cI 144 (fun _ => 0)), (q66, ri cI 144 (fun _ => 0))]) rfl ?_
  refine z_putF C (ref := "ShadowWallsModel") (T := TX2) (N := 14) (ci := 2) (ty := .array .int) (ws' := [(a, .inr (2, [.int 0, .ref q8, .int 0, .ref q15, .ref q22, .int 0, .ref q30, .int 0, .ref q39, .ref q48, .ref q57, .ref q66, .int 0, .int 0])), (q8, ri cI 144 (fun _ => 0)), (q15, ri cI 4 (fun _ => 0)), (q22, ri cI 4 (fun _ => 0)), (q30, ri cI 6 (fun _ => 0)), (q39, ri cI 144 (fun _ => 0)), (q48, ri cI 144 (fun _ => 0)), (q57, ri cI 144 (fun _ => 0)), (q66, ri cI 144 (fun _ => 0))]) 0 11 inU_X2_X2_init tyX2 tyX2_ok nmX2 rfl rfl (by decide) (by decide +kernel) (fun _ h9 => h9) rfl hini rfl (by decide +kernel) rfl rfl (Nat.le_of_ble_eq_true rfl) rfl dX2_init_68 ?_
  exact hret _ _ _ dX2_init_71 ⟨fun i => match i with | 0 => a | 1 => q8 | 2 => q15 | 3 => q22 | 4 => q30 | 5 => q39 | 6 => q48 | 7 => q57 | _ => q66, rfl, rfl⟩

abbrev rmA_X2_advise : Room := { frames := 5, cells := 1, slots := 4, locals := 124 }
set_option maxHeartbeats 4000000 in
set_option maxRecDepth 100000 in
theorem c_X2_advise (l : Launch) (D : va_G) (cI cJ : ClassId) (h : Nat → Nat) (σ : YS) (LI BR : Nat → Int) (γ : YS) (φ : Nat → Int) (θ : Int) (k : Int) (hk : 0 ≤ k ∧ k < σ 4 0) (hO : Ok σ) (hL : LI4 LI) (hB : BR9 BR) : Ci l yX2_advise wsX2_advise rmA_X2_advise D [(cI, .int), (cJ, .long)] [.ref (h 0), vI k] (mx cI h σ LI BR γ φ θ) (fun z u => ∃ LI' : Nat → Int, ∃ BR' : Nat → Int, ∃ φ' : Nat → Int, u = (mx cI h σ LI' BR' γ φ' 0) ∧ z = (adM σ k.toNat 4).1 ∧ LI4 LI' ∧ BR9 BR') := by
  refine z_ofi (own := RX2) (cc := cX2_advise) (maxL := 12) (lv := [(0, .ref (h 0)), (1, vI k)]) (by decide) rfl rfl (Nat.le_of_ble_eq_true rfl) rfl ?_
  intro p e s m args below meth cd Q A C hret
  have hn := hO.1
  have hm := hO.2.1
  have en := nLa_e hO
  have em := nWa_e hO
  have h1 := hO.2.2.1 k.toNat (by omega)
  refine z_aload_n C 0 dX2_advise_0 rfl ?_
  refine z_iconst C dX2_advise_1 ?_
  refine z_put C (ref := "ShadowWallsModel") (T := TX2) (N := 14) (ci := 2) (ty := .int) (ws' := (mx cI h σ LI BR γ φ 0)) 0 0 inU_X2_X2_advise tyX2 tyX2_ok nmX2 rfl rfl (by decide) (by decide +kernel) (fun _ h9 => h9) rfl (by decide +kernel) (rfl) (rfl) (Nat.le_of_ble_eq_true rfl) rfl dX2_advise_2 ?_
  refine z_aload_n C 0 dX2_advise_5 rfl ?_
  refine z_iload_n C 1 dX2_advise_6 rfl ?_
  refine z_callVi C (As := [vI k]) (st := []) (y := yX2_isLamp) (w := wsX2_isLamp) (rm := rm_X2_isLamp) (wr := []) (k' := 0) (n' := 0) [0, 1, 2, 3, 4, 5, 6, 7, 8] [] 0 (c_X2_isLamp l D cI cJ h σ LI BR γ φ 0 k (by omega) hO) (cwV 1 C.1.2.2.2.2 gX2_advise_X2_isLamp rfl rfl rfl (by decide +kernel) ⟨Nat.le_of_ble_eq_true rfl, Nat.le_of_ble_eq_true rfl⟩) rfl rfl rfl rfl rfl (by decide) rfl rfl rfl rfl (Nat.le_of_ble_eq_true rfl) rfl rfl ⟨Nat.le_of_ble_eq_true rfl, Nat.le_of_ble_eq_true rfl⟩ dX2_advise_7 ?_
  rintro z_7 _ ⟨rfl, hz_7⟩
  refine z_ws (ws' := (mx cI h σ LI BR γ φ 0)) rfl ?_
  have r_7 : z_7 = 0 ∨ z_7 = 1 := by rw [hz_7]; exact bI_01 _
  have hz_7 : z_7 = bI (decide (0 ≤ k) && decide (k ≤ σ 4 0 - 1)) := hz_7
  have i_7 := isIn_c hz_7
  refine z_if_ne C (tgt := 19) dX2_advise_10 (by decide) (by omega) (fun c_10 => ?_) (fun c_10 => ?_)
  ·
    refine z_aload_n C 0 dX2_advise_19 rfl ?_
    refine z_get C (v := .ref (h 2)) (ref := "ShadowWallsModel") (T := TX2) (N := 14) (ci := 2) 0 3 inU_X2_X2_advise rfl rfl (by decide) (by decide +kernel) (fun _ h9 => h9) rfl dX2_advise_20 ?_
    refine z_iload_n C 1 dX2_advise_23 rfl ?_
    refine z_iald C (cA := cI) (N := 4) (f := σ 1) 2 0 rfl rfl (by decide) (by omega) dX2_advise_24 ?_
    refine z_istore_n C [(2, vI (σ 1 (k.toNat))), (0, .ref (h 0)), (1, vI k)] dX2_advise_25 (by decide) rfl ?_
    refine z_aload_n C 1 dX2_advise_26 rfl ?_
    refine z_callVi C (As := []) (st := []) (y := yX2_look) (w := wsX2_look) (rm := rm_X2_look) (wr := []) (k' := 0) (n' := 0) [0, 1, 2, 3, 4, 5, 6, 7, 8] [] 0 (c_X2_look l D cI cJ h σ LI BR γ φ 0  hO hL) (cwV 0 C.1.2.2.2.2 gX2_advise_X2_look rfl rfl rfl (by decide +kernel) ⟨Nat.le_of_ble_eq_true rfl, Nat.le_of_ble_eq_true rfl⟩) rfl rfl rfl rfl rfl (by decide) rfl rfl rfl rfl (Nat.le_of_ble_eq_true rfl) rfl rfl ⟨Nat.le_of_ble_eq_true rfl, Nat.le_of_ble_eq_true rfl⟩ dX2_advise_27 ?_
    rintro z_27 _ ⟨φ'_27, rfl, hz_27⟩
    refine z_ws (ws' := (mx cI h σ (lkF (lgV σ) LI 144) (lkF (brV σ) BR 144) γ φ'_27 0)) rfl ?_
    have r_27 := smB_r (fun c => decide (lgV σ c ≠ 0)) 144
    rw [← hz_27] at r_27
    have hz_27 : z_27 = sm (fun c => bI (decide (lgV σ c ≠ 0))) 144 := hz_27
    refine z_istore_n C [(3, vI z_27), (2, vI (σ 1 (k.toNat))), (0, .ref (h 0)), (1, vI k)] dX2_advise_30 (by decide) rfl ?_
    refine z_iconst C dX2_advise_31 ?_
    refine z_istore C [(4, vI (-1)), (3, vI z_27), (2, vI (σ 1 (k.toNat))), (0, .ref (h 0)), (1, vI k)] dX2_advise_32 (by decide) rfl ?_
    refine z_iconst C dX2_advise_34 ?_
    refine z_newa C (cI := cI) 4 rfl (by decide) rfl (by decide +kernel) dX2_advise_35 (Nat.le_of_ble_eq_true rfl) (Nat.le_of_ble_eq_true rfl) (fun q34 => ?_)
    refine z_wsub (ws' := ((q34, ri cI 4 (fun _ => (0 : Int))) :: (mx cI h σ (lkF (lgV σ) LI 144) (lkF (brV σ) BR 144) γ φ'_27 0))) [9, 0, 1, 2, 3, 4, 5, 6, 7, 8] rfl rfl rfl ?_
    refine z_dup C dX2_advise_37 rfl ?_
    refine z_iconst C dX2_advise_38 ?_
    refine z_iconst C dX2_advise_39 ?_
    refine z_iast C (cA := cI) (N := 4) (f := fun _ => (0 : Int)) (ws' := ((q34, ri cI 4 (fU (fun _ => (0 : Int)) 0 2)) :: (mx cI h σ (lkF (lgV σ) LI 144) (lkF (brV σ) BR 144) γ φ'_27 0))) 0 0 rfl rfl (by decide) (by omega) rfl dX2_advise_40 ?_
    refine z_dup C dX2_advise_41 rfl ?_
    refine z_iconst C dX2_advise_42 ?_
    refine z_iconst C dX2_advise_43 ?_
    refine z_iast C (cA := cI) (N := 4) (f := fU (fun _ => (0 : Int)) 0 2) (ws' := ((q34, ri cI 4 (fU (fU (fun _ => (0 : Int)) 0 2) 1 0)) :: (mx cI h σ (lkF (lgV σ) LI 144) (lkF (brV σ) BR 144) γ φ'_27 0))) 0 0 rfl rfl (by decide) (by omega) rfl dX2_advise_44 ?_
    refine z_dup C dX2_advise_45 rfl ?_
    refine z_iconst C dX2_advise_46 ?_
    refine z_iconst C dX2_advise_47 ?_
    refine z_iast C (cA := cI) (N := 4) (f := fU (fU (fun _ => (0 : Int)) 0 2) 1 0) (ws' := ((q34, ri cI 4 (fU (fU (fU (fun _ => (0 : Int)) 0 2) 1 0) 2 1)) :: (mx cI h σ (lkF (lgV σ) LI 144) (lkF (brV σ) BR 144) γ φ'_27 0))) 0 0 rfl rfl (by decide) (by omega) rfl dX2_advise_48 ?_
    refine z_dup C dX2_advise_49 rfl ?_
    refine z_iconst C dX2_advise_50 ?_
    refine z_iconst C dX2_advise_51 ?_
    refine z_iast C (cA := cI) (N := 4) (f := fU (fU (fU (fun _ => (0 : Int)) 0 2) 1 0) 2 1) (ws' := ((q34, ri cI 4 (fU (fU (fU (fU (fun _ => (0 : Int)) 0 2) 1 0) 2 1) 3 3)) :: (mx cI h σ (lkF (lgV σ) LI 144) (lkF (brV σ) BR 144) γ φ'_27 0))) 0 0 rfl rfl (by decide) (by omega) rfl dX2_advise_52 ?_
    refine z_astore C [(5, .ref q34), (4, vI (-1)), (3, vI z_27), (2, vI (σ 1 (k.toNat))), (0, .ref (h 0)), (1, vI k)] dX2_advise_53 (by decide) rfl ?_
    refine z_aload C 0 dX2_advise_55 rfl ?_
    refine z_astore C [(6, .ref q34), (5, .ref q34), (4, vI (-1)), (3, vI z_27), (2, vI (σ 1 (k.toNat))), (0, .ref (h 0)), (1, vI k)] dX2_advise_57 (by decide) rfl ?_
    refine z_aload C 0 dX2_advise_59 rfl ?_
    refine z_alen C (v := 4) (cA := cI) (ty := .int) 0 0 rfl rfl rfl dX2_advise_61 ?_
    refine z_istore C [(7, vI 4), (6, .ref q34), (5, .ref q34), (4, vI (-1)), (3, vI z_27), (2, vI (σ 1 (k.toNat))), (0, .ref (h 0)), (1, vI k)] dX2_advise_62 (by decide) rfl ?_
    refine z_iconst C dX2_advise_64 ?_
    refine z_istore C [(8, vI 0), (7, vI 4), (6, .ref q34), (5, .ref q34), (4, vI (-1)), (3, vI z_27), (2, vI (σ 1 (k.toNat))), (0, .ref (h 0)), (1, vI k)] dX2_advise_65 (by decide) rfl ?_
    have L_67 : ∀ (d9 i : Nat) (LI1 BR1 φ1 : Nat → Int) (hi : i ≤ 4) (hd : 5 ≤ i + d9) (hL1 : LI4 LI1) (hB1 : BR9 BR1), Zs p l e rmA_X2_advise s m args below meth cd Q A D 12 67 [(0, .ref (h 0)), (1, vI k), (2, vI (σ 1 k.toNat)), (3, vI ((adM σ k.toNat i).2)), (4, vI ((adM σ k.toNat i).1)), (5, .ref q34), (6, .ref q34), (7, vI 4), (8, vI (i : Int))] [] ((q34, ri cI 4 (fU (fU (fU (fU (fun _ => (0 : Int)) 0 2) 1 0) 2 1) 3 3)) :: (mx cI h σ LI1 BR1 γ φ1 0)) 1 4 := by
      intro d9
      induction d9 with
      | zero =>
        intro i LI1 BR1 φ1 hi hd hL1 hB1
        exfalso; omega
      | succ d9 ih9 =>
        intro i LI1 BR1 φ1 hi hd hL1 hB1
        have hr := adM_r σ k.toNat i
        refine z_iload C 8 dX2_advise_67 rfl ?_
        refine z_iload C 7 dX2_advise_69 rfl ?_
        refine z_icmp_ge C (tgt := 151) dX2_advise_71 (by decide) (by omega) (by omega) (fun c_71 => ?_) (fun c_71 => ?_)
        ·
          have h4 : i = 4 := by omega
          refine z_wsub (ws' := (mx cI h σ LI1 BR1 γ φ1 0)) [1, 2, 3, 4, 5, 6, 7, 8, 9] rfl rfl rfl ?_
          refine z_iload C 4 dX2_advise_151 rfl ?_
          exact hret _ _ _ _ dX2_advise_153 ⟨LI1, BR1, φ1, rfl, by rw [h4], hL1, hB1⟩
        ·
          have hF := sd_c (c := σ 1 k.toNat) (i := i) (by omega)
          refine z_aload C 6 dX2_advise_74 rfl ?_
          refine z_iload C 8 dX2_advise_76 rfl ?_
          refine z_iald C (cA := cI) (N := 4) (f := (fU (fU (fU (fU (fun _ => (0 : Int)) 0 2) 1 0) 2 1) 3 3)) 0 0 rfl rfl (by decide) (by omega) dX2_advise_78 ?_
          refine z_st (v' := (fU (fU (fU (fU (fun _ => (0 : Int)) 0 2) 1 0) 2 1) 3 3) i) rfl ?_
          refine z_istore C [(9, vI ((fU (fU (fU (fU (fun _ => (0 : Int)) 0 2) 1 0) 2 1) 3 3) i)), (0, .ref (h 0)), (1, vI k), (2, vI (σ 1 k.toNat)), (3, vI ((adM σ k.toNat i).2)), (4, vI ((adM σ k.toNat i).1)), (5, .ref q34), (6, .ref q34), (7, vI 4), (8, vI (i : Int))] dX2_advise_79 (by decide) rfl ?_
          refine z_iload_n C 3 dX2_advise_81 rfl ?_
          refine z_iload C 0 dX2_advise_82 rfl ?_
          refine z_callSi C (As := [vI (σ 1 k.toNat), vI ((fU (fU (fU (fU (fun _ => (0 : Int)) 0 2) 1 0) 2 1) 3 3) i)]) (st := []) (y := yX2_beside) (w := wsX2_beside) (rm := rm_X2_beside) (wr := ((q34, ri cI 4 (fU (fU (fU (fU (fun _ => (0 : Int)) 0 2) 1 0) 2 1) 3 3)) :: (mx cI h σ LI1 BR1 γ φ1 0))) (k' := 1) (n' := 4) [] [0, 1, 2, 3, 4, 5, 6, 7, 8, 9] (c_X2_beside l D cI cJ  (σ 1 k.toNat) ((fU (fU (fU (fU (fun _ => (0 : Int)) 0 2) 1 0) 2 1) 3 3) i) (by omega) (by omega)) (va_cwS 2 C.1.2.2.2.2 gX2_advise_X2_beside rfl rfl rfl (by decide +kernel) ⟨Nat.le_of_ble_eq_true rfl, Nat.le_of_ble_eq_true rfl⟩) rfl rfl rfl rfl rfl (by decide) rfl rfl (Nat.le_of_ble_eq_true rfl) rfl rfl ⟨Nat.le_of_ble_eq_true rfl, Nat.le_of_ble_eq_true rfl⟩ dX2_advise_84 ?_
          rintro z_84 _ ⟨rfl, hz_84⟩
          refine z_ws (ws' := ((q34, ri cI 4 (fU (fU (fU (fU (fun _ => (0 : Int)) 0 2) 1 0) 2 1) 3 3)) :: (mx cI h σ LI1 BR1 γ φ1 0))) rfl ?_
          have r_84 : z_84 = -1 ∨ (0 ≤ z_84 ∧ z_84 < 144) := by rw [hz_84]; exact bes_r (by omega) (by omega)
          have hz_84 : z_84 = bes (σ 1 k.toNat) ((fU (fU (fU (fU (fun _ => (0 : Int)) 0 2) 1 0) 2 1) 3 3) i) := hz_84
          have hz9 := hz_84.trans hF.2.2
          refine z_istore C [(10, vI z_84), (9, vI ((fU (fU (fU (fU (fun _ => (0 : Int)) 0 2) 1 0) 2 1) 3 3) i)), (0, .ref (h 0)), (1, vI k), (2, vI (σ 1 k.toNat)), (3, vI ((adM σ k.toNat i).2)), (4, vI ((adM σ k.toNat i).1)), (5, .ref q34), (6, .ref q34), (7, vI 4), (8, vI (i : Int))] dX2_advise_87 (by decide) rfl ?_
          refine z_iload C 0 dX2_advise_89 rfl ?_
          refine z_iconst C dX2_advise_91 ?_
          refine z_icmp_eq C (tgt := 145) dX2_advise_92 (by decide) (by omega) (by omega) (fun c_92 => ?_) (fun c_92 => ?_)
          ·
            have hA : adM σ k.toNat (i + 1) = adM σ k.toNat i := by simp only [adM]; rw [← hz9, if_neg (by omega)]
            refine z_iinc C 10 [(8, vI ((i : Int) + 1)), (10, vI z_84), (9, vI ((fU (fU (fU (fU (fun _ => (0 : Int)) 0 2) 1 0) 2 1) 3 3) i)), (0, .ref (h 0)), (1, vI k), (2, vI (σ 1 k.toNat)), (3, vI ((adM σ k.toNat i).2)), (4, vI ((adM σ k.toNat i).1)), (5, .ref q34), (6, .ref q34), (7, vI 4)] dX2_advise_145 rfl (by decide) rfl ?_
            refine z_goto C (tgt := 67) dX2_advise_148 (by decide) ?_
            refine z_chg 6 (x' := (adM σ k.toNat (i + 1)).2) (lv' := [(8, vI ((i : Int) + 1)), (10, vI z_84), (9, vI ((fU (fU (fU (fU (fun _ => (0 : Int)) 0 2) 1 0) 2 1) 3 3) i)), (0, .ref (h 0)), (1, vI k), (2, vI (σ 1 k.toNat)), (3, vI ((adM σ k.toNat (i + 1)).2)), (4, vI ((adM σ k.toNat i).1)), (5, .ref q34), (6, .ref q34), (7, vI 4)]) rfl (by rw [hA]) rfl ?_
            refine z_chg 7 (x' := (adM σ k.toNat (i + 1)).1) (lv' := [(8, vI ((i : Int) + 1)), (10, vI z_84), (9, vI ((fU (fU (fU (fU (fun _ => (0 : Int)) 0 2) 1 0) 2 1) 3 3) i)), (0, .ref (h 0)), (1, vI k), (2, vI (σ 1 k.toNat)), (3, vI ((adM σ k.toNat (i + 1)).2)), (4, vI ((adM σ k.toNat (i + 1)).1)), (5, .ref q34), (6, .ref q34), (7, vI 4)]) rfl (by rw [hA]) rfl ?_
            refine z_chg 0 (x' := ((i + 1 : Nat) : Int)) (lv' := [(8, vI ((i + 1 : Nat) : Int)), (10, vI z_84), (9, vI ((fU (fU (fU (fU (fun _ => (0 : Int)) 0 2) 1 0) 2 1) 3 3) i)), (0, .ref (h 0)), (1, vI k), (2, vI (σ 1 k.toNat)), (3, vI ((adM σ k.toNat (i + 1)).2)), (4, vI ((adM σ k.toNat (i + 1)).1)), (5, .ref q34), (6, .ref q34), (7, vI 4)]) rfl (by omega) rfl ?_
            refine z_sub (lv' := [(0, .ref (h 0)), (1, vI k), (2, vI (σ 1 k.toNat)), (3, vI ((adM σ k.toNat (i + 1)).2)), (4, vI ((adM σ k.toNat (i + 1)).1)), (5, .ref q34), (6, .ref q34), (7, vI 4), (8, vI ((i + 1 : Nat) : Int))]) [3, 4, 5, 6, 7, 8, 9, 10, 0] rfl ?_
            exact ih9 (i + 1) _ _ _ (by omega) (by omega) (by first | exact hL1 | exact lkL_r hO1 hL1 144) (by first | exact hB1 | exact lkB_r hO1 hB1 (Nat.le_refl _))
          ·
            refine z_aload_n C 2 dX2_advise_95 rfl ?_
            refine z_iload C 0 dX2_advise_96 rfl ?_
            refine z_callVi C (As := [vI z_84]) (st := []) (y := yX2_lampOn) (w := wsX2_lampOn) (rm := rm_X2_lampOn) (wr := [(q34, ri cI 4 (fU (fU (fU (fU (fun _ => (0 : Int)) 0 2) 1 0) 2 1) 3 3))]) (k' := 1) (n' := 4) [1, 2, 3, 4, 5, 6, 7, 8, 9] [0] 1 (c_X2_lampOn l D cI cJ h σ LI1 BR1 γ φ1 0 z_84 (by omega) hO) (cwV 1 C.1.2.2.2.2 gX2_advise_X2_lampOn rfl rfl rfl (by decide +kernel) ⟨Nat.le_of_ble_eq_true rfl, Nat.le_of_ble_eq_true rfl⟩) rfl rfl rfl rfl rfl (by decide) rfl rfl rfl rfl (Nat.le_of_ble_eq_true rfl) rfl rfl ⟨Nat.le_of_ble_eq_true rfl, Nat.le_of_ble_eq_true rfl⟩ dX2_advise_98 ?_
            rintro z_98 _ ⟨rfl, f0_98⟩
            refine z_ws (ws' := ((q34, ri cI 4 (fU (fU (fU (fU (fun _ => (0 : Int)) 0 2) 1 0) 2 1) 3 3)) :: (mx cI h σ LI1 BR1 γ φ1 0))) rfl ?_
            refine z_iconst C dX2_advise_101 ?_
            refine z_icmp_eq C (tgt := 108) dX2_advise_102 (by decide) (by omega) (by omega) (fun c_102 => ?_) (fun c_102 => ?_)
            ·
              have hB9 : lampB σ z_84 = false := f0_98.elim (fun q => absurd c_102 (by omega)) (fun q => q.1)
              have hO1 := Ok_carry (k := k.toNat) (g := z_84) hO (by omega) (by omega)
              refine z_aload_n C 2 dX2_advise_108 rfl ?_
              refine z_get C (v := .ref (h 2)) (ref := "ShadowWallsModel") (T := TX2) (N := 14) (ci := 2) 1 3 inU_X2_X2_advise rfl rfl (by decide) (by decide +kernel) (fun _ h9 => h9) rfl dX2_advise_109 ?_
              refine z_iload_n C 3 dX2_advise_112 rfl ?_
              refine z_iload C 0 dX2_advise_113 rfl ?_
              refine z_iast C (cA := cI) (N := 4) (f := σ 1) (ws' := ((q34, ri cI 4 (fU (fU (fU (fU (fun _ => (0 : Int)) 0 2) 1 0) 2 1) 3 3)) :: (mx cI h (sU σ 1 (k.toNat) z_84) LI1 BR1 γ φ1 0))) 3 0 rfl rfl (by decide) (by omega) rfl dX2_advise_115 ?_
              refine z_aload_n C 2 dX2_advise_116 rfl ?_
              refine z_callVi C (As := []) (st := []) (y := yX2_look) (w := wsX2_look) (rm := rm_X2_look) (wr := [(q34, ri cI 4 (fU (fU (fU (fU (fun _ => (0 : Int)) 0 2) 1 0) 2 1) 3 3))]) (k' := 1) (n' := 4) [1, 2, 3, 4, 5, 6, 7, 8, 9] [0] 1 (c_X2_look l D cI cJ h (sU σ 1 (k.toNat) z_84) LI1 BR1 γ φ1 0  hO1 hL1) (cwV 0 C.1.2.2.2.2 gX2_advise_X2_look rfl rfl rfl (by decide +kernel) ⟨Nat.le_of_ble_eq_true rfl, Nat.le_of_ble_eq_true rfl⟩) rfl rfl rfl rfl rfl (by decide) rfl rfl rfl rfl (Nat.le_of_ble_eq_true rfl) rfl rfl ⟨Nat.le_of_ble_eq_true rfl, Nat.le_of_ble_eq_true rfl⟩ dX2_advise_117 ?_
              rintro z_117 _ ⟨φ'_117, rfl, hz_117⟩
              refine z_ws (ws' := ((q34, ri cI 4 (fU (fU (fU (fU (fun _ => (0 : Int)) 0 2) 1 0) 2 1) 3 3)) :: (mx cI h ((sU σ 1 (k.toNat) z_84)) (lkF (lgV (sU σ 1 (k.toNat) z_84)) LI1 144) (lkF (brV (sU σ 1 (k.toNat) z_84)) BR1 144) γ φ'_117 0))) rfl ?_
              have r_117 := smB_r (fun c => decide (lgV (sU σ 1 (k.toNat) z_84) c ≠ 0)) 144
              rw [← hz_117] at r_117
              have hz_117 : z_117 = sm (fun c => bI (decide (lgV (sU σ 1 (k.toNat) z_84) c ≠ 0))) 144 := hz_117
              have hC : z_117 = litC (lgV (sU σ 1 k.toNat z_84)) := hz_117
              have rC := litC_r (lgV (sU σ 1 k.toNat z_84))
              refine z_istore C [(11, vI z_117), (10, vI z_84), (9, vI ((fU (fU (fU (fU (fun _ => (0 : Int)) 0 2) 1 0) 2 1) 3 3) i)), (0, .ref (h 0)), (1, vI k), (2, vI (σ 1 k.toNat)), (3, vI ((adM σ k.toNat i).2)), (4, vI ((adM σ k.toNat i).1)), (5, .ref q34), (6, .ref q34), (7, vI 4), (8, vI (i : Int))] dX2_advise_120 (by decide) rfl ?_
              refine z_aload_n C 3 dX2_advise_122 rfl ?_
              refine z_get C (v := .ref (h 2)) (ref := "ShadowWallsModel") (T := TX2) (N := 14) (ci := 2) 1 3 inU_X2_X2_advise rfl rfl (by decide) (by decide +kernel) (fun _ h9 => h9) rfl dX2_advise_123 ?_
              refine z_iload_n C 4 dX2_advise_126 rfl ?_
              refine z_iload_n C 5 dX2_advise_127 rfl ?_
              refine z_iast C (cA := cI) (N := 4) (f := (sU σ 1 (k.toNat) z_84) 1) (ws' := ((q34, ri cI 4 (fU (fU (fU (fU (fun _ => (0 : Int)) 0 2) 1 0) 2 1) 3 3)) :: (mx cI h (sU (sU σ 1 (k.toNat) z_84) 1 (k.toNat) (σ 1 k.toNat)) (lkF (lgV (sU σ 1 (k.toNat) z_84)) LI1 144) (lkF (brV (sU σ 1 (k.toNat) z_84)) BR1 144) γ φ'_117 0))) 3 0 rfl rfl (by decide) (by omega) rfl dX2_advise_128 ?_
              refine z_ws (ws' := ((q34, ri cI 4 (fU (fU (fU (fU (fun _ => (0 : Int)) 0 2) 1 0) 2 1) 3 3)) :: (mx cI h σ (lkF (lgV (sU σ 1 (k.toNat) z_84)) LI1 144) (lkF (brV (sU σ 1 (k.toNat) z_84)) BR1 144) γ φ'_117 0))) (by rw [sU_b]) ?_
              refine z_iload C 0 dX2_advise_129 rfl ?_
              refine z_iload_n C 6 dX2_advise_131 rfl ?_
              refine z_icmp_gt C (tgt := 138) dX2_advise_132 (by decide) (by omega) (by omega) (fun c_132 => ?_) (fun c_132 => ?_)
              ·
                have hA : adM σ k.toNat (i + 1) = (z_84, z_117) := by simp only [adM]; rw [← hz9, if_pos ⟨by omega, hB9, by rw [← hC]; omega⟩, hC]
                refine z_iload C 0 dX2_advise_138 rfl ?_
                refine z_istore_n C [(3, vI z_117), (11, vI z_117), (10, vI z_84), (9, vI ((fU (fU (fU (fU (fun _ => (0 : Int)) 0 2) 1 0) 2 1) 3 3) i)), (0, .ref (h 0)), (1, vI k), (2, vI (σ 1 k.toNat)), (4, vI ((adM σ k.toNat i).1)), (5, .ref q34), (6, .ref q34), (7, vI 4), (8, vI (i : Int))] dX2_advise_140 (by decide) rfl ?_
                refine z_iload C 2 dX2_advise_141 rfl ?_
                refine z_istore C [(4, vI z_84), (3, vI z_117), (11, vI z_117), (10, vI z_84), (9, vI ((fU (fU (fU (fU (fun _ => (0 : Int)) 0 2) 1 0) 2 1) 3 3) i)), (0, .ref (h 0)), (1, vI k), (2, vI (σ 1 k.toNat)), (5, .ref q34), (6, .ref q34), (7, vI 4), (8, vI (i : Int))] dX2_advise_143 (by decide) rfl ?_
                refine z_iinc C 11 [(8, vI ((i : Int) + 1)), (4, vI z_84), (3, vI z_117), (11, vI z_117), (10, vI z_84), (9, vI ((fU (fU (fU (fU (fun _ => (0 : Int)) 0 2) 1 0) 2 1) 3 3) i)), (0, .ref (h 0)), (1, vI k), (2, vI (σ 1 k.toNat)), (5, .ref q34), (6, .ref q34), (7, vI 4)] dX2_advise_145 rfl (by decide) rfl ?_
                refine z_goto C (tgt := 67) dX2_advise_148 (by decide) ?_
                refine z_chg 2 (x' := (adM σ k.toNat (i + 1)).2) (lv' := [(8, vI ((i : Int) + 1)), (4, vI z_84), (3, vI ((adM σ k.toNat (i + 1)).2)), (11, vI z_117), (10, vI z_84), (9, vI ((fU (fU (fU (fU (fun _ => (0 : Int)) 0 2) 1 0) 2 1) 3 3) i)), (0, .ref (h 0)), (1, vI k), (2, vI (σ 1 k.toNat)), (5, .ref q34), (6, .ref q34), (7, vI 4)]) rfl (by rw [hA]) rfl ?_
                refine z_chg 1 (x' := (adM σ k.toNat (i + 1)).1) (lv' := [(8, vI ((i : Int) + 1)), (4, vI ((adM σ k.toNat (i + 1)).1)), (3, vI ((adM σ k.toNat (i + 1)).2)), (11, vI z_117), (10, vI z_84), (9, vI ((fU (fU (fU (fU (fun _ => (0 : Int)) 0 2) 1 0) 2 1) 3 3) i)), (0, .ref (h 0)), (1, vI k), (2, vI (σ 1 k.toNat)), (5, .ref q34), (6, .ref q34), (7, vI 4)]) rfl (by rw [hA]) rfl ?_
                refine z_chg 0 (x' := ((i + 1 : Nat) : Int)) (lv' := [(8, vI ((i + 1 : Nat) : Int)), (4, vI ((adM σ k.toNat (i + 1)).1)), (3, vI ((adM σ k.toNat (i + 1)).2)), (11, vI z_117), (10, vI z_84), (9, vI ((fU (fU (fU (fU (fun _ => (0 : Int)) 0 2) 1 0) 2 1) 3 3) i)), (0, .ref (h 0)), (1, vI k), (2, vI (σ 1 k.toNat)), (5, .ref q34), (6, .ref q34), (7, vI 4)]) rfl (by omega) rfl ?_
                refine z_sub (lv' := [(0, .ref (h 0)), (1, vI k), (2, vI (σ 1 k.toNat)), (3, vI ((adM σ k.toNat (i + 1)).2)), (4, vI ((adM σ k.toNat (i + 1)).1)), (5, .ref q34), (6, .ref q34), (7, vI 4), (8, vI ((i + 1 : Nat) : Int))]) [6, 7, 8, 2, 1, 9, 10, 11, 0] rfl ?_
                exact ih9 (i + 1) _ _ _ (by omega) (by omega) (by first | exact hL1 | exact lkL_r hO1 hL1 144) (by first | exact hB1 | exact lkB_r hO1 hB1 (Nat.le_refl _))
              ·
                have hA : adM σ k.toNat (i + 1) = adM σ k.toNat i := by simp only [adM]; rw [← hz9, if_neg (by rw [← hC]; omega)]
                refine z_goto C (tgt := 145) dX2_advise_135 (by decide) ?_
                refine z_iinc C 11 [(8, vI ((i : Int) + 1)), (11, vI z_117), (10, vI z_84), (9, vI ((fU (fU (fU (fU (fun _ => (0 : Int)) 0 2) 1 0) 2 1) 3 3) i)), (0, .ref (h 0)), (1, vI k), (2, vI (σ 1 k.toNat)), (3, vI ((adM σ k.toNat i).2)), (4, vI ((adM σ k.toNat i).1)), (5, .ref q34), (6, .ref q34), (7, vI 4)] dX2_advise_145 rfl (by decide) rfl ?_
                refine z_goto C (tgt := 67) dX2_advise_148 (by decide) ?_
                refine z_chg 7 (x' := (adM σ k.toNat (i + 1)).2) (lv' := [(8, vI ((i : Int) + 1)), (11, vI z_117), (10, vI z_84), (9, vI ((fU (fU (fU (fU (fun _ => (0 : Int)) 0 2) 1 0) 2 1) 3 3) i)), (0, .ref (h 0)), (1, vI k), (2, vI (σ 1 k.toNat)), (3, vI ((adM σ k.toNat (i + 1)).2)), (4, vI ((adM σ k.toNat i).1)), (5, .ref q34), (6, .ref q34), (7, vI 4)]) rfl (by rw [hA]) rfl ?_
                refine z_chg 8 (x' := (adM σ k.toNat (i + 1)).1) (lv' := [(8, vI ((i : Int) + 1)), (11, vI z_117), (10, vI z_84), (9, vI ((fU (fU (fU (fU (fun _ => (0 : Int)) 0 2) 1 0) 2 1) 3 3) i)), (0, .ref (h 0)), (1, vI k), (2, vI (σ 1 k.toNat)), (3, vI ((adM σ k.toNat (i + 1)).2)), (4, vI ((adM σ k.toNat (i + 1)).1)), (5, .ref q34), (6, .ref q34), (7, vI 4)]) rfl (by rw [hA]) rfl ?_
                refine z_chg 0 (x' := ((i + 1 : Nat) : Int)) (lv' := [(8, vI ((i + 1 : Nat) : Int)), (11, vI z_117), (10, vI z_84), (9, vI ((fU (fU (fU (fU (fun _ => (0 : Int)) 0 2) 1 0) 2 1) 3 3) i)), (0, .ref (h 0)), (1, vI k), (2, vI (σ 1 k.toNat)), (3, vI ((adM σ k.toNat (i + 1)).2)), (4, vI ((adM σ k.toNat (i + 1)).1)), (5, .ref q34), (6, .ref q34), (7, vI 4)]) rfl (by omega) rfl ?_
                refine z_sub (lv' := [(0, .ref (h 0)), (1, vI k), (2, vI (σ 1 k.toNat)), (3, vI ((adM σ k.toNat (i + 1)).2)), (4, vI ((adM σ k.toNat (i + 1)).1)), (5, .ref q34), (6, .ref q34), (7, vI 4), (8, vI ((i + 1 : Nat) : Int))]) [4, 5, 6, 7, 8, 9, 10, 11, 0] rfl ?_
                exact ih9 (i + 1) _ _ _ (by omega) (by omega) (by first | exact hL1 | exact lkL_r hO1 hL1 144) (by first | exact hB1 | exact lkB_r hO1 hB1 (Nat.le_refl _))
            ·
              have hB9 : lampB σ z_84 = true := f0_98.elim (fun q => q.1) (fun q => absurd q.2 c_102)
              have hA : adM σ k.toNat (i + 1) = adM σ k.toNat i := by simp only [adM]; rw [← hz9, if_neg (by rw [hB9]; simp)]
              refine z_goto C (tgt := 145) dX2_advise_105 (by decide) ?_
              refine z_iinc C 10 [(8, vI ((i : Int) + 1)), (10, vI z_84), (9, vI ((fU (fU (fU (fU (fun _ => (0 : Int)) 0 2) 1 0) 2 1) 3 3) i)), (0, .ref (h 0)), (1, vI k), (2, vI (σ 1 k.toNat)), (3, vI ((adM σ k.toNat i).2)), (4, vI ((adM σ k.toNat i).1)), (5, .ref q34), (6, .ref q34), (7, vI 4)] dX2_advise_145 rfl (by decide) rfl ?_
              refine z_goto C (tgt := 67) dX2_advise_148 (by decide) ?_
              refine z_chg 6 (x' := (adM σ k.toNat (i + 1)).2) (lv' := [(8, vI ((i : Int) + 1)), (10, vI z_84), (9, vI ((fU (fU (fU (fU (fun _ => (0 : Int)) 0 2) 1 0) 2 1) 3 3) i)), (0, .ref (h 0)), (1, vI k), (2, vI (σ 1 k.toNat)), (3, vI ((adM σ k.toNat (i + 1)).2)), (4, vI ((adM σ k.toNat i).1)), (5, .ref q34), (6, .ref q34), (7, vI 4)]) rfl (by rw [hA]) rfl ?_
              refine z_chg 7 (x' := (adM σ k.toNat (i + 1)).1) (lv' := [(8, vI ((i : Int) + 1)), (10, vI z_84), (9, vI ((fU (fU (fU (fU (fun _ => (0 : Int)) 0 2) 1 0) 2 1) 3 3) i)), (0, .ref (h 0)), (1, vI k), (2, vI (σ 1 k.toNat)), (3, vI ((adM σ k.toNat (i + 1)).2)), (4, vI ((adM σ k.toNat (i + 1)).1)), (5, .ref q34), (6, .ref q34), (7, vI 4)]) rfl (by rw [hA]) rfl ?_
              refine z_chg 0 (x' := ((i + 1 : Nat) : Int)) (lv' := [(8, vI ((i + 1 : Nat) : Int)), (10, vI z_84), (9, vI ((fU (fU (fU (fU (fun _ => (0 : Int)) 0 2) 1 0) 2 1) 3 3) i)), (0, .ref (h 0)), (1, vI k), (2, vI (σ 1 k.toNat)), (3, vI ((adM σ k.toNat (i + 1)).2)), (4, vI ((adM σ k.toNat (i + 1)).1)), (5, .ref q34), (6, .ref q34), (7, vI 4)]) rfl (by omega) rfl ?_
              refine z_sub (lv' := [(0, .ref (h 0)), (1, vI k), (2, vI (σ 1 k.toNat)), (3, vI ((adM σ k.toNat (i + 1)).2)), (4, vI ((adM σ k.toNat (i + 1)).1)), (5, .ref q34), (6, .ref q34), (7, vI 4), (8, vI ((i + 1 : Nat) : Int))]) [3, 4, 5, 6, 7, 8, 9, 10, 0] rfl ?_
              exact ih9 (i + 1) _ _ _ (by omega) (by omega) (by first | exact hL1 | exact lkL_r hO1 hL1 144) (by first | exact hB1 | exact lkB_r hO1 hB1 (Nat.le_refl _))
    refine z_chg 6 (x' := σ 1 k.toNat) (lv' := [(8, vI 0), (7, vI 4), (6, .ref q34), (5, .ref q34), (4, vI (-1)), (3, vI z_27), (2, vI (σ 1 k.toNat)), (0, .ref (h 0)), (1, vI k)]) rfl (by omega) rfl ?_
    refine z_chg 5 (x' := (adM σ k.toNat 0).2) (lv' := [(8, vI 0), (7, vI 4), (6, .ref q34), (5, .ref q34), (4, vI (-1)), (3, vI ((adM σ k.toNat 0).2)), (2, vI (σ 1 k.toNat)), (0, .ref (h 0)), (1, vI k)]) rfl (by rw [hz_27]; rfl) rfl ?_
    refine z_chg 4 (x' := (adM σ k.toNat 0).1) (lv' := [(8, vI 0), (7, vI 4), (6, .ref q34), (5, .ref q34), (4, vI ((adM σ k.toNat 0).1)), (3, vI ((adM σ k.toNat 0).2)), (2, vI (σ 1 k.toNat)), (0, .ref (h 0)), (1, vI k)]) rfl (rfl) rfl ?_
    refine z_chg 0 (x' := ((0 : Nat) : Int)) (lv' := [(8, vI ((0 : Nat) : Int)), (7, vI 4), (6, .ref q34), (5, .ref q34), (4, vI ((adM σ k.toNat 0).1)), (3, vI ((adM σ k.toNat 0).2)), (2, vI (σ 1 k.toNat)), (0, .ref (h 0)), (1, vI k)]) rfl (rfl) rfl ?_
    refine z_sub (lv' := [(0, .ref (h 0)), (1, vI k), (2, vI (σ 1 k.toNat)), (3, vI ((adM σ k.toNat 0).2)), (4, vI ((adM σ k.toNat 0).1)), (5, .ref q34), (6, .ref q34), (7, vI 4), (8, vI ((0 : Nat) : Int))]) [7, 8, 6, 5, 4, 3, 2, 1, 0] rfl ?_
    exact L_67 5 0 _ _ _ (by omega) (by omega) (lkL_r hO hL 144) (lkB_r hO hB (Nat.le_refl _))
  ·
    exfalso; omega

abbrev rm_X2_mean : Room := { frames := 5, cells := 0, slots := 0, locals := 124 }
set_option maxRecDepth 100000 in
theorem inU_X2_X2_mean : ∀ w ∈ u_ws RX2 TX2 14, w ∈ wsX2_mean := by decide +kernel
set_option maxHeartbeats 4000000 in
set_option maxRecDepth 100000 in
theorem c_X2_mean (l : Launch) (D : va_G) (cI cJ : ClassId) (h : Nat → Nat) (σ : YS) (LI BR : Nat → Int) (γ : YS) (φ : Nat → Int) (θ : Int) (hO : Ok σ) (hL : LI4 LI) (hB : BR9 BR) : Cd l yX2_mean wsX2_mean rm_X2_mean D [(cI, .int), (cJ, .long)] [.ref (h 0)] (mx cI h σ LI BR γ φ θ) (fun r u => (∃ φ' : Nat → Int, u = mx cI h σ (lkF (lgV σ) LI 144) (lkF (brV σ) BR 144) γ φ' 0) ∧ (litC (lgV σ) = 0 → r = FP.dconst0) ∧ (litC (lgV σ) ≠ 0 → alike64 r (FP.ddiv (FP.i2d (iI (sm (lkF (brV σ) BR 144) 144))) (FP.i2d (iI (litC (lgV σ))))) = true)) := by
  refine z_ofd (own := RX2) (cc := cX2_mean) (maxL := 2) (lv := [(0, .ref (h 0))]) (by decide) rfl rfl (Nat.le_of_ble_eq_true rfl) rfl ?_
  intro p e s m args below meth cd Q A C0 hret
  have C := C0.drawn s.drawn
  have hd0 := Drawn.sameBut.refl s.drawn lw_cs
  refine z_aload_n C 0 dX2_mean_0 rfl ?_
  refine z_iconst C dX2_mean_1 ?_
  refine z_put C (ref := "ShadowWallsModel") (T := TX2) (N := 14) (ci := 2) (ty := .int) (ws' := (mx cI h σ LI BR γ φ 0)) 0 0 inU_X2_X2_mean tyX2 tyX2_ok nmX2 rfl rfl (by decide) (by decide +kernel) (fun _ h9 => h9) rfl (by decide +kernel) (rfl) (rfl) (Nat.le_of_ble_eq_true rfl) rfl dX2_mean_2 ?_
  refine z_aload_n C 0 dX2_mean_5 rfl ?_
  refine z_callVi C (As := []) (st := []) (y := yX2_look) (w := wsX2_look) (rm := rm_X2_look) (wr := []) (k' := 0) (n' := 0) [0, 1, 2, 3, 4, 5, 6, 7, 8] [] 0 (c_X2_look l D cI cJ h σ LI BR γ φ 0 hO hL) (cwV 0 C.1.2.2.2.2 gX2_mean_X2_look rfl rfl rfl (by decide +kernel) ⟨Nat.le_of_ble_eq_true rfl, Nat.le_of_ble_eq_true rfl⟩) rfl rfl rfl rfl rfl (by decide) rfl rfl rfl rfl (Nat.le_of_ble_eq_true rfl) rfl rfl ⟨Nat.le_of_ble_eq_true rfl, Nat.le_of_ble_eq_true rfl⟩ dX2_mean_6 ?_
  rintro z_6 _ ⟨φ1, rfl, hz_6⟩
  refine z_ws (ws' := (mx cI h σ (lkF (lgV σ) LI 144) (lkF (brV σ) BR 144) γ φ1 0)) rfl ?_
  have r_6 := litC_r (lgV σ)
  have e_6 : z_6 = litC (lgV σ) := hz_6
  refine z_istore_n C [(1, vI z_6), (0, .ref (h 0))] dX2_mean_9 (by decide) rfl ?_
  refine z_iload_n C 0 dX2_mean_10 rfl ?_
  refine z_if_ne C (tgt := 18) dX2_mean_11 (by decide) (by omega) (fun c_11 => ?_) (fun c_11 => ?_)
  · refine z_aload_n C 1 dX2_mean_18 rfl ?_
    refine z_callVi C (As := []) (st := []) (y := yX2_allBright) (w := wsX2_allBright) (rm := rm_X2_allBright) (wr := []) (k' := 0) (n' := 0) [0, 1, 2, 3, 4, 5, 6, 7, 8] [] 0 (c_X2_allBright l D cI cJ h σ (lkF (lgV σ) LI 144) (lkF (brV σ) BR 144) γ φ1 0 (lkB_r hO hB (Nat.le_refl _))) (cwV 0 C.1.2.2.2.2 gX2_mean_X2_allBright rfl rfl rfl (by decide +kernel) ⟨Nat.le_of_ble_eq_true rfl, Nat.le_of_ble_eq_true rfl⟩) rfl rfl rfl rfl rfl (by decide) rfl rfl rfl rfl (Nat.le_of_ble_eq_true rfl) rfl rfl ⟨Nat.le_of_ble_eq_true rfl, Nat.le_of_ble_eq_true rfl⟩ dX2_mean_19 ?_
    rintro z_19 _ ⟨rfl, hz_19⟩
    refine z_ws (ws' := (mx cI h σ (lkF (lgV σ) LI 144) (lkF (brV σ) BR 144) γ φ1 0)) rfl ?_
    refine z_i2d C dX2_mean_22 ?_
    refine z_iload_n C 0 dX2_mean_23 rfl ?_
    refine z_i2d C dX2_mean_24 ?_
    refine z_ddiv hd0 C0.1.1 C0.1.2.1 dX2_mean_25 (fun r d1 hal hd1 => ?_)
    exact hret _ _ _ _ _ hd1 dX2_mean_26 ⟨⟨φ1, rfl⟩, fun q => absurd (e_6.trans q) c_11, fun _ => by rw [hz_19, e_6] at hal; exact hal⟩
  · refine z_dconst0 C dX2_mean_14 ?_
    refine z_goto C (tgt := 26) dX2_mean_15 (by decide) ?_
    exact hret _ _ _ _ _ hd0 dX2_mean_26 ⟨⟨φ1, rfl⟩, fun _ => rfl, fun q => absurd (e_6.symm.trans c_11) q⟩
