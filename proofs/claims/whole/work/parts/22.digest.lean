set_option maxRecDepth 100000 in
theorem inU_X1_X1_digest : ∀ w ∈ u_ws RX1 TX1 11, w ∈ wsX1_digest := by decide +kernel
abbrev rm_X1_digest : Room := { frames := 8, cells := 0, slots := 0, locals := 157 }
set_option maxHeartbeats 4000000 in
set_option maxRecDepth 100000 in
theorem c_X1_digest (l : Launch) (D : va_G) (cI cJ : ClassId) (h : Nat → Nat) (σ : YS) (LT : Nat → Int) (γ : YS) (φ : Nat → Int)  (hO : Ok σ) (hL : LR LT) : Cl l yX1_digest wsX1_digest rm_X1_digest D [(cI, .int), (cJ, .long)] [.ref (h 0)] (cw cI h σ LT γ φ) (fun z u => ∃ φ' : Nat → Int, u = (cw cI h σ LT γ φ') ∧ z = digV σ LT) := by
  refine z_ofl (own := RX1) (cc := cX1_digest) (maxL := 5) (lv := [(0, .ref (h 0))]) (by decide) rfl rfl (Nat.le_of_ble_eq_true rfl) rfl ?_
  intro p e s m args below meth cd Q A C hret
  have hn := hO.1
  have hm := hO.2.1
  have en := nLa_e hO
  have em := nWa_e hO
  refine z_ldc2 C (v := 1447) (by decide +kernel) dX1_digest_0 ?_
  refine z_lstore_n C [(1, .long 1447), (0, .ref (h 0))] dX1_digest_3 (by decide) rfl ?_
  refine z_iconst C dX1_digest_4 ?_
  refine z_istore_n C [(3, vI 0), (1, .long 1447), (0, .ref (h 0))] dX1_digest_5 (by decide) rfl ?_
  have L_6 : ∀ (d9 i : Nat) (φ1 : Nat → Int) (hi : i ≤ 8) (hd : 8 + 1 ≤ i + d9), Zs p l e rm_X1_digest s m args below meth cd Q A D 5 6 [(0, .ref (h 0)), (1, .long (dgF (fun wh => couV σ LT (wh : Int)) 1447 i)), (3, vI (i : Int))] [] (cw cI h σ LT γ φ1) 0 0 := by
    intro d9
    induction d9 with
    | zero =>
      intro i φ1 hi hd
      exfalso; omega
    | succ d9 ih9 =>
      intro i φ1 hi hd
      refine z_iload_n C 2 dX1_digest_6 rfl ?_
      refine z_bipush C dX1_digest_7 (by decide) ?_
      refine z_icmp_gt C (tgt := 31) dX1_digest_9 (by decide) (by omega) (by omega) (fun c_9 => ?_) (fun c_9 => ?_)
      ·
        obtain rfl : i = 8 := by omega
        refine z_sub (lv' := [(0, .ref (h 0)), (1, .long (dgF (fun wh => couV σ LT (wh : Int)) 1447 8))]) [0, 1] rfl ?_
        refine z_iconst C dX1_digest_31 ?_
        refine z_istore_n C [(3, vI 0), (0, .ref (h 0)), (1, .long (dgF (fun wh => couV σ LT (wh : Int)) 1447 8))] dX1_digest_32 (by decide) rfl ?_
        have L_33 : ∀ (d9 i : Nat) (φ1 : Nat → Int) (hi : i ≤ 144) (hd : 144 + 1 ≤ i + d9), Zs p l e rm_X1_digest s m args below meth cd Q A D 5 33 [(0, .ref (h 0)), (1, .long (dgC σ LT (dgF (fun wh => couV σ LT (wh : Int)) 1447 8) i)), (3, vI (i : Int))] [] (cw cI h σ LT γ φ1) 0 0 := by
          intro d9
          induction d9 with
          | zero =>
            intro i φ1 hi hd
            exfalso; omega
          | succ d9 ih9 =>
            intro i φ1 hi hd
            refine z_iload_n C 2 dX1_digest_33 rfl ?_
            refine z_sipush C dX1_digest_34 (by decide) ?_
            refine z_icmp_ge C (tgt := 75) dX1_digest_37 (by decide) (by omega) (by omega) (fun c_37 => ?_) (fun c_37 => ?_)
            ·
              obtain rfl : i = 144 := by omega
              refine z_sub (lv' := [(0, .ref (h 0)), (1, .long (dgC σ LT (dgF (fun wh => couV σ LT (wh : Int)) 1447 8) 144))]) [0, 1] rfl ?_
              refine z_iconst C dX1_digest_75 ?_
              refine z_istore_n C [(3, vI 0), (0, .ref (h 0)), (1, .long (dgC σ LT (dgF (fun wh => couV σ LT (wh : Int)) 1447 8) 144))] dX1_digest_76 (by decide) rfl ?_
              have L_77 : ∀ (d9 i : Nat) (φ1 : Nat → Int) (hi : i ≤ (nLa σ)) (hd : (nLa σ) + 1 ≤ i + d9), Zs p l e rm_X1_digest s m args below meth cd Q A D 5 77 [(0, .ref (h 0)), (1, .long (dgL σ LT (dgC σ LT (dgF (fun wh => couV σ LT (wh : Int)) 1447 8) 144) i)), (3, vI (i : Int))] [] (cw cI h σ LT γ φ1) 0 0 := by
                intro d9
                induction d9 with
                | zero =>
                  intro i φ1 hi hd
                  exfalso; omega
                | succ d9 ih9 =>
                  intro i φ1 hi hd
                  refine z_iload_n C 2 dX1_digest_77 rfl ?_
                  refine z_aload_n C 0 dX1_digest_78 rfl ?_
                  refine z_get C (v := vI (σ 4 0)) (ref := "ShadowWalls") (T := TX1) (N := 11) (ci := 1) 0 8 inU_X1_X1_digest rfl rfl (by decide) (by decide +kernel) (fun _ h9 => h9) rfl dX1_digest_79 ?_
                  refine z_icmp_ge C (tgt := 121) dX1_digest_82 (by decide) (by omega) (by omega) (fun c_82 => ?_) (fun c_82 => ?_)
                  ·
                    obtain rfl : i = (nLa σ) := by omega
                    refine z_sub (lv' := [(0, .ref (h 0)), (1, .long (dgL σ LT (dgC σ LT (dgF (fun wh => couV σ LT (wh : Int)) 1447 8) 144) (nLa σ)))]) [0, 1] rfl ?_
                    refine z_iconst C dX1_digest_121 ?_
                    refine z_istore_n C [(3, vI 0), (0, .ref (h 0)), (1, .long (dgL σ LT (dgC σ LT (dgF (fun wh => couV σ LT (wh : Int)) 1447 8) 144) (nLa σ)))] dX1_digest_122 (by decide) rfl ?_
                    have L_123 : ∀ (d9 i : Nat) (φ1 : Nat → Int) (hi : i ≤ (nWa σ)) (hd : (nWa σ) + 1 ≤ i + d9), Zs p l e rm_X1_digest s m args below meth cd Q A D 5 123 [(0, .ref (h 0)), (1, .long (dgW σ LT (dgL σ LT (dgC σ LT (dgF (fun wh => couV σ LT (wh : Int)) 1447 8) 144) (nLa σ)) i)), (3, vI (i : Int))] [] (cw cI h σ LT γ φ1) 0 0 := by
                      intro d9
                      induction d9 with
                      | zero =>
                        intro i φ1 hi hd
                        exfalso; omega
                      | succ d9 ih9 =>
                        intro i φ1 hi hd
                        refine z_iload_n C 2 dX1_digest_123 rfl ?_
                        refine z_aload_n C 0 dX1_digest_124 rfl ?_
                        refine z_get C (v := vI (σ 4 1)) (ref := "ShadowWalls") (T := TX1) (N := 11) (ci := 1) 0 9 inU_X1_X1_digest rfl rfl (by decide) (by decide +kernel) (fun _ h9 => h9) rfl dX1_digest_125 ?_
                        refine z_icmp_ge C (tgt := 167) dX1_digest_128 (by decide) (by omega) (by omega) (fun c_128 => ?_) (fun c_128 => ?_)
                        ·
                          obtain rfl : i = (nWa σ) := by omega
                          refine z_sub (lv' := [(0, .ref (h 0)), (1, .long (dgW σ LT (dgL σ LT (dgC σ LT (dgF (fun wh => couV σ LT (wh : Int)) 1447 8) 144) (nLa σ)) (nWa σ)))]) [0, 1] rfl ?_
                          refine z_lload_n C 1 dX1_digest_167 rfl ?_
                          exact hret _ _ _ _ dX1_digest_168 ⟨_, rfl, by rfl⟩
                        ·
                          refine z_iconst C dX1_digest_131 ?_
                          refine z_istore C [(4, vI 0), (0, .ref (h 0)), (1, .long (dgW σ LT (dgL σ LT (dgC σ LT (dgF (fun wh => couV σ LT (wh : Int)) 1447 8) 144) (nLa σ)) i)), (3, vI (i : Int))] dX1_digest_132 (by decide) rfl ?_
                          have L_134 : ∀ (d8 j : Nat) (φ2 : Nat → Int) (hj : j ≤ 5) (hd2 : 6 ≤ j + d8), Zs p l e rm_X1_digest s m args below meth cd Q A D 5 134 [(0, .ref (h 0)), (1, .long (dgF (fun wh => seaV σ LT i (wh : Int)) (dgW σ LT (dgL σ LT (dgC σ LT (dgF (fun wh => couV σ LT (wh : Int)) 1447 8) 144) (nLa σ)) i) j)), (3, vI (i : Int)), (4, vI (j : Int))] [] (cw cI h σ LT γ φ2) 0 0 := by
                            intro d8
                            induction d8 with
                            | zero =>
                              intro j φ2 hj hd2
                              exfalso; omega
                            | succ d8 ih8 =>
                              intro j φ2 hj hd2
                              refine z_iload C 3 dX1_digest_134 rfl ?_
                              refine z_iconst C dX1_digest_136 ?_
                              refine z_icmp_gt C (tgt := 161) dX1_digest_137 (by decide) (by omega) (by omega) (fun c_137 => ?_) (fun c_137 => ?_)
                              ·
                                refine z_iinc C 2 [(3, vI ((i : Int) + 1)), (0, .ref (h 0)), (1, .long (dgF (fun wh => seaV σ LT i (wh : Int)) (dgW σ LT (dgL σ LT (dgC σ LT (dgF (fun wh => couV σ LT (wh : Int)) 1447 8) 144) (nLa σ)) i) j)), (4, vI (j : Int))] dX1_digest_161 rfl (by decide) rfl ?_
                                refine z_goto C (tgt := 123) dX1_digest_164 (by decide) ?_
                                refine z_chgl 2 (x' := dgW σ LT (dgL σ LT (dgC σ LT (dgF (fun wh => couV σ LT (wh : Int)) 1447 8) 144) (nLa σ)) (i + 1)) (lv' := [(3, vI ((i : Int) + 1)), (0, .ref (h 0)), (1, .long (dgW σ LT (dgL σ LT (dgC σ LT (dgF (fun wh => couV σ LT (wh : Int)) 1447 8) 144) (nLa σ)) (i + 1))), (4, vI (j : Int))]) rfl (by rw [show j = 5 by omega]; rfl) rfl ?_
                                refine z_chg 0 (x' := ((i + 1 : Nat) : Int)) (lv' := [(3, vI ((i + 1 : Nat) : Int)), (0, .ref (h 0)), (1, .long (dgW σ LT (dgL σ LT (dgC σ LT (dgF (fun wh => couV σ LT (wh : Int)) 1447 8) 144) (nLa σ)) (i + 1))), (4, vI (j : Int))]) rfl (by omega) rfl ?_
                                refine z_sub (lv' := [(0, .ref (h 0)), (1, .long (dgW σ LT (dgL σ LT (dgC σ LT (dgF (fun wh => couV σ LT (wh : Int)) 1447 8) 144) (nLa σ)) (i + 1))), (3, vI ((i + 1 : Nat) : Int))]) [1, 2, 0] rfl ?_
                                exact ih9 (i + 1) φ2 (by omega) (by omega)
                              ·
                                refine z_lload_n C 1 dX1_digest_140 rfl ?_
                                refine z_ldc2 C (v := 31) (by decide +kernel) dX1_digest_141 ?_
                                refine z_lmul C dX1_digest_144 ?_
                                refine z_aload_n C 0 dX1_digest_145 rfl ?_
                                refine z_iload_n C 2 dX1_digest_146 rfl ?_
                                refine z_iload C 3 dX1_digest_147 rfl ?_
                                refine z_callVi C (As := [vI (i : Int), vI (j : Int)]) (st := [.long ((dgF (fun wh => seaV σ LT i (wh : Int)) (dgW σ LT (dgL σ LT (dgC σ LT (dgF (fun wh => couV σ LT (wh : Int)) 1447 8) 144) (nLa σ)) i) j) * 31)]) (y := yX1_seat) (w := wsX1_seat) (rm := rm_X1_seat) (wr := []) (k' := 0) (n' := 0) [0, 1, 2, 3, 4, 5, 6, 7, 8] [] 0 (c_X1_seat l D cI cJ h σ LT γ φ2 (i : Int) (j : Int) (by omega) (by omega) hO hL) (cwV 2 C.1.2.2.2.2 gX1_digest_X1_seat rfl rfl rfl (by decide +kernel) ⟨Nat.le_of_ble_eq_true rfl, Nat.le_of_ble_eq_true rfl⟩) rfl rfl rfl rfl rfl (by decide) rfl rfl rfl rfl (Nat.le_of_ble_eq_true rfl) rfl rfl ⟨Nat.le_of_ble_eq_true rfl, Nat.le_of_ble_eq_true rfl⟩ dX1_digest_149 ?_
                                rintro z_149 _ ⟨φ'_149, rfl, hz_149⟩
                                refine z_ws (ws' := (cw cI h σ LT γ φ'_149)) rfl ?_
                                have hz_149 : z_149 = seaV σ LT i (j : Int) := hz_149
                                refine z_i2l C dX1_digest_152 ?_
                                refine z_ladd C dX1_digest_153 ?_
                                refine z_lstore_n C [(1, .long (((dgF (fun wh => seaV σ LT i (wh : Int)) (dgW σ LT (dgL σ LT (dgC σ LT (dgF (fun wh => couV σ LT (wh : Int)) 1447 8) 144) (nLa σ)) i) j) * 31) + ((iI z_149).toInt64))), (0, .ref (h 0)), (3, vI (i : Int)), (4, vI (j : Int))] dX1_digest_154 (by decide) rfl ?_
                                refine z_iinc C 3 [(4, vI ((j : Int) + 1)), (1, .long (((dgF (fun wh => seaV σ LT i (wh : Int)) (dgW σ LT (dgL σ LT (dgC σ LT (dgF (fun wh => couV σ LT (wh : Int)) 1447 8) 144) (nLa σ)) i) j) * 31) + ((iI z_149).toInt64))), (0, .ref (h 0)), (3, vI (i : Int))] dX1_digest_155 rfl (by decide) rfl ?_
                                refine z_goto C (tgt := 134) dX1_digest_158 (by decide) ?_
                                refine z_chgl 1 (x' := dgF (fun wh => seaV σ LT i (wh : Int)) (dgW σ LT (dgL σ LT (dgC σ LT (dgF (fun wh => couV σ LT (wh : Int)) 1447 8) 144) (nLa σ)) i) (j + 1)) (lv' := [(4, vI ((j : Int) + 1)), (1, .long (dgF (fun wh => seaV σ LT i (wh : Int)) (dgW σ LT (dgL σ LT (dgC σ LT (dgF (fun wh => couV σ LT (wh : Int)) 1447 8) 144) (nLa σ)) i) (j + 1))), (0, .ref (h 0)), (3, vI (i : Int))]) rfl (by rw [hz_149]; rfl) rfl ?_
                                refine z_chg 0 (x' := ((j + 1 : Nat) : Int)) (lv' := [(4, vI ((j + 1 : Nat) : Int)), (1, .long (dgF (fun wh => seaV σ LT i (wh : Int)) (dgW σ LT (dgL σ LT (dgC σ LT (dgF (fun wh => couV σ LT (wh : Int)) 1447 8) 144) (nLa σ)) i) (j + 1))), (0, .ref (h 0)), (3, vI (i : Int))]) rfl (by omega) rfl ?_
                                refine z_sub (lv' := [(0, .ref (h 0)), (1, .long (dgF (fun wh => seaV σ LT i (wh : Int)) (dgW σ LT (dgL σ LT (dgC σ LT (dgF (fun wh => couV σ LT (wh : Int)) 1447 8) 144) (nLa σ)) i) (j + 1))), (3, vI (i : Int)), (4, vI ((j + 1 : Nat) : Int))]) [2, 1, 3, 0] rfl ?_
                                exact ih8 (j + 1) φ'_149 (by omega) (by omega)
                          refine z_sub (lv' := [(0, .ref (h 0)), (1, .long (dgW σ LT (dgL σ LT (dgC σ LT (dgF (fun wh => couV σ LT (wh : Int)) 1447 8) 144) (nLa σ)) i)), (3, vI (i : Int)), (4, vI 0)]) [1, 2, 3, 0] rfl ?_
                          exact L_134 6 0 φ1 (by omega) (by omega)
                    refine z_sub (lv' := [(0, .ref (h 0)), (1, .long (dgL σ LT (dgC σ LT (dgF (fun wh => couV σ LT (wh : Int)) 1447 8) 144) (nLa σ))), (3, vI 0)]) [1, 2, 0] rfl ?_
                    exact L_123 ((nWa σ) + 1) 0 φ1 (Nat.zero_le _) (by omega)
                  ·
                    refine z_iconst C dX1_digest_85 ?_
                    refine z_istore C [(4, vI 0), (0, .ref (h 0)), (1, .long (dgL σ LT (dgC σ LT (dgF (fun wh => couV σ LT (wh : Int)) 1447 8) 144) i)), (3, vI (i : Int))] dX1_digest_86 (by decide) rfl ?_
                    have L_88 : ∀ (d8 j : Nat) (φ2 : Nat → Int) (hj : j ≤ 4) (hd2 : 5 ≤ j + d8), Zs p l e rm_X1_digest s m args below meth cd Q A D 5 88 [(0, .ref (h 0)), (1, .long (dgF (fun wh => aboV σ LT i (wh : Int)) (dgL σ LT (dgC σ LT (dgF (fun wh => couV σ LT (wh : Int)) 1447 8) 144) i) j)), (3, vI (i : Int)), (4, vI (j : Int))] [] (cw cI h σ LT γ φ2) 0 0 := by
                      intro d8
                      induction d8 with
                      | zero =>
                        intro j φ2 hj hd2
                        exfalso; omega
                      | succ d8 ih8 =>
                        intro j φ2 hj hd2
                        refine z_iload C 3 dX1_digest_88 rfl ?_
                        refine z_iconst C dX1_digest_90 ?_
                        refine z_icmp_gt C (tgt := 115) dX1_digest_91 (by decide) (by omega) (by omega) (fun c_91 => ?_) (fun c_91 => ?_)
                        ·
                          refine z_iinc C 2 [(3, vI ((i : Int) + 1)), (0, .ref (h 0)), (1, .long (dgF (fun wh => aboV σ LT i (wh : Int)) (dgL σ LT (dgC σ LT (dgF (fun wh => couV σ LT (wh : Int)) 1447 8) 144) i) j)), (4, vI (j : Int))] dX1_digest_115 rfl (by decide) rfl ?_
                          refine z_goto C (tgt := 77) dX1_digest_118 (by decide) ?_
                          refine z_chgl 2 (x' := dgL σ LT (dgC σ LT (dgF (fun wh => couV σ LT (wh : Int)) 1447 8) 144) (i + 1)) (lv' := [(3, vI ((i : Int) + 1)), (0, .ref (h 0)), (1, .long (dgL σ LT (dgC σ LT (dgF (fun wh => couV σ LT (wh : Int)) 1447 8) 144) (i + 1))), (4, vI (j : Int))]) rfl (by rw [show j = 4 by omega]; rfl) rfl ?_
                          refine z_chg 0 (x' := ((i + 1 : Nat) : Int)) (lv' := [(3, vI ((i + 1 : Nat) : Int)), (0, .ref (h 0)), (1, .long (dgL σ LT (dgC σ LT (dgF (fun wh => couV σ LT (wh : Int)) 1447 8) 144) (i + 1))), (4, vI (j : Int))]) rfl (by omega) rfl ?_
                          refine z_sub (lv' := [(0, .ref (h 0)), (1, .long (dgL σ LT (dgC σ LT (dgF (fun wh => couV σ LT (wh : Int)) 1447 8) 144) (i + 1))), (3, vI ((i + 1 : Nat) : Int))]) [1, 2, 0] rfl ?_
                          exact ih9 (i + 1) φ2 (by omega) (by omega)
                        ·
                          refine z_lload_n C 1 dX1_digest_94 rfl ?_
                          refine z_ldc2 C (v := 31) (by decide +kernel) dX1_digest_95 ?_
                          refine z_lmul C dX1_digest_98 ?_
                          refine z_aload_n C 0 dX1_digest_99 rfl ?_
                          refine z_iload_n C 2 dX1_digest_100 rfl ?_
                          refine z_iload C 3 dX1_digest_101 rfl ?_
                          refine z_callVi C (As := [vI (i : Int), vI (j : Int)]) (st := [.long ((dgF (fun wh => aboV σ LT i (wh : Int)) (dgL σ LT (dgC σ LT (dgF (fun wh => couV σ LT (wh : Int)) 1447 8) 144) i) j) * 31)]) (y := yX1_about) (w := wsX1_about) (rm := rm_X1_about) (wr := []) (k' := 0) (n' := 0) [0, 1, 2, 3, 4, 5, 6, 7, 8] [] 0 (c_X1_about l D cI cJ h σ LT γ φ2 (i : Int) (j : Int) (by omega) (by omega) hO hL) (cwV 2 C.1.2.2.2.2 gX1_digest_X1_about rfl rfl rfl (by decide +kernel) ⟨Nat.le_of_ble_eq_true rfl, Nat.le_of_ble_eq_true rfl⟩) rfl rfl rfl rfl rfl (by decide) rfl rfl rfl rfl (Nat.le_of_ble_eq_true rfl) rfl rfl ⟨Nat.le_of_ble_eq_true rfl, Nat.le_of_ble_eq_true rfl⟩ dX1_digest_103 ?_
                          rintro z_103 _ ⟨rfl, hz_103⟩
                          refine z_ws (ws' := (cw cI h σ LT γ φ2)) rfl ?_
                          have hz_103 : z_103 = aboV σ LT i (j : Int) := hz_103
                          refine z_i2l C dX1_digest_106 ?_
                          refine z_ladd C dX1_digest_107 ?_
                          refine z_lstore_n C [(1, .long (((dgF (fun wh => aboV σ LT i (wh : Int)) (dgL σ LT (dgC σ LT (dgF (fun wh => couV σ LT (wh : Int)) 1447 8) 144) i) j) * 31) + ((iI z_103).toInt64))), (0, .ref (h 0)), (3, vI (i : Int)), (4, vI (j : Int))] dX1_digest_108 (by decide) rfl ?_
                          refine z_iinc C 3 [(4, vI ((j : Int) + 1)), (1, .long (((dgF (fun wh => aboV σ LT i (wh : Int)) (dgL σ LT (dgC σ LT (dgF (fun wh => couV σ LT (wh : Int)) 1447 8) 144) i) j) * 31) + ((iI z_103).toInt64))), (0, .ref (h 0)), (3, vI (i : Int))] dX1_digest_109 rfl (by decide) rfl ?_
                          refine z_goto C (tgt := 88) dX1_digest_112 (by decide) ?_
                          refine z_chgl 1 (x' := dgF (fun wh => aboV σ LT i (wh : Int)) (dgL σ LT (dgC σ LT (dgF (fun wh => couV σ LT (wh : Int)) 1447 8) 144) i) (j + 1)) (lv' := [(4, vI ((j : Int) + 1)), (1, .long (dgF (fun wh => aboV σ LT i (wh : Int)) (dgL σ LT (dgC σ LT (dgF (fun wh => couV σ LT (wh : Int)) 1447 8) 144) i) (j + 1))), (0, .ref (h 0)), (3, vI (i : Int))]) rfl (by rw [hz_103]; rfl) rfl ?_
                          refine z_chg 0 (x' := ((j + 1 : Nat) : Int)) (lv' := [(4, vI ((j + 1 : Nat) : Int)), (1, .long (dgF (fun wh => aboV σ LT i (wh : Int)) (dgL σ LT (dgC σ LT (dgF (fun wh => couV σ LT (wh : Int)) 1447 8) 144) i) (j + 1))), (0, .ref (h 0)), (3, vI (i : Int))]) rfl (by omega) rfl ?_
                          refine z_sub (lv' := [(0, .ref (h 0)), (1, .long (dgF (fun wh => aboV σ LT i (wh : Int)) (dgL σ LT (dgC σ LT (dgF (fun wh => couV σ LT (wh : Int)) 1447 8) 144) i) (j + 1))), (3, vI (i : Int)), (4, vI ((j + 1 : Nat) : Int))]) [2, 1, 3, 0] rfl ?_
                          exact ih8 (j + 1) φ2 (by omega) (by omega)
                    refine z_sub (lv' := [(0, .ref (h 0)), (1, .long (dgL σ LT (dgC σ LT (dgF (fun wh => couV σ LT (wh : Int)) 1447 8) 144) i)), (3, vI (i : Int)), (4, vI 0)]) [1, 2, 3, 0] rfl ?_
                    exact L_88 5 0 φ1 (by omega) (by omega)
              refine z_sub (lv' := [(0, .ref (h 0)), (1, .long (dgC σ LT (dgF (fun wh => couV σ LT (wh : Int)) 1447 8) 144)), (3, vI 0)]) [1, 2, 0] rfl ?_
              exact L_77 ((nLa σ) + 1) 0 φ1 (Nat.zero_le _) (by omega)
            ·
              refine z_lload_n C 1 dX1_digest_40 rfl ?_
              refine z_ldc2 C (v := 31) (by decide +kernel) dX1_digest_41 ?_
              refine z_lmul C dX1_digest_44 ?_
              refine z_aload_n C 0 dX1_digest_45 rfl ?_
              refine z_iload_n C 2 dX1_digest_46 rfl ?_
              refine z_callVi C (As := [vI (i : Int)]) (st := [.long ((dgC σ LT (dgF (fun wh => couV σ LT (wh : Int)) 1447 8) i) * 31)]) (y := yX1_kindOf) (w := wsX1_kindOf) (rm := rm_X1_kindOf) (wr := []) (k' := 0) (n' := 0) [0, 1, 2, 3, 4, 5, 6, 7, 8] [] 0 (c_X1_kindOf l D cI cJ h σ LT γ φ1 (i : Int) (by omega)) (cwV 1 C.1.2.2.2.2 gX1_digest_X1_kindOf rfl rfl rfl (by decide +kernel) ⟨Nat.le_of_ble_eq_true rfl, Nat.le_of_ble_eq_true rfl⟩) rfl rfl rfl rfl rfl (by decide) rfl rfl rfl rfl (Nat.le_of_ble_eq_true rfl) rfl rfl ⟨Nat.le_of_ble_eq_true rfl, Nat.le_of_ble_eq_true rfl⟩ dX1_digest_47 ?_
              rintro z_47 _ ⟨rfl, rfl⟩
              refine z_ws (ws' := (cw cI h σ LT γ φ1)) rfl ?_
              refine z_st (v' := (σ 0 i)) rfl ?_
              refine z_i2l C dX1_digest_50 ?_
              refine z_ladd C dX1_digest_51 ?_
              refine z_lstore_n C [(1, .long (((dgC σ LT (dgF (fun wh => couV σ LT (wh : Int)) 1447 8) i) * 31) + ((iI (σ 0 i)).toInt64))), (0, .ref (h 0)), (3, vI (i : Int))] dX1_digest_52 (by decide) rfl ?_
              refine z_lload_n C 0 dX1_digest_53 rfl ?_
              refine z_ldc2 C (v := 31) (by decide +kernel) dX1_digest_54 ?_
              refine z_lmul C dX1_digest_57 ?_
              refine z_aload_n C 1 dX1_digest_58 rfl ?_
              refine z_iload_n C 2 dX1_digest_59 rfl ?_
              refine z_callVi C (As := [vI (i : Int)]) (st := [.long ((((dgC σ LT (dgF (fun wh => couV σ LT (wh : Int)) 1447 8) i) * 31) + ((iI (σ 0 i)).toInt64)) * 31)]) (y := yX1_lampsOn) (w := wsX1_lampsOn) (rm := rm_X1_lampsOn) (wr := []) (k' := 0) (n' := 0) [0, 1, 2, 3, 4, 5, 6, 7, 8] [] 0 (c_X1_lampsOn l D cI cJ h σ LT γ φ1 (i : Int) (by omega)) (cwV 1 C.1.2.2.2.2 gX1_digest_X1_lampsOn rfl rfl rfl (by decide +kernel) ⟨Nat.le_of_ble_eq_true rfl, Nat.le_of_ble_eq_true rfl⟩) rfl rfl rfl rfl rfl (by decide) rfl rfl rfl rfl (Nat.le_of_ble_eq_true rfl) rfl rfl ⟨Nat.le_of_ble_eq_true rfl, Nat.le_of_ble_eq_true rfl⟩ dX1_digest_60 ?_
              rintro z_60 _ ⟨rfl, rfl⟩
              refine z_ws (ws' := (cw cI h σ LT γ φ1)) rfl ?_
              refine z_st (v' := (LT i)) rfl ?_
              refine z_callSi C (As := [vI (LT i)]) (st := [.long ((((dgC σ LT (dgF (fun wh => couV σ LT (wh : Int)) 1447 8) i) * 31) + ((iI (σ 0 i)).toInt64)) * 31)]) (y := yJ6_bitCount_0f7a4) (w := wsJ6_bitCount_0f7a4) (rm := rm_J6_bitCount_0f7a4) (wr := (cw cI h σ LT γ φ1)) (k' := 0) (n' := 0) [] [0, 1, 2, 3, 4, 5, 6, 7, 8] (c_J6_bitCount_0f7a4 l D cI cJ  (LT i) (hL _)) (va_cwS 1 C.1.2.2.2.2 gX1_digest_J6_bitCount_0f7a4 rfl rfl rfl (by decide +kernel) ⟨Nat.le_of_ble_eq_true rfl, Nat.le_of_ble_eq_true rfl⟩) rfl rfl rfl rfl rfl (by decide) rfl rfl (Nat.le_of_ble_eq_true rfl) rfl rfl ⟨Nat.le_of_ble_eq_true rfl, Nat.le_of_ble_eq_true rfl⟩ dX1_digest_63 ?_
              rintro z_63 _ ⟨rfl, hz_63⟩
              refine z_ws (ws' := (cw cI h σ LT γ φ1)) rfl ?_
              have hz_63 : z_63 = sm (fun k => bI (bt (LT i) k)) 4 := hz_63
              refine z_i2l C dX1_digest_66 ?_
              refine z_ladd C dX1_digest_67 ?_
              refine z_lstore_n C [(1, .long (((((dgC σ LT (dgF (fun wh => couV σ LT (wh : Int)) 1447 8) i) * 31) + ((iI (σ 0 i)).toInt64)) * 31) + ((iI z_63).toInt64))), (0, .ref (h 0)), (3, vI (i : Int))] dX1_digest_68 (by decide) rfl ?_
              refine z_iinc C 2 [(3, vI ((i : Int) + 1)), (1, .long (((((dgC σ LT (dgF (fun wh => couV σ LT (wh : Int)) 1447 8) i) * 31) + ((iI (σ 0 i)).toInt64)) * 31) + ((iI z_63).toInt64))), (0, .ref (h 0))] dX1_digest_69 rfl (by decide) rfl ?_
              refine z_goto C (tgt := 33) dX1_digest_72 (by decide) ?_
              refine z_chgl 1 (x' := dgC σ LT (dgF (fun wh => couV σ LT (wh : Int)) 1447 8) (i + 1)) (lv' := [(3, vI ((i : Int) + 1)), (1, .long (dgC σ LT (dgF (fun wh => couV σ LT (wh : Int)) 1447 8) (i + 1))), (0, .ref (h 0))]) rfl (by rw [hz_63]; rfl) rfl ?_
              refine z_chg 0 (x' := ((i + 1 : Nat) : Int)) (lv' := [(3, vI ((i + 1 : Nat) : Int)), (1, .long (dgC σ LT (dgF (fun wh => couV σ LT (wh : Int)) 1447 8) (i + 1))), (0, .ref (h 0))]) rfl (by omega) rfl ?_
              refine z_sub (lv' := [(0, .ref (h 0)), (1, .long (dgC σ LT (dgF (fun wh => couV σ LT (wh : Int)) 1447 8) (i + 1))), (3, vI ((i + 1 : Nat) : Int))]) [2, 1, 0] rfl ?_
              exact ih9 (i + 1) φ1 (by omega) (by omega)
        refine z_sub (lv' := [(0, .ref (h 0)), (1, .long (dgF (fun wh => couV σ LT (wh : Int)) 1447 8)), (3, vI 0)]) [1, 2, 0] rfl ?_
        exact L_33 (144 + 1) 0 φ1 (Nat.zero_le _) (by omega)
      ·
        refine z_lload_n C 1 dX1_digest_12 rfl ?_
        refine z_ldc2 C (v := 31) (by decide +kernel) dX1_digest_13 ?_
        refine z_lmul C dX1_digest_16 ?_
        refine z_aload_n C 0 dX1_digest_17 rfl ?_
        refine z_iload_n C 2 dX1_digest_18 rfl ?_
        refine z_callVi C (As := [vI (i : Int)]) (st := [.long ((dgF (fun wh => couV σ LT (wh : Int)) 1447 i) * 31)]) (y := yX1_count) (w := wsX1_count) (rm := rm_X1_count) (wr := []) (k' := 0) (n' := 0) [0, 1, 2, 3, 4, 5, 6, 7, 8] [] 0 (c_X1_count l D cI cJ h σ LT γ φ1 (i : Int) (by omega) hO hL) (cwV 1 C.1.2.2.2.2 gX1_digest_X1_count rfl rfl rfl (by decide +kernel) ⟨Nat.le_of_ble_eq_true rfl, Nat.le_of_ble_eq_true rfl⟩) rfl rfl rfl rfl rfl (by decide) rfl rfl rfl rfl (Nat.le_of_ble_eq_true rfl) rfl rfl ⟨Nat.le_of_ble_eq_true rfl, Nat.le_of_ble_eq_true rfl⟩ dX1_digest_19 ?_
        rintro z_19 _ ⟨φ'_19, rfl, hz_19⟩
        refine z_ws (ws' := (cw cI h σ LT γ φ'_19)) rfl ?_
        have hz_19 : z_19 = couV σ LT (i : Int) := hz_19
        refine z_i2l C dX1_digest_22 ?_
        refine z_ladd C dX1_digest_23 ?_
        refine z_lstore_n C [(1, .long (((dgF (fun wh => couV σ LT (wh : Int)) 1447 i) * 31) + ((iI z_19).toInt64))), (0, .ref (h 0)), (3, vI (i : Int))] dX1_digest_24 (by decide) rfl ?_
        refine z_iinc C 2 [(3, vI ((i : Int) + 1)), (1, .long (((dgF (fun wh => couV σ LT (wh : Int)) 1447 i) * 31) + ((iI z_19).toInt64))), (0, .ref (h 0))] dX1_digest_25 rfl (by decide) rfl ?_
        refine z_goto C (tgt := 6) dX1_digest_28 (by decide) ?_
        refine z_chgl 1 (x' := dgF (fun wh => couV σ LT (wh : Int)) 1447 (i + 1)) (lv' := [(3, vI ((i : Int) + 1)), (1, .long (dgF (fun wh => couV σ LT (wh : Int)) 1447 (i + 1))), (0, .ref (h 0))]) rfl (by rw [hz_19]; rfl) rfl ?_
        refine z_chg 0 (x' := ((i + 1 : Nat) : Int)) (lv' := [(3, vI ((i + 1 : Nat) : Int)), (1, .long (dgF (fun wh => couV σ LT (wh : Int)) 1447 (i + 1))), (0, .ref (h 0))]) rfl (by omega) rfl ?_
        refine z_sub (lv' := [(0, .ref (h 0)), (1, .long (dgF (fun wh => couV σ LT (wh : Int)) 1447 (i + 1))), (3, vI ((i + 1 : Nat) : Int))]) [2, 1, 0] rfl ?_
        exact ih9 (i + 1) φ'_19 (by omega) (by omega)
  refine z_sub (lv' := [(0, .ref (h 0)), (1, .long 1447), (3, vI 0)]) [2, 1, 0] rfl ?_
  exact L_6 (8 + 1) 0 φ (Nat.zero_le _) (by omega)
