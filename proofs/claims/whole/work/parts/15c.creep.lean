abbrev rm_J7_fill_53178 : Room := { frames := 0, cells := 0, slots := 0, locals := 0 }
set_option maxHeartbeats 4000000 in
set_option maxRecDepth 100000 in
theorem c_J7_fill_53178 (l : Launch) (D : va_G) (cI cJ : ClassId) (a : Nat) (f : Nat → Int) (v : Int)  : Cv l yJ7_fill_53178 wsJ7_fill_53178 rm_J7_fill_53178 D [(cI, .int), (cJ, .long)] [.ref a, vI v] (aw cI a f) (fun u => u = (aw cI a (flI f v 144))) := by
  refine z_ofv (own := RJ7) (cc := cJ7_fill_53178) (maxL := 4) (lv := [(0, .ref a), (1, vI v)]) (by decide) rfl rfl (Nat.le_of_ble_eq_true rfl) rfl ?_
  intro p e s m args below meth cd Q A C hret
  refine z_iconst C dJ7_fill_53178_0 ?_
  refine z_istore_n C [(2, vI 0), (0, .ref a), (1, vI v)] dJ7_fill_53178_1 (by decide) rfl ?_
  refine z_aload_n C 1 dJ7_fill_53178_2 rfl ?_
  refine z_alen C (v := 144) (cA := cI) (ty := .int) 0 0 rfl rfl rfl dJ7_fill_53178_3 ?_
  refine z_istore_n C [(3, vI 144), (2, vI 0), (0, .ref a), (1, vI v)] dJ7_fill_53178_4 (by decide) rfl ?_
  have L_5 : ∀ (d9 i : Nat) (hi : i ≤ 144) (hd : 144 + 1 ≤ i + d9), Zs p l e rm_J7_fill_53178 s m args below meth cd Q A D 4 5 [(0, .ref a), (1, vI v), (2, vI (i : Int)), (3, vI 144)] [] (aw cI a (flI f v i)) 0 0 := by
    intro d9
    induction d9 with
    | zero =>
      intro i hi hd
      exfalso; omega
    | succ d9 ih9 =>
      intro i hi hd
      refine z_iload_n C 2 dJ7_fill_53178_5 rfl ?_
      refine z_iload_n C 3 dJ7_fill_53178_6 rfl ?_
      refine z_icmp_ge C (tgt := 20) dJ7_fill_53178_7 (by decide) (by omega) (by omega) (fun c_7 => ?_) (fun c_7 => ?_)
      ·
        obtain rfl : i = 144 := by omega
        exact hret _ _ _ dJ7_fill_53178_20 rfl
      ·
        refine z_aload_n C 0 dJ7_fill_53178_10 rfl ?_
        refine z_iload_n C 2 dJ7_fill_53178_11 rfl ?_
        refine z_iload_n C 1 dJ7_fill_53178_12 rfl ?_
        refine z_iast C (cA := cI) (N := 144) (f := flI f v i) (ws' := (aw cI a (fU (flI f v i) i v))) 0 0 rfl rfl (by decide) (by omega) rfl dJ7_fill_53178_13 ?_
        refine z_iinc C 2 [(2, vI ((i : Int) + 1)), (0, .ref a), (1, vI v), (3, vI 144)] dJ7_fill_53178_14 rfl (by decide) rfl ?_
        refine z_goto C (tgt := 5) dJ7_fill_53178_17 (by decide) ?_
        refine z_chg 0 (x' := ((i + 1 : Nat) : Int)) (lv' := [(2, vI ((i + 1 : Nat) : Int)), (0, .ref a), (1, vI v), (3, vI 144)]) rfl (by omega) rfl ?_
        refine z_sub (lv' := [(0, .ref a), (1, vI v), (2, vI ((i + 1 : Nat) : Int)), (3, vI 144)]) [1, 2, 0, 3] rfl ?_
        refine z_ws (ws' := (aw cI a (flI f v (i + 1)))) (by first | rw [flI_s] | rw [flI_0]) ?_
        exact ih9 (i + 1) (by omega) (by omega)
  refine z_sub (lv' := [(0, .ref a), (1, vI v), (2, vI 0), (3, vI 144)]) [2, 3, 1, 0] rfl ?_
  refine z_ws (ws' := (aw cI a (flI f v 0))) (by first | rw [flI_s] | rw [flI_0]) ?_
  exact L_5 (144 + 1) 0 (Nat.zero_le _) (by omega)

set_option maxRecDepth 100000 in
theorem inU_X1_X1_enqueue : ∀ w ∈ u_ws RX1 TX1 11, w ∈ wsX1_enqueue := by decide +kernel
abbrev rm_X1_enqueue : Room := { frames := 0, cells := 0, slots := 0, locals := 0 }
set_option maxHeartbeats 4000000 in
set_option maxRecDepth 100000 in
theorem c_X1_enqueue (l : Launch) (D : va_G) (cI cJ : ClassId) (h : Nat → Nat) (σ : YS) (LT : Nat → Int) (γ : YS) (φ : Nat → Int) (c v q : Int) (hc : 0 ≤ c ∧ c < 144) (hq : 0 ≤ q ∧ q < 144) : Ci l yX1_enqueue wsX1_enqueue rm_X1_enqueue D [(cI, .int), (cJ, .long)] [.ref (h 0), vI c, vI v, vI q] (cw cI h σ LT γ φ) (fun z u => u = (cw cI h σ LT (sU (sU γ 0 c.toNat v) 1 q.toNat c) φ) ∧ z = q + 1) := by
  refine z_ofi (own := RX1) (cc := cX1_enqueue) (maxL := 4) (lv := [(0, .ref (h 0)), (1, vI c), (2, vI v), (3, vI q)]) (by decide) rfl rfl (Nat.le_of_ble_eq_true rfl) rfl ?_
  intro p e s m args below meth cd Q A C hret
  refine z_iload_n C 1 dX1_enqueue_0 rfl ?_
  refine z_if_lt C (tgt := 26) dX1_enqueue_1 (by decide) (by omega) (fun c_1 => ?_) (fun c_1 => ?_)
  ·
    refine z_iload_n C 3 dX1_enqueue_26 rfl ?_
    first | exact hret _ _ _ _ dX1_enqueue_27 ⟨rfl, by rfl⟩ | (exfalso; omega)
  ·
    refine z_iload_n C 1 dX1_enqueue_4 rfl ?_
    refine z_aload_n C 0 dX1_enqueue_5 rfl ?_
    refine z_get C (v := .ref (h 6)) (ref := "ShadowWalls") (T := TX1) (N := 11) (ci := 1) 0 5 inU_X1_X1_enqueue rfl rfl (by decide) (by decide +kernel) (fun _ h9 => h9) rfl dX1_enqueue_6 ?_
    refine z_alen C (v := 144) (cA := cI) (ty := .int) 6 0 rfl rfl rfl dX1_enqueue_9 ?_
    refine z_icmp_ge C (tgt := 26) dX1_enqueue_10 (by decide) (by omega) (by omega) (fun c_10 => ?_) (fun c_10 => ?_)
    ·
      refine z_iload_n C 3 dX1_enqueue_26 rfl ?_
      first | exact hret _ _ _ _ dX1_enqueue_27 ⟨rfl, by rfl⟩ | (exfalso; omega)
    ·
      refine z_iload_n C 3 dX1_enqueue_13 rfl ?_
      refine z_if_lt C (tgt := 26) dX1_enqueue_14 (by decide) (by omega) (fun c_14 => ?_) (fun c_14 => ?_)
      ·
        refine z_iload_n C 3 dX1_enqueue_26 rfl ?_
        first | exact hret _ _ _ _ dX1_enqueue_27 ⟨rfl, by rfl⟩ | (exfalso; omega)
      ·
        refine z_iload_n C 3 dX1_enqueue_17 rfl ?_
        refine z_aload_n C 0 dX1_enqueue_18 rfl ?_
        refine z_get C (v := .ref (h 7)) (ref := "ShadowWalls") (T := TX1) (N := 11) (ci := 1) 0 6 inU_X1_X1_enqueue rfl rfl (by decide) (by decide +kernel) (fun _ h9 => h9) rfl dX1_enqueue_19 ?_
        refine z_alen C (v := 144) (cA := cI) (ty := .int) 7 0 rfl rfl rfl dX1_enqueue_22 ?_
        refine z_icmp_lt C (tgt := 28) dX1_enqueue_23 (by decide) (by omega) (by omega) (fun c_23 => ?_) (fun c_23 => ?_)
        ·
          refine z_aload_n C 0 dX1_enqueue_28 rfl ?_
          refine z_get C (v := .ref (h 6)) (ref := "ShadowWalls") (T := TX1) (N := 11) (ci := 1) 0 5 inU_X1_X1_enqueue rfl rfl (by decide) (by decide +kernel) (fun _ h9 => h9) rfl dX1_enqueue_29 ?_
          refine z_iload_n C 1 dX1_enqueue_32 rfl ?_
          refine z_iload_n C 2 dX1_enqueue_33 rfl ?_
          refine z_iast C (cA := cI) (N := 144) (f := γ 0) (ws' := (cw cI h σ LT (sU γ 0 (c.toNat) v) φ)) 6 0 rfl rfl (by decide) (by omega) rfl dX1_enqueue_34 ?_
          refine z_aload_n C 0 dX1_enqueue_35 rfl ?_
          refine z_get C (v := .ref (h 7)) (ref := "ShadowWalls") (T := TX1) (N := 11) (ci := 1) 0 6 inU_X1_X1_enqueue rfl rfl (by decide) (by decide +kernel) (fun _ h9 => h9) rfl dX1_enqueue_36 ?_
          refine z_iload_n C 3 dX1_enqueue_39 rfl ?_
          refine z_iload_n C 1 dX1_enqueue_40 rfl ?_
          refine z_iast C (cA := cI) (N := 144) (f := (sU γ 0 (c.toNat) v) 1) (ws' := (cw cI h σ LT (sU (sU γ 0 (c.toNat) v) 1 (q.toNat) c) φ)) 7 0 rfl rfl (by decide) (by omega) rfl dX1_enqueue_41 ?_
          refine z_iload_n C 3 dX1_enqueue_42 rfl ?_
          refine z_iconst C dX1_enqueue_43 ?_
          refine z_iadd C dX1_enqueue_44 ?_
          first | exact hret _ _ _ _ dX1_enqueue_45 ⟨rfl, by rfl⟩ | (exfalso; omega)
        ·
          refine z_iload_n C 3 dX1_enqueue_26 rfl ?_
          first | exact hret _ _ _ _ dX1_enqueue_27 ⟨rfl, by rfl⟩ | (exfalso; omega)

set_option maxRecDepth 100000 in
theorem inU_X1_X1_spreadFrom : ∀ w ∈ u_ws RX1 TX1 11, w ∈ wsX1_spreadFrom := by decide +kernel
abbrev rm_X1_spreadFrom : Room := { frames := 2, cells := 0, slots := 0, locals := 42 }
set_option maxHeartbeats 4000000 in
set_option maxRecDepth 100000 in
theorem c_X1_spreadFrom (l : Launch) (D : va_G) (cI cJ : ClassId) (h : Nat → Nat) (σ : YS) (LT : Nat → Int) (γ : YS) (φ : Nat → Int) (a : Int) (ha : 0 ≤ a ∧ a < 144) (hO : Ok σ) (hL : LR LT) : Cv l yX1_spreadFrom wsX1_spreadFrom rm_X1_spreadFrom D [(cI, .int), (cJ, .long)] [.ref (h 0), vI a] (cw cI h σ LT γ φ) (fun u => ∃ γ' : YS, u = (cw cI h σ LT γ' φ) ∧ St7 σ LT a.toNat (γ' 0) ∧ ∀ c : Nat, c < 144 → -1 ≤ γ' 0 c ∧ γ' 0 c ≤ 143) := by
  refine z_ofv (own := RX1) (cc := cX1_spreadFrom) (maxL := 7) (lv := [(0, .ref (h 0)), (1, vI a)]) (by decide) rfl rfl (Nat.le_of_ble_eq_true rfl) rfl ?_
  intro p e s m args below meth cd Q A C hret
  have ea : a = ((a.toNat : Nat) : Int) := (Int.toNat_of_nonneg ha.1).symm
  refine z_aload_n C 0 dX1_spreadFrom_0 rfl ?_
  refine z_get C (v := .ref (h 6)) (ref := "ShadowWalls") (T := TX1) (N := 11) (ci := 1) 0 5 inU_X1_X1_spreadFrom rfl rfl (by decide) (by decide +kernel) (fun _ h9 => h9) rfl dX1_spreadFrom_1 ?_
  refine z_iconst C dX1_spreadFrom_4 ?_
  refine z_callSv C (As := [.ref (h 6), vI (-1)]) (st := []) (y := yJ7_fill_53178) (w := wsJ7_fill_53178) (rm := rm_J7_fill_53178) (wr := [(h 0, .inr (1, [.ref (h 1), .ref (h 2), .ref (h 3), .ref (h 4), .ref (h 5), .ref (h 6), .ref (h 7), .ref (h 8), vI (σ 4 0), vI (σ 4 1), vI (σ 4 2)])), (h 1, ri cI 144 (σ 0)), (h 2, ri cI 4 (σ 1)), (h 3, ri cI 4 (σ 2)), (h 4, ri cI 6 (σ 3)), (h 5, ri cI 144 LT), (h 7, ri cI 144 (γ 1)), (h 8, wayE φ)]) (k' := 0) (n' := 0) [6] [0, 1, 2, 3, 4, 5, 7, 8] (c_J7_fill_53178 l D cI cJ (h 6) (γ 0) (-1) ) (va_cwS 2 C.1.2.2.2.2 gX1_spreadFrom_J7_fill_53178 rfl rfl rfl (by decide +kernel) ⟨Nat.le_of_ble_eq_true rfl, Nat.le_of_ble_eq_true rfl⟩) rfl rfl rfl rfl rfl (by decide) rfl rfl (Nat.le_of_ble_eq_true rfl) rfl rfl ⟨Nat.le_of_ble_eq_true rfl, Nat.le_of_ble_eq_true rfl⟩ dX1_spreadFrom_5 ?_
  rintro _ rfl
  refine z_wsub (ws' := (cw cI h σ LT (sA γ 0 (flI (γ 0) (-1) 144)) φ)) [0, 1, 2, 3, 4, 5, 8, 6, 7] rfl rfl rfl ?_
  refine z_aload_n C 0 dX1_spreadFrom_8 rfl ?_
  refine z_iload_n C 1 dX1_spreadFrom_9 rfl ?_
  refine z_iconst C dX1_spreadFrom_10 ?_
  refine z_iconst C dX1_spreadFrom_11 ?_
  refine z_callVi C (As := [vI a, vI 0, vI 0]) (st := []) (y := yX1_enqueue) (w := wsX1_enqueue) (rm := rm_X1_enqueue) (wr := []) (k' := 0) (n' := 0) [0, 1, 2, 3, 4, 5, 6, 7, 8] [] 0 (c_X1_enqueue l D cI cJ h σ LT (sA γ 0 (flI (γ 0) (-1) 144)) φ a 0 0 (by omega) (by omega)) (cwV 3 C.1.2.2.2.2 gX1_spreadFrom_X1_enqueue rfl rfl rfl (by decide +kernel) ⟨Nat.le_of_ble_eq_true rfl, Nat.le_of_ble_eq_true rfl⟩) rfl rfl rfl rfl rfl (by decide) rfl rfl rfl rfl (Nat.le_of_ble_eq_true rfl) rfl rfl ⟨Nat.le_of_ble_eq_true rfl, Nat.le_of_ble_eq_true rfl⟩ dX1_spreadFrom_12 ?_
  rintro z_12 _ ⟨rfl, rfl⟩
  refine z_ws (ws' := (cw cI h σ LT (sU (sU (sA γ 0 (flI (γ 0) (-1) 144)) 0 a.toNat 0) 1 0 a) φ)) rfl ?_
  refine z_st (v' := (0 + 1)) rfl ?_
  refine z_istore_n C [(2, vI (0 + 1)), (0, .ref (h 0)), (1, vI a)] dX1_spreadFrom_15 (by decide) rfl ?_
  refine z_iconst C dX1_spreadFrom_16 ?_
  refine z_istore_n C [(3, vI 0), (2, vI (0 + 1)), (0, .ref (h 0)), (1, vI a)] dX1_spreadFrom_17 (by decide) rfl ?_
  have L_18 : ∀ (d9 i : Nat) (γ1 : YS) (mn : Nat) (hd : 145 ≤ i + d9) (hi : i ≤ 144) (hb : BI nbN (frB σ LT) a.toNat (γ1 0) (γ1 1) mn i 0), Zs p l e rm_X1_spreadFrom s m args below meth cd Q A D 7 18 [(0, .ref (h 0)), (1, vI a), (2, vI (mn : Int)), (3, vI (i : Int))] [] (cw cI h σ LT γ1 φ) 0 0 := by
    intro d9
    induction d9 with
    | zero =>
      intro i γ1 mn hd hi hb
      exfalso; omega
    | succ d9 ih9 =>
      intro i γ1 mn hd hi hb
      have hr := bi_r hb
      refine z_iload_n C 3 dX1_spreadFrom_18 rfl ?_
      refine z_iload_n C 2 dX1_spreadFrom_19 rfl ?_
      refine z_icmp_ge C (tgt := 120) dX1_spreadFrom_20 (by decide) (by omega) (by omega) (fun c_20 => ?_) (fun c_20 => ?_)
      ·
        exact hret _ _ _ dX1_spreadFrom_120 ⟨γ1, rfl, bi_end hb (by omega), hr.2⟩
      ·
        refine z_iload_n C 3 dX1_spreadFrom_23 rfl ?_
        refine z_aload_n C 0 dX1_spreadFrom_24 rfl ?_
        refine z_get C (v := .ref (h 7)) (ref := "ShadowWalls") (T := TX1) (N := 11) (ci := 1) 0 6 inU_X1_X1_spreadFrom rfl rfl (by decide) (by decide +kernel) (fun _ h9 => h9) rfl dX1_spreadFrom_25 ?_
        refine z_alen C (v := 144) (cA := cI) (ty := .int) 7 0 rfl rfl rfl dX1_spreadFrom_28 ?_
        refine z_icmp_ge C (tgt := 120) dX1_spreadFrom_29 (by decide) (by omega) (by omega) (fun c_29 => ?_) (fun c_29 => ?_)
        ·
          exfalso; omega
        ·
          have hq := (hb.2.2.1 i (by omega)).1
          have hqN : (((γ1 1 i).toNat : Nat) : Int) = γ1 1 i := Int.toNat_of_nonneg hq.1
          refine z_aload_n C 0 dX1_spreadFrom_32 rfl ?_
          refine z_get C (v := .ref (h 7)) (ref := "ShadowWalls") (T := TX1) (N := 11) (ci := 1) 0 6 inU_X1_X1_spreadFrom rfl rfl (by decide) (by decide +kernel) (fun _ h9 => h9) rfl dX1_spreadFrom_33 ?_
          refine z_iload_n C 3 dX1_spreadFrom_36 rfl ?_
          refine z_iald C (cA := cI) (N := 144) (f := γ1 1) 7 0 rfl rfl (by decide) (by omega) dX1_spreadFrom_37 ?_
          refine z_st (v' := γ1 1 i) rfl ?_
          refine z_istore C [(4, vI (γ1 1 i)), (0, .ref (h 0)), (1, vI a), (2, vI (mn : Int)), (3, vI (i : Int))] dX1_spreadFrom_38 (by decide) rfl ?_
          refine z_iconst C dX1_spreadFrom_40 ?_
          refine z_istore C [(5, vI 0), (4, vI (γ1 1 i)), (0, .ref (h 0)), (1, vI a), (2, vI (mn : Int)), (3, vI (i : Int))] dX1_spreadFrom_41 (by decide) rfl ?_
          have L_43 : ∀ (d8 j : Nat) (γ2 : YS) (m2 : Nat) (hd2 : 5 ≤ j + d8) (hj : j ≤ 4) (hb2 : BI nbN (frB σ LT) a.toNat (γ2 0) (γ2 1) m2 i j) (hm2 : i < m2) (hcv : γ2 1 i = γ1 1 i), Zs p l e rm_X1_spreadFrom s m args below meth cd Q A D 7 43 [(0, .ref (h 0)), (1, vI a), (2, vI (m2 : Int)), (3, vI (i : Int)), (4, vI (γ1 1 i)), (5, vI (j : Int))] [] (cw cI h σ LT γ2 φ) 0 0 := by
            intro d8
            induction d8 with
            | zero =>
              intro j γ2 m2 hd2 hj hb2 hm2 hcv
              exfalso; omega
            | succ d8 ih8 =>
              intro j γ2 m2 hd2 hj hb2 hm2 hcv
              have hr2 := bi_r hb2
              refine z_iload C 5 dX1_spreadFrom_43 rfl ?_
              refine z_iconst C dX1_spreadFrom_45 ?_
              refine z_icmp_ge C (tgt := 114) dX1_spreadFrom_46 (by decide) (by omega) (by omega) (fun c_46 => ?_) (fun c_46 => ?_)
              ·
                have hb4 : BI nbN (frB σ LT) a.toNat (γ2 0) (γ2 1) m2 i 4 := (show j = 4 by omega) ▸ hb2
                refine z_iinc C 3 [(3, vI ((i : Int) + 1)), (0, .ref (h 0)), (1, vI a), (2, vI (m2 : Int)), (4, vI (γ1 1 i)), (5, vI (j : Int))] dX1_spreadFrom_114 rfl (by decide) rfl ?_
                refine z_goto C (tgt := 18) dX1_spreadFrom_117 (by decide) ?_
                refine z_chg 0 (x' := ((i + 1 : Nat) : Int)) (lv' := [(3, vI ((i + 1 : Nat) : Int)), (0, .ref (h 0)), (1, vI a), (2, vI (m2 : Int)), (4, vI (γ1 1 i)), (5, vI (j : Int))]) rfl (by omega) rfl ?_
                refine z_sub (lv' := [(0, .ref (h 0)), (1, vI a), (2, vI (m2 : Int)), (3, vI ((i + 1 : Nat) : Int))]) [1, 2, 3, 0] rfl ?_
                exact ih9 (i + 1) γ2 m2 (by omega) (by omega) (bi_next hb4 hm2)
              ·
                refine z_iload C 4 dX1_spreadFrom_49 rfl ?_
                refine z_iload C 5 dX1_spreadFrom_51 rfl ?_
                refine z_callSi C (As := [vI (γ1 1 i), vI (j : Int)]) (st := []) (y := yX1_neighbour) (w := wsX1_neighbour) (rm := rm_X1_neighbour) (wr := (cw cI h σ LT γ2 φ)) (k' := 0) (n' := 0) [] [0, 1, 2, 3, 4, 5, 6, 7, 8] (c_X1_neighbour l D cI cJ  (γ1 1 i) (j : Int) (by omega) (by omega)) (va_cwS 2 C.1.2.2.2.2 gX1_spreadFrom_X1_neighbour rfl rfl rfl (by decide +kernel) ⟨Nat.le_of_ble_eq_true rfl, Nat.le_of_ble_eq_true rfl⟩) rfl rfl rfl rfl rfl (by decide) rfl rfl (Nat.le_of_ble_eq_true rfl) rfl rfl ⟨Nat.le_of_ble_eq_true rfl, Nat.le_of_ble_eq_true rfl⟩ dX1_spreadFrom_53 ?_
                rintro z_53 _ ⟨rfl, hz_53⟩
                refine z_ws (ws' := (cw cI h σ LT γ2 φ)) rfl ?_
                have hz_53 : z_53 = nb (γ1 1 i) (j : Int) := hz_53
                have r_53 := nb_r (c := γ1 1 i) (s := (j : Int)) (by omega)
                rw [← hz_53] at r_53
                refine z_istore C [(6, vI z_53), (0, .ref (h 0)), (1, vI a), (2, vI (m2 : Int)), (3, vI (i : Int)), (4, vI (γ1 1 i)), (5, vI (j : Int))] dX1_spreadFrom_56 (by decide) rfl ?_
                refine z_iload C 0 dX1_spreadFrom_58 rfl ?_
                refine z_iconst C dX1_spreadFrom_60 ?_
                refine z_icmp_eq C (tgt := 108) dX1_spreadFrom_61 (by decide) (by omega) (by omega) (fun c_61 => ?_) (fun c_61 => ?_)
                ·
                  have hx : ∀ c : Nat, c < 144 → nbN (γ2 1 i).toNat j = (c : Int) → frB σ LT c = true → γ2 0 c ≠ -1 := by
                    intro c9 hc9 hN hf9
                    unfold nbN at hN
                    rw [hcv, hqN, ← hz_53] at hN
                    omega
                  refine z_iinc C 6 [(5, vI ((j : Int) + 1)), (6, vI z_53), (0, .ref (h 0)), (1, vI a), (2, vI (m2 : Int)), (3, vI (i : Int)), (4, vI (γ1 1 i))] dX1_spreadFrom_108 rfl (by decide) rfl ?_
                  refine z_goto C (tgt := 43) dX1_spreadFrom_111 (by decide) ?_
                  refine z_chg 0 (x' := ((j + 1 : Nat) : Int)) (lv' := [(5, vI ((j + 1 : Nat) : Int)), (6, vI z_53), (0, .ref (h 0)), (1, vI a), (2, vI (m2 : Int)), (3, vI (i : Int)), (4, vI (γ1 1 i))]) rfl (by omega) rfl ?_
                  refine z_sub (lv' := [(0, .ref (h 0)), (1, vI a), (2, vI (m2 : Int)), (3, vI (i : Int)), (4, vI (γ1 1 i)), (5, vI ((j + 1 : Nat) : Int))]) [2, 3, 4, 5, 6, 0] rfl ?_
                  exact ih8 (j + 1) γ2 m2 (by omega) (by omega) (bi_skip hb2 hm2 hx) hm2 hcv
                ·
                  have rs := hr2.2 z_53.toNat (by omega)
                  have rk := hO.2.2.2.2 z_53.toNat
                  refine z_aload_n C 1 dX1_spreadFrom_64 rfl ?_
                  refine z_iload C 0 dX1_spreadFrom_65 rfl ?_
                  refine z_callVi C (As := [vI z_53]) (st := []) (y := yX1_stepsAt) (w := wsX1_stepsAt) (rm := rm_X1_stepsAt) (wr := []) (k' := 0) (n' := 0) [0, 1, 2, 3, 4, 5, 6, 7, 8] [] 0 (c_X1_stepsAt l D cI cJ h σ LT γ2 φ z_53 (by omega)) (cwV 1 C.1.2.2.2.2 gX1_spreadFrom_X1_stepsAt rfl rfl rfl (by decide +kernel) ⟨Nat.le_of_ble_eq_true rfl, Nat.le_of_ble_eq_true rfl⟩) rfl rfl rfl rfl rfl (by decide) rfl rfl rfl rfl (Nat.le_of_ble_eq_true rfl) rfl rfl ⟨Nat.le_of_ble_eq_true rfl, Nat.le_of_ble_eq_true rfl⟩ dX1_spreadFrom_67 ?_
                  rintro z_67 _ ⟨rfl, rfl⟩
                  refine z_ws (ws' := (cw cI h σ LT γ2 φ)) rfl ?_
                  refine z_st (v' := (γ2 0 z_53.toNat)) rfl ?_
                  refine z_iconst C dX1_spreadFrom_70 ?_
                  refine z_icmp_ne C (tgt := 108) dX1_spreadFrom_71 (by decide) (by omega) (by omega) (fun c_71 => ?_) (fun c_71 => ?_)
                  ·
                    have hx : ∀ c : Nat, c < 144 → nbN (γ2 1 i).toNat j = (c : Int) → frB σ LT c = true → γ2 0 c ≠ -1 := by
                      intro c9 hc9 hN hf9
                      unfold nbN at hN
                      rw [hcv, hqN, ← hz_53] at hN
                      have e9 : z_53.toNat = c9 := by omega
                      rw [← e9]
                      exact c_71
                    refine z_iinc C 6 [(5, vI ((j : Int) + 1)), (6, vI z_53), (0, .ref (h 0)), (1, vI a), (2, vI (m2 : Int)), (3, vI (i : Int)), (4, vI (γ1 1 i))] dX1_spreadFrom_108 rfl (by decide) rfl ?_
                    refine z_goto C (tgt := 43) dX1_spreadFrom_111 (by decide) ?_
                    refine z_chg 0 (x' := ((j + 1 : Nat) : Int)) (lv' := [(5, vI ((j + 1 : Nat) : Int)), (6, vI z_53), (0, .ref (h 0)), (1, vI a), (2, vI (m2 : Int)), (3, vI (i : Int)), (4, vI (γ1 1 i))]) rfl (by omega) rfl ?_
                    refine z_sub (lv' := [(0, .ref (h 0)), (1, vI a), (2, vI (m2 : Int)), (3, vI (i : Int)), (4, vI (γ1 1 i)), (5, vI ((j + 1 : Nat) : Int))]) [2, 3, 4, 5, 6, 0] rfl ?_
                    exact ih8 (j + 1) γ2 m2 (by omega) (by omega) (bi_skip hb2 hm2 hx) hm2 hcv
                  ·
                    refine z_aload_n C 1 dX1_spreadFrom_74 rfl ?_
                    refine z_iload C 0 dX1_spreadFrom_75 rfl ?_
                    refine z_callVi C (As := [vI z_53]) (st := []) (y := yX1_kindOf) (w := wsX1_kindOf) (rm := rm_X1_kindOf) (wr := []) (k' := 0) (n' := 0) [0, 1, 2, 3, 4, 5, 6, 7, 8] [] 0 (c_X1_kindOf l D cI cJ h σ LT γ2 φ z_53 (by omega)) (cwV 1 C.1.2.2.2.2 gX1_spreadFrom_X1_kindOf rfl rfl rfl (by decide +kernel) ⟨Nat.le_of_ble_eq_true rfl, Nat.le_of_ble_eq_true rfl⟩) rfl rfl rfl rfl rfl (by decide) rfl rfl rfl rfl (Nat.le_of_ble_eq_true rfl) rfl rfl ⟨Nat.le_of_ble_eq_true rfl, Nat.le_of_ble_eq_true rfl⟩ dX1_spreadFrom_77 ?_
                    rintro z_77 _ ⟨rfl, rfl⟩
                    refine z_ws (ws' := (cw cI h σ LT γ2 φ)) rfl ?_
                    refine z_st (v' := (σ 0 z_53.toNat)) rfl ?_
                    refine z_if_ne C (tgt := 108) dX1_spreadFrom_80 (by decide) (by omega) (fun c_80 => ?_) (fun c_80 => ?_)
                    ·
                      have hx : ∀ c : Nat, c < 144 → nbN (γ2 1 i).toNat j = (c : Int) → frB σ LT c = true → γ2 0 c ≠ -1 := by
                        intro c9 hc9 hN hf9
                        unfold nbN at hN
                        rw [hcv, hqN, ← hz_53] at hN
                        have e9 : z_53.toNat = c9 := by omega
                        unfold frB at hf9
                        rw [← e9, decide_eq_false c_80] at hf9
                        exact absurd hf9 (by simp)
                      refine z_iinc C 6 [(5, vI ((j : Int) + 1)), (6, vI z_53), (0, .ref (h 0)), (1, vI a), (2, vI (m2 : Int)), (3, vI (i : Int)), (4, vI (γ1 1 i))] dX1_spreadFrom_108 rfl (by decide) rfl ?_
                      refine z_goto C (tgt := 43) dX1_spreadFrom_111 (by decide) ?_
                      refine z_chg 0 (x' := ((j + 1 : Nat) : Int)) (lv' := [(5, vI ((j + 1 : Nat) : Int)), (6, vI z_53), (0, .ref (h 0)), (1, vI a), (2, vI (m2 : Int)), (3, vI (i : Int)), (4, vI (γ1 1 i))]) rfl (by omega) rfl ?_
                      refine z_sub (lv' := [(0, .ref (h 0)), (1, vI a), (2, vI (m2 : Int)), (3, vI (i : Int)), (4, vI (γ1 1 i)), (5, vI ((j + 1 : Nat) : Int))]) [2, 3, 4, 5, 6, 0] rfl ?_
                      exact ih8 (j + 1) γ2 m2 (by omega) (by omega) (bi_skip hb2 hm2 hx) hm2 hcv
                    ·
                      refine z_aload_n C 1 dX1_spreadFrom_83 rfl ?_
                      refine z_iload C 0 dX1_spreadFrom_84 rfl ?_
                      refine z_callVi C (As := [vI z_53]) (st := []) (y := yX1_isLit) (w := wsX1_isLit) (rm := rm_X1_isLit) (wr := []) (k' := 0) (n' := 0) [0, 1, 2, 3, 4, 5, 6, 7, 8] [] 0 (c_X1_isLit l D cI cJ h σ LT γ2 φ z_53 (by omega) hL) (cwV 1 C.1.2.2.2.2 gX1_spreadFrom_X1_isLit rfl rfl rfl (by decide +kernel) ⟨Nat.le_of_ble_eq_true rfl, Nat.le_of_ble_eq_true rfl⟩) rfl rfl rfl rfl rfl (by decide) rfl rfl rfl rfl (Nat.le_of_ble_eq_true rfl) rfl rfl ⟨Nat.le_of_ble_eq_true rfl, Nat.le_of_ble_eq_true rfl⟩ dX1_spreadFrom_86 ?_
                      rintro z_86 _ ⟨rfl, hz_86⟩
                      refine z_ws (ws' := (cw cI h σ LT γ2 φ)) rfl ?_
                      have r_86 : z_86 = 0 ∨ z_86 = 1 := by rw [hz_86]; exact bI_01 _
                      have hz_86 : z_86 = bI (decide (LT z_53.toNat ≠ 0)) := hz_86
                      refine z_if_ne C (tgt := 108) dX1_spreadFrom_89 (by decide) (by omega) (fun c_89 => ?_) (fun c_89 => ?_)
                      ·
                        have hx : ∀ c : Nat, c < 144 → nbN (γ2 1 i).toNat j = (c : Int) → frB σ LT c = true → γ2 0 c ≠ -1 := by
                          intro c9 hc9 hN hf9
                          unfold nbN at hN
                          rw [hcv, hqN, ← hz_53] at hN
                          have e9 : z_53.toNat = c9 := by omega
                          have h9 := of_decide_eq_true (bz_t hz_86 c_89)
                          unfold frB at hf9
                          rw [← e9, decide_eq_false h9] at hf9
                          exact absurd hf9 (by simp)
                        refine z_iinc C 6 [(5, vI ((j : Int) + 1)), (6, vI z_53), (0, .ref (h 0)), (1, vI a), (2, vI (m2 : Int)), (3, vI (i : Int)), (4, vI (γ1 1 i))] dX1_spreadFrom_108 rfl (by decide) rfl ?_
                        refine z_goto C (tgt := 43) dX1_spreadFrom_111 (by decide) ?_
                        refine z_chg 0 (x' := ((j + 1 : Nat) : Int)) (lv' := [(5, vI ((j + 1 : Nat) : Int)), (6, vI z_53), (0, .ref (h 0)), (1, vI a), (2, vI (m2 : Int)), (3, vI (i : Int)), (4, vI (γ1 1 i))]) rfl (by omega) rfl ?_
                        refine z_sub (lv' := [(0, .ref (h 0)), (1, vI a), (2, vI (m2 : Int)), (3, vI (i : Int)), (4, vI (γ1 1 i)), (5, vI ((j + 1 : Nat) : Int))]) [2, 3, 4, 5, 6, 0] rfl ?_
                        exact ih8 (j + 1) γ2 m2 (by omega) (by omega) (bi_skip hb2 hm2 hx) hm2 hcv
                      ·
                        have h9 := of_decide_eq_false (bz_f hz_86 c_89)
                        have hrs := hr2.2 (γ1 1 i).toNat (by omega)
                        have hp := bi_push (c := z_53.toNat) hb2 (by omega) hm2 (by omega) (by omega) (by unfold nbN; rw [hcv, hqN, ← hz_53]; omega) (by unfold frB; rw [decide_eq_true c_80, decide_eq_true (show LT z_53.toNat = 0 by omega)]; rfl) c_71
                        rw [hcv, Int.toNat_of_nonneg (show 0 ≤ z_53 by omega)] at hp
                        have hcv3 : fU (γ2 1) m2 z_53 i = γ1 1 i := by unfold fU; rw [if_neg (by omega)]; exact hcv
                        refine z_aload_n C 1 dX1_spreadFrom_92 rfl ?_
                        refine z_iload C 0 dX1_spreadFrom_93 rfl ?_
                        refine z_aload_n C 1 dX1_spreadFrom_95 rfl ?_
                        refine z_iload C 5 dX1_spreadFrom_96 rfl ?_
                        refine z_callVi C (As := [vI (γ1 1 i)]) (st := [vI z_53, .ref (h 0)]) (y := yX1_stepsAt) (w := wsX1_stepsAt) (rm := rm_X1_stepsAt) (wr := []) (k' := 0) (n' := 0) [0, 1, 2, 3, 4, 5, 6, 7, 8] [] 0 (c_X1_stepsAt l D cI cJ h σ LT γ2 φ (γ1 1 i) (by omega)) (cwV 1 C.1.2.2.2.2 gX1_spreadFrom_X1_stepsAt rfl rfl rfl (by decide +kernel) ⟨Nat.le_of_ble_eq_true rfl, Nat.le_of_ble_eq_true rfl⟩) rfl rfl rfl rfl rfl (by decide) rfl rfl rfl rfl (Nat.le_of_ble_eq_true rfl) rfl rfl ⟨Nat.le_of_ble_eq_true rfl, Nat.le_of_ble_eq_true rfl⟩ dX1_spreadFrom_98 ?_
                        rintro z_98 _ ⟨rfl, rfl⟩
                        refine z_ws (ws' := (cw cI h σ LT γ2 φ)) rfl ?_
                        refine z_st (v' := (γ2 0 (γ1 1 i).toNat)) rfl ?_
                        refine z_iconst C dX1_spreadFrom_101 ?_
                        refine z_iadd C dX1_spreadFrom_102 ?_
                        refine z_iload_n C 3 dX1_spreadFrom_103 rfl ?_
                        refine z_callVi C (As := [vI z_53, vI ((γ2 0 (γ1 1 i).toNat) + 1), vI (m2 : Int)]) (st := []) (y := yX1_enqueue) (w := wsX1_enqueue) (rm := rm_X1_enqueue) (wr := []) (k' := 0) (n' := 0) [0, 1, 2, 3, 4, 5, 6, 7, 8] [] 0 (c_X1_enqueue l D cI cJ h σ LT γ2 φ z_53 ((γ2 0 (γ1 1 i).toNat) + 1) (m2 : Int) (by omega) (by omega)) (cwV 3 C.1.2.2.2.2 gX1_spreadFrom_X1_enqueue rfl rfl rfl (by decide +kernel) ⟨Nat.le_of_ble_eq_true rfl, Nat.le_of_ble_eq_true rfl⟩) rfl rfl rfl rfl rfl (by decide) rfl rfl rfl rfl (Nat.le_of_ble_eq_true rfl) rfl rfl ⟨Nat.le_of_ble_eq_true rfl, Nat.le_of_ble_eq_true rfl⟩ dX1_spreadFrom_104 ?_
                        rintro z_104 _ ⟨rfl, rfl⟩
                        refine z_ws (ws' := (cw cI h σ LT (sU (sU γ2 0 z_53.toNat ((γ2 0 (γ1 1 i).toNat) + 1)) 1 m2 z_53) φ)) rfl ?_
                        refine z_st (v' := ((m2 : Int) + 1)) rfl ?_
                        refine z_istore_n C [(2, vI ((m2 : Int) + 1)), (6, vI z_53), (0, .ref (h 0)), (1, vI a), (3, vI (i : Int)), (4, vI (γ1 1 i)), (5, vI (j : Int))] dX1_spreadFrom_107 (by decide) rfl ?_
                        refine z_iinc C 6 [(5, vI ((j : Int) + 1)), (2, vI ((m2 : Int) + 1)), (6, vI z_53), (0, .ref (h 0)), (1, vI a), (3, vI (i : Int)), (4, vI (γ1 1 i))] dX1_spreadFrom_108 rfl (by decide) rfl ?_
                        refine z_goto C (tgt := 43) dX1_spreadFrom_111 (by decide) ?_
                        refine z_chg 1 (x' := ((m2 + 1 : Nat) : Int)) (lv' := [(5, vI ((j : Int) + 1)), (2, vI ((m2 + 1 : Nat) : Int)), (6, vI z_53), (0, .ref (h 0)), (1, vI a), (3, vI (i : Int)), (4, vI (γ1 1 i))]) rfl (by omega) rfl ?_
                        refine z_chg 0 (x' := ((j + 1 : Nat) : Int)) (lv' := [(5, vI ((j + 1 : Nat) : Int)), (2, vI ((m2 + 1 : Nat) : Int)), (6, vI z_53), (0, .ref (h 0)), (1, vI a), (3, vI (i : Int)), (4, vI (γ1 1 i))]) rfl (by omega) rfl ?_
                        refine z_sub (lv' := [(0, .ref (h 0)), (1, vI a), (2, vI ((m2 + 1 : Nat) : Int)), (3, vI (i : Int)), (4, vI (γ1 1 i)), (5, vI ((j + 1 : Nat) : Int))]) [3, 4, 1, 5, 6, 0] rfl ?_
                        exact ih8 (j + 1) _ (m2 + 1) (by omega) (by omega) hp.2 (by omega) hcv3
          refine z_sub (lv' := [(0, .ref (h 0)), (1, vI a), (2, vI (mn : Int)), (3, vI (i : Int)), (4, vI (γ1 1 i)), (5, vI 0)]) [2, 3, 4, 5, 1, 0] rfl ?_
          exact L_43 5 0 γ1 mn (by omega) (by omega) hb (by omega) rfl
  refine z_sub (lv' := [(0, .ref (h 0)), (1, vI a), (2, vI (0 + 1)), (3, vI 0)]) [2, 3, 1, 0] rfl ?_
  exact L_18 145 0 _ 1 (by omega) (by omega) (bi_0 (by omega) (fun c hc => by
            show (if c = a.toNat then (0 : Int) else flI (γ 0) (-1) 144 c) = _
            unfold flI
            rw [if_pos hc]) ea)

abbrev rm_X1_stepsTo : Room := { frames := 3, cells := 0, slots := 0, locals := 68 }
set_option maxHeartbeats 4000000 in
set_option maxRecDepth 100000 in
theorem c_X1_stepsTo (l : Launch) (D : va_G) (cI cJ : ClassId) (h : Nat → Nat) (σ : YS) (LT : Nat → Int) (γ : YS) (φ : Nat → Int) (w g : Int) (hw : 0 ≤ w ∧ w < σ 4 1) (hg : 0 ≤ g ∧ g < 144) (hO : Ok σ) (hL : LR LT) : Ci l yX1_stepsTo wsX1_stepsTo rm_X1_stepsTo D [(cI, .int), (cJ, .long)] [.ref (h 0), vI w, vI g] (cw cI h σ LT γ φ) (fun z u => ∃ γ' : YS, u = (cw cI h σ LT γ' φ) ∧ (∀ S, St7 σ LT (σ 3 w.toNat).toNat S → z = S g.toNat) ∧ -1 ≤ z ∧ z ≤ 143) := by
  refine z_ofi (own := RX1) (cc := cX1_stepsTo) (maxL := 4) (lv := [(0, .ref (h 0)), (1, vI w), (2, vI g)]) (by decide) rfl rfl (Nat.le_of_ble_eq_true rfl) rfl ?_
  intro p e s m args below meth cd Q A C hret
  have hn := hO.1
  have hm := hO.2.1
  have en := nLa_e hO
  have em := nWa_e hO
  have h1 := hO.2.2.2.1 w.toNat (by omega)
  refine z_aload_n C 0 dX1_stepsTo_0 rfl ?_
  refine z_iload_n C 1 dX1_stepsTo_1 rfl ?_
  refine z_callVi C (As := [vI w]) (st := []) (y := yX1_cellOfWatcher) (w := wsX1_cellOfWatcher) (rm := rm_X1_cellOfWatcher) (wr := []) (k' := 0) (n' := 0) [0, 1, 2, 3, 4, 5, 6, 7, 8] [] 0 (c_X1_cellOfWatcher l D cI cJ h σ LT γ φ w (by omega)) (cwV 1 C.1.2.2.2.2 gX1_stepsTo_X1_cellOfWatcher rfl rfl rfl (by decide +kernel) ⟨Nat.le_of_ble_eq_true rfl, Nat.le_of_ble_eq_true rfl⟩) rfl rfl rfl rfl rfl (by decide) rfl rfl rfl rfl (Nat.le_of_ble_eq_true rfl) rfl rfl ⟨Nat.le_of_ble_eq_true rfl, Nat.le_of_ble_eq_true rfl⟩ dX1_stepsTo_2 ?_
  rintro z_2 _ ⟨rfl, rfl⟩
  refine z_ws (ws' := (cw cI h σ LT γ φ)) rfl ?_
  refine z_st (v' := (σ 3 w.toNat)) rfl ?_
  refine z_istore_n C [(3, vI (σ 3 w.toNat)), (0, .ref (h 0)), (1, vI w), (2, vI g)] dX1_stepsTo_5 (by decide) rfl ?_
  refine z_iload_n C 0 dX1_stepsTo_6 rfl ?_
  refine z_iload_n C 3 dX1_stepsTo_7 rfl ?_
  refine z_icmp_ne C (tgt := 13) dX1_stepsTo_8 (by decide) (by omega) (by omega) (fun c_8 => ?_) (fun c_8 => ?_)
  ·
    refine z_aload_n C 1 dX1_stepsTo_13 rfl ?_
    refine z_iload_n C 0 dX1_stepsTo_14 rfl ?_
    refine z_callVv C (As := [vI (σ 3 w.toNat)]) (st := []) (y := yX1_spreadFrom) (w := wsX1_spreadFrom) (rm := rm_X1_spreadFrom) (wr := []) (k' := 0) (n' := 0) [0, 1, 2, 3, 4, 5, 6, 7, 8] [] 0 (c_X1_spreadFrom l D cI cJ h σ LT γ φ (σ 3 w.toNat) (by omega) hO hL) (cwV 1 C.1.2.2.2.2 gX1_stepsTo_X1_spreadFrom rfl rfl rfl (by decide +kernel) ⟨Nat.le_of_ble_eq_true rfl, Nat.le_of_ble_eq_true rfl⟩) rfl rfl rfl rfl rfl (by decide) rfl rfl rfl rfl (Nat.le_of_ble_eq_true rfl) rfl rfl ⟨Nat.le_of_ble_eq_true rfl, Nat.le_of_ble_eq_true rfl⟩ dX1_stepsTo_15 ?_
    rintro _ ⟨γ'_15, rfl, f0_15, f1_15⟩
    refine z_ws (ws' := (cw cI h σ LT γ'_15 φ)) rfl ?_
    refine z_aload_n C 1 dX1_stepsTo_18 rfl ?_
    refine z_iload_n C 3 dX1_stepsTo_19 rfl ?_
    refine z_callVi C (As := [vI g]) (st := []) (y := yX1_stepsAt) (w := wsX1_stepsAt) (rm := rm_X1_stepsAt) (wr := []) (k' := 0) (n' := 0) [0, 1, 2, 3, 4, 5, 6, 7, 8] [] 0 (c_X1_stepsAt l D cI cJ h σ LT γ'_15 φ g (by omega)) (cwV 1 C.1.2.2.2.2 gX1_stepsTo_X1_stepsAt rfl rfl rfl (by decide +kernel) ⟨Nat.le_of_ble_eq_true rfl, Nat.le_of_ble_eq_true rfl⟩) rfl rfl rfl rfl rfl (by decide) rfl rfl rfl rfl (Nat.le_of_ble_eq_true rfl) rfl rfl ⟨Nat.le_of_ble_eq_true rfl, Nat.le_of_ble_eq_true rfl⟩ dX1_stepsTo_20 ?_
    rintro z_20 _ ⟨rfl, rfl⟩
    refine z_ws (ws' := (cw cI h σ LT γ'_15 φ)) rfl ?_
    refine z_st (v' := (γ'_15 0 g.toNat)) rfl ?_
    exact hret _ _ _ _ dX1_stepsTo_23 ⟨γ'_15, rfl, fun S hS => dist_eq (by omega) f0_15 hS _ (by omega), f1_15 _ (by omega)⟩
  ·
    refine z_iconst C dX1_stepsTo_11 ?_
    exact hret _ _ _ _ dX1_stepsTo_12 ⟨γ, rfl, fun S hS => by rw [← c_8]; exact hS.1.symm, by omega⟩
