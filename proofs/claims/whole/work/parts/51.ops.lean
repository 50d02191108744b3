set_option maxHeartbeats 4000000 in
set_option maxRecDepth 100000 in
theorem op_darkest {p : Program} {l : Launch} {e : Env} {s : State} {m : MethodId} {args : Array Value} {below : List Frame} {meth : Method} {c : Code} {Q : State → Prop} {D : va_G} {cI cJ : ClassId} (C : Zc p s m args meth c (Av s) D [(cI, .int), (cJ, .long)] 9 cL_law RL wsL_law (some .boolean)) (hX : ZX l s (Av s)) (hW9 : WX s) {b L : Nat} {xs : Nat → Int32} (hX9 : va_X b L xs s s.heap) (hbl : b < s.heap.size) (hL2 : L ≤ 2048) {h g : Nat → Nat} {a3 i : Nat} (hi : i + 4 ≤ L) {o : Nat → Int64} {σ : YS} {LT : Nat → Int} {γ : YS} {φ : Nat → Int} {LI BR : Nat → Int} {γ2 : YS} {φ2 : Nat → Int} {θ : Int} (hO : Ok σ) (hL : LR LT) (hK : LOk σ LT) (hI : LI4 LI) (hB : BR9 BR) {k n : Nat} (hk9 : k + 1 ≤ room_1.cells) (hn9 : n + 6 ≤ room_1.slots) (kk : KK p l e s m args below meth c Q D cI cJ b h g a3 i (k + 1) (n + 6)) : Zs p l e room_1 s m args below meth c Q (Av s) D 9 1283 (lwL b h g a3 i) [] (lwW cI cJ h g a3 o σ LT γ φ LI BR γ2 φ2 θ) k n := by
  have q1 := dkM_r σ (lkF (lgV σ) LI 144) (lkF (brV σ) BR 144) 144 (Nat.le_refl _)
  refine z_aload_n C 1 dL_law_1283 rfl ?_
  refine z_callVi C (As := []) (st := []) (y := yX1_darkest) (w := wsX1_darkest) (rm := rm_X1_darkest) (wr := ((a3, lo cJ o) :: mx cI g σ LI BR γ2 φ2 θ)) (k' := k) (n' := n) [1, 2, 3, 4, 5, 6, 7, 8, 9] [0, 10, 11, 12, 13, 14, 15, 16, 17, 18] 1 (c_X1_darkest l D cI cJ h σ LT γ φ hO hL) (cwV 0 C.1.2.2.2.2 gL_law_X1_darkest rfl rfl rfl (by decide +kernel) ⟨Nat.le_of_ble_eq_true rfl, Nat.le_of_ble_eq_true rfl⟩) rfl rfl rfl rfl rfl (by decide) rfl rfl rfl rfl (Nat.le_of_ble_eq_true rfl) rfl rfl ⟨Nat.le_trans (Nat.le_add_right _ _) hk9, Nat.le_trans (Nat.le_add_right _ _) hn9⟩ dL_law_1284 ?_
  rintro z1 _ ⟨rfl, hz1⟩
  refine z_wsub (ws' := lwW cI cJ h g a3 o σ LT γ φ LI BR γ2 φ2 θ) [0, 10, 11, 12, 13, 14, 15, 16, 17, 18, 1, 2, 3, 4, 5, 6, 7, 8, 9] rfl rfl rfl ?_
  refine z_aload_n C 2 dL_law_1287 rfl ?_
  refine z_callVi C (As := []) (st := [vI z1]) (y := yX2_darkest) (w := wsX2_darkest) (rm := rm_X2_darkest) (wr := ((a3, lo cJ o) :: cw cI h σ LT γ φ)) (k' := k) (n' := n) [10, 11, 12, 13, 14, 15, 16, 17, 18] [0, 1, 2, 3, 4, 5, 6, 7, 8, 9] 10 (c_X2_darkest l D cI cJ g σ LI BR γ2 φ2 θ hO hI hB) (cwV 0 C.1.2.2.2.2 gL_law_X2_darkest rfl rfl rfl (by decide +kernel) ⟨Nat.le_of_ble_eq_true rfl, Nat.le_of_ble_eq_true rfl⟩) rfl rfl rfl rfl rfl (by decide) rfl rfl rfl rfl (Nat.le_of_ble_eq_true rfl) rfl rfl ⟨Nat.le_trans (Nat.le_add_right _ _) hk9, Nat.le_trans (Nat.le_add_right _ _) hn9⟩ dL_law_1288 ?_
  rintro z2 _ ⟨φ'', rfl, hz2⟩
  refine z_ws (ws' := lwW cI cJ h g a3 o σ LT γ φ (lkF (lgV σ) LI 144) (lkF (brV σ) BR 144) γ2 φ'' 0) rfl ?_
  have e9 : z1 = z2 := by rw [hz1, hz2, dk_e LI BR hO hL hK 144 (Nat.le_refl _)]
  have e8 : z2 = dkM σ (lkF (lgV σ) LI 144) (lkF (brV σ) BR 144) 144 := hz2
  refine z_icmp_eq C (tgt := 1351) dL_law_1291 (by decide) (by omega) (by omega) (fun _ => ?_) (fun c9 => absurd e9 c9)
  refine z_widen (k' := k + 1) (n' := n + 6) (Nat.le_add_right _ _) (Nat.le_add_right _ _) ?_
  exact kk _ _ _ _ _ _ _ _ _ _ hO hL hK (lkL_r hO hI 144) (lkB_r hO hB (Nat.le_refl _))

set_option maxHeartbeats 4000000 in
set_option maxRecDepth 100000 in
theorem op_digest {p : Program} {l : Launch} {e : Env} {s : State} {m : MethodId} {args : Array Value} {below : List Frame} {meth : Method} {c : Code} {Q : State → Prop} {D : va_G} {cI cJ : ClassId} (C : Zc p s m args meth c (Av s) D [(cI, .int), (cJ, .long)] 9 cL_law RL wsL_law (some .boolean)) (hX : ZX l s (Av s)) (hW9 : WX s) {b L : Nat} {xs : Nat → Int32} (hX9 : va_X b L xs s s.heap) (hbl : b < s.heap.size) (hL2 : L ≤ 2048) {h g : Nat → Nat} {a3 i : Nat} (hi : i + 4 ≤ L) {o : Nat → Int64} {σ : YS} {LT : Nat → Int} {γ : YS} {φ : Nat → Int} {LI BR : Nat → Int} {γ2 : YS} {φ2 : Nat → Int} {θ : Int} (hO : Ok σ) (hL : LR LT) (hK : LOk σ LT) (hI : LI4 LI) (hB : BR9 BR) {k n : Nat} (hk9 : k + 1 ≤ room_1.cells) (hn9 : n + 6 ≤ room_1.slots) (kk : KK p l e s m args below meth c Q D cI cJ b h g a3 i (k + 1) (n + 6)) : Zs p l e room_1 s m args below meth c Q (Av s) D 9 1337 (lwL b h g a3 i) [] (lwW cI cJ h g a3 o σ LT γ φ LI BR γ2 φ2 θ) k n := by
  refine z_aload_n C 1 dL_law_1337 rfl ?_
  refine z_callVl C (As := []) (st := []) (y := yX1_digest) (w := wsX1_digest) (rm := rm_X1_digest) (wr := ((a3, lo cJ o) :: mx cI g σ LI BR γ2 φ2 θ)) (k' := k) (n' := n) [1, 2, 3, 4, 5, 6, 7, 8, 9] [0, 10, 11, 12, 13, 14, 15, 16, 17, 18] 1 (c_X1_digest l D cI cJ h σ LT γ φ hO hL) (cwV 0 C.1.2.2.2.2 gL_law_X1_digest rfl rfl rfl (by decide +kernel) ⟨Nat.le_of_ble_eq_true rfl, Nat.le_of_ble_eq_true rfl⟩) rfl rfl rfl rfl rfl (by decide) rfl rfl rfl rfl (Nat.le_of_ble_eq_true rfl) rfl rfl ⟨Nat.le_trans (Nat.le_add_right _ _) hk9, Nat.le_trans (Nat.le_add_right _ _) hn9⟩ dL_law_1338 ?_
  rintro z1 _ ⟨φ', rfl, hz1⟩
  refine z_wsub (ws' := lwW cI cJ h g a3 o σ LT γ φ' LI BR γ2 φ2 θ) [0, 10, 11, 12, 13, 14, 15, 16, 17, 18, 1, 2, 3, 4, 5, 6, 7, 8, 9] rfl rfl rfl ?_
  refine z_aload_n C 2 dL_law_1341 rfl ?_
  refine z_callVl C (As := []) (st := [.long z1]) (y := yX2_digest) (w := wsX2_digest) (rm := rm_X2_digest) (wr := ((a3, lo cJ o) :: cw cI h σ LT γ φ')) (k' := k) (n' := n) [10, 11, 12, 13, 14, 15, 16, 17, 18] [0, 1, 2, 3, 4, 5, 6, 7, 8, 9] 10 (c_X2_digest l D cI cJ g σ LI BR γ2 φ2 θ hO hI hB) (cwV 0 C.1.2.2.2.2 gL_law_X2_digest rfl rfl rfl (by decide +kernel) ⟨Nat.le_of_ble_eq_true rfl, Nat.le_of_ble_eq_true rfl⟩) rfl rfl rfl rfl rfl (by decide) rfl rfl rfl rfl (Nat.le_of_ble_eq_true rfl) rfl rfl ⟨Nat.le_trans (Nat.le_add_right _ _) hk9, Nat.le_trans (Nat.le_add_right _ _) hn9⟩ dL_law_1342 ?_
  rintro z2 _ ⟨φ'', rfl, hz2⟩
  refine z_ws (ws' := lwW cI cJ h g a3 o σ LT γ φ' (lkF (lgV σ) LI 144) (lkF (brV σ) BR 144) γ2 φ'' 0) rfl ?_
  refine z_lcmpE C (show z1 = z2 by rw [hz1, hz2, dig_e LI BR hO hL hK]) dL_law_1345 ?_
  refine z_if_eq C (tgt := 1351) dL_law_1346 (by decide) (by omega) (fun _ => ?_) (fun c9 => absurd rfl c9)
  refine z_widen (k' := k + 1) (n' := n + 6) (Nat.le_add_right _ _) (Nat.le_add_right _ _) ?_
  exact kk _ _ _ _ _ _ _ _ _ _ hO hL hK (lkL_r hO hI 144) (lkB_r hO hB (Nat.le_refl _))

set_option maxHeartbeats 4000000 in
set_option maxRecDepth 100000 in
theorem op_mean {p : Program} {l : Launch} {e : Env} {s : State} {m : MethodId} {args : Array Value} {below : List Frame} {meth : Method} {c : Code} {Q : State → Prop} {D : va_G} {cI cJ : ClassId} {d : Drawn} (hd0 : s.drawn.sameBut d lw_cs) (C : Zc p (s.setDrawn d) m args meth c (Av s) D [(cI, .int), (cJ, .long)] 9 cL_law RL wsL_law (some .boolean)) {b : Nat} {h g : Nat → Nat} {a3 i : Nat} {o : Nat → Int64} {σ : YS} {LT : Nat → Int} {γ : YS} {φ : Nat → Int} {LI BR : Nat → Int} {γ2 : YS} {φ2 : Nat → Int} {θ : Int} (hO : Ok σ) (hL : LR LT) (hK : LOk σ LT) (hI : LI4 LI) (hB : BR9 BR) {k n : Nat} (hk9 : k + 1 ≤ room_1.cells) (hn9 : n + 6 ≤ room_1.slots) (kk : ∀ d : Drawn, s.drawn.sameBut d lw_cs → KK p l e (s.setDrawn d) m args below meth c Q D cI cJ b h g a3 i (k + 1) (n + 6)) : Zs p l e room_1 (s.setDrawn d) m args below meth c Q (Av s) D 9 1296 (lwL b h g a3 i) [] (lwW cI cJ h g a3 o σ LT γ φ LI BR γ2 φ2 θ) k n := by
  refine z_aload_n C 1 dL_law_1296 rfl ?_
  refine z_callVd hd0 C (As := []) (st := []) (y := yX1_mean) (w := wsX1_mean) (rm := rm_X1_mean) (wr := ((a3, lo cJ o) :: mx cI g σ LI BR γ2 φ2 θ)) (k' := k) (n' := n) [1, 2, 3, 4, 5, 6, 7, 8, 9] [0, 10, 11, 12, 13, 14, 15, 16, 17, 18] 1 (c_X1_mean l D cI cJ h σ LT γ φ hO hL) (cwV 0 C.1.2.2.2.2 gL_law_X1_mean rfl rfl rfl (by decide +kernel) ⟨Nat.le_of_ble_eq_true rfl, Nat.le_of_ble_eq_true rfl⟩) rfl rfl rfl rfl rfl (by decide) rfl rfl rfl rfl (Nat.le_of_ble_eq_true rfl) rfl rfl ⟨Nat.le_trans (Nat.le_add_right _ _) hk9, Nat.le_trans (Nat.le_add_right _ _) hn9⟩ dL_law_1297 ?_
  intro z1 _ d1 hq1 hd1
  obtain ⟨rfl, hq0, hq2⟩ := hq1
  have C1 : Zc p (s.setDrawn d1) m args meth c (Av s) D [(cI, .int), (cJ, .long)] 9 cL_law RL wsL_law (some .boolean) := C.drawn d1
  refine z_wsub (ws' := lwW cI cJ h g a3 o σ LT γ φ LI BR γ2 φ2 θ) [0, 10, 11, 12, 13, 14, 15, 16, 17, 18, 1, 2, 3, 4, 5, 6, 7, 8, 9] rfl rfl rfl ?_
  refine z_dstore C1 [(5, .double z1), (0, .ref b), (1, .ref (h 0)), (2, .ref (g 0)), (3, .ref a3), (4, vI (i : Int))] dL_law_1300 (by decide) rfl ?_
  refine z_aload_n C1 3 dL_law_1302 rfl ?_
  refine z_callVd hd1 C1 (As := []) (st := []) (y := yX2_mean) (w := wsX2_mean) (rm := rm_X2_mean) (wr := ((a3, lo cJ o) :: cw cI h σ LT γ φ)) (k' := k) (n' := n) [10, 11, 12, 13, 14, 15, 16, 17, 18] [0, 1, 2, 3, 4, 5, 6, 7, 8, 9] 10 (c_X2_mean l D cI cJ g σ LI BR γ2 φ2 θ hO hI hB) (cwV 0 C1.1.2.2.2.2 gL_law_X2_mean rfl rfl rfl (by decide +kernel) ⟨Nat.le_of_ble_eq_true rfl, Nat.le_of_ble_eq_true rfl⟩) rfl rfl rfl rfl rfl (by decide) rfl rfl rfl rfl (Nat.le_of_ble_eq_true rfl) rfl rfl ⟨Nat.le_trans (Nat.le_add_right _ _) hk9, Nat.le_trans (Nat.le_add_right _ _) hn9⟩ dL_law_1303 ?_
  intro z2 _ d2 hq3 hd2
  obtain ⟨⟨φ'', rfl⟩, hr0, hr2⟩ := hq3
  have C2 : Zc p (s.setDrawn d2) m args meth c (Av s) D [(cI, .int), (cJ, .long)] 9 cL_law RL wsL_law (some .boolean) := C.drawn d2
  refine z_ws (ws' := lwW cI cJ h g a3 o σ LT γ φ (lkF (lgV σ) LI 144) (lkF (brV σ) BR 144) γ2 φ'' 0) rfl ?_
  refine z_dstore C2 [(7, .double z2), (5, .double z1), (0, .ref b), (1, .ref (h 0)), (2, .ref (g 0)), (3, .ref a3), (4, vI (i : Int))] dL_law_1306 (by decide) rfl ?_
  refine z_dload C2 1 dL_law_1308 rfl ?_
  refine z_dload C2 0 dL_law_1310 rfl ?_
  have eL : litC LT = litC (lgV σ) := litC_e (fun c hc => lk_ne hO hL hK hc)
  have key : FP.dcmp z1 z2 = some .eq ∨ (FP.dcmp z1 z2 = none ∧ FP.dcmp z1 z1 = none ∧ FP.dcmp z2 z2 = none) := by
    by_cases ql : litC LT = 0
    · rw [hq0 ql, hr0 (by rw [← eL]; exact ql)]; exact Or.inl (by decide +kernel)
    · exact al_cmp (hq2 ql) (by rw [mean_e BR hO hL hK]; exact hr2 (by rw [← eL]; exact ql))
  rcases key with q | ⟨q, q1, q2⟩
  · refine z_dcmp C2 (v := 0) (by rw [q]; rfl) dL_law_1312 ?_
    refine z_if_eq C2 (tgt := 1334) dL_law_1313 (by decide) (by decide) (fun _ => ?_) (fun c9 => absurd rfl c9)
    refine z_goto C2 (tgt := 1351) dL_law_1334 (by decide) ?_
    refine z_sub (lv' := lwL b h g a3 i) [2, 3, 4, 5, 6] rfl ?_
    refine z_widen (k' := k + 1) (n' := n + 6) (Nat.le_add_right _ _) (Nat.le_add_right _ _) ?_
    exact kk d2 hd2 _ _ _ _ _ _ _ _ _ _ hO hL hK (lkL_r hO hI 144) (lkB_r hO hB (Nat.le_refl _))
  · refine z_dcmp C2 (v := -1) (by rw [q]; rfl) dL_law_1312 ?_
    refine z_if_eq C2 (tgt := 1334) dL_law_1313 (by decide) (by decide) (fun c9 => absurd c9 (by decide)) (fun _ => ?_)
    refine z_dload C2 1 dL_law_1316 rfl ?_
    refine z_dload C2 1 dL_law_1318 rfl ?_
    refine z_dcmp C2 (v := -1) (by rw [q1]; rfl) dL_law_1320 ?_
    refine z_if_eq C2 (tgt := 1332) dL_law_1321 (by decide) (by decide) (fun c9 => absurd c9 (by decide)) (fun _ => ?_)
    refine z_dload C2 0 dL_law_1324 rfl ?_
    refine z_dload C2 0 dL_law_1326 rfl ?_
    refine z_dcmp C2 (v := -1) (by rw [q2]; rfl) dL_law_1328 ?_
    refine z_if_ne C2 (tgt := 1334) dL_law_1329 (by decide) (by decide) (fun _ => ?_) (fun c9 => absurd c9 (by decide))
    refine z_goto C2 (tgt := 1351) dL_law_1334 (by decide) ?_
    refine z_sub (lv' := lwL b h g a3 i) [2, 3, 4, 5, 6] rfl ?_
    refine z_widen (k' := k + 1) (n' := n + 6) (Nat.le_add_right _ _) (Nat.le_add_right _ _) ?_
    exact kk d2 hd2 _ _ _ _ _ _ _ _ _ _ hO hL hK (lkL_r hO hI 144) (lkB_r hO hB (Nat.le_refl _))

set_option maxHeartbeats 4000000 in
set_option maxRecDepth 100000 in
theorem op_set {p : Program} {l : Launch} {e : Env} {s : State} {m : MethodId} {args : Array Value} {below : List Frame} {meth : Method} {c : Code} {Q : State → Prop} {D : va_G} {cI cJ : ClassId} (C : Zc p s m args meth c (Av s) D [(cI, .int), (cJ, .long)] 9 cL_law RL wsL_law (some .boolean)) (hX : ZX l s (Av s)) (hW9 : WX s) {b L : Nat} {xs : Nat → Int32} (hX9 : va_X b L xs s s.heap) (hbl : b < s.heap.size) (hL2 : L ≤ 2048) {h g : Nat → Nat} {a3 i : Nat} (hi : i + 4 ≤ L) {o : Nat → Int64} {σ : YS} {LT : Nat → Int} {γ : YS} {φ : Nat → Int} {LI BR : Nat → Int} {γ2 : YS} {φ2 : Nat → Int} {θ : Int} (hO : Ok σ) (hL : LR LT) (hK : LOk σ LT) (hI : LI4 LI) (hB : BR9 BR) {k n : Nat} (hk9 : k + 1 ≤ room_1.cells) (hn9 : n + 6 ≤ room_1.slots) {x : Int} (e1 : (xs ((i : Int) + 1).toNat).toInt = x) (r1 : rng x) {y : Int} (e2 : (xs ((i : Int) + 2).toNat).toInt = y) (r2 : rng y) {kd : Int} (e3 : (xs ((i : Int) + 3).toNat).toInt = kd) (r3 : rng kd) (kk : KK p l e s m args below meth c Q D cI cJ b h g a3 i (k + 1) (n + 6)) : Zs p l e room_1 s m args below meth c Q (Av s) D 9 128 (lwL b h g a3 i) [] (lwW cI cJ h g a3 o σ LT γ φ LI BR γ2 φ2 θ) k n := by
  by_cases hp : ((0 ≤ x ∧ x < 12) ∧ 0 ≤ y ∧ y < 12)
  ·
    by_cases hq : 0 ≤ kd ∧ kd < 4
    ·
      exact o0_set C hX hW9 hX9 hbl hL2 hi hO hL hK hI hB hk9 hn9 e1 r1 e2 r2 e3 r3 hp.1 hp.2 hq kk
    ·
      exact o2_set C hX hW9 hX9 hbl hL2 hi hO hL hK hI hB hk9 hn9 e1 r1 e2 r2 e3 r3 hp hq kk
  ·
    exact o1_set C hX hW9 hX9 hbl hL2 hi hO hL hK hI hB hk9 hn9 e1 r1 e2 r2 e3 r3 hp kk

set_option maxHeartbeats 4000000 in
set_option maxRecDepth 100000 in
theorem op_would {p : Program} {l : Launch} {e : Env} {s : State} {m : MethodId} {args : Array Value} {below : List Frame} {meth : Method} {c : Code} {Q : State → Prop} {D : va_G} {cI cJ : ClassId} (C : Zc p s m args meth c (Av s) D [(cI, .int), (cJ, .long)] 9 cL_law RL wsL_law (some .boolean)) (hX : ZX l s (Av s)) (hW9 : WX s) {b L : Nat} {xs : Nat → Int32} (hX9 : va_X b L xs s s.heap) (hbl : b < s.heap.size) (hL2 : L ≤ 2048) {h g : Nat → Nat} {a3 i : Nat} (hi : i + 4 ≤ L) {o : Nat → Int64} {σ : YS} {LT : Nat → Int} {γ : YS} {φ : Nat → Int} {LI BR : Nat → Int} {γ2 : YS} {φ2 : Nat → Int} {θ : Int} (hO : Ok σ) (hL : LR LT) (hK : LOk σ LT) (hI : LI4 LI) (hB : BR9 BR) {k n : Nat} (hk9 : k + 1 ≤ room_1.cells) (hn9 : n + 6 ≤ room_1.slots) {x : Int} (e1 : (xs ((i : Int) + 1).toNat).toInt = x) (r1 : rng x) {y : Int} (e2 : (xs ((i : Int) + 2).toNat).toInt = y) (r2 : rng y) {kd : Int} (e3 : (xs ((i : Int) + 3).toNat).toInt = kd) (r3 : rng kd) (kk : KK p l e s m args below meth c Q D cI cJ b h g a3 i (k + 1) (n + 6)) : Zs p l e room_1 s m args below meth c Q (Av s) D 9 1147 (lwL b h g a3 i) [] (lwW cI cJ h g a3 o σ LT γ φ LI BR γ2 φ2 θ) k n := by
  by_cases hp : ((0 ≤ x ∧ x < 12) ∧ 0 ≤ y ∧ y < 12)
  ·
    by_cases hq : 0 ≤ kd ∧ kd < 4
    ·
      exact o0_would C hX hW9 hX9 hbl hL2 hi hO hL hK hI hB hk9 hn9 e1 r1 e2 r2 e3 r3 hp.1 hp.2 hq kk
    ·
      exact o2_would C hX hW9 hX9 hbl hL2 hi hO hL hK hI hB hk9 hn9 e1 r1 e2 r2 e3 r3 hp hq kk
  ·
    exact o1_would C hX hW9 hX9 hbl hL2 hi hO hL hK hI hB hk9 hn9 e1 r1 e2 r2 e3 r3 hp kk

set_option maxHeartbeats 4000000 in
set_option maxRecDepth 100000 in
theorem op_lamp {p : Program} {l : Launch} {e : Env} {s : State} {m : MethodId} {args : Array Value} {below : List Frame} {meth : Method} {c : Code} {Q : State → Prop} {D : va_G} {cI cJ : ClassId} (C : Zc p s m args meth c (Av s) D [(cI, .int), (cJ, .long)] 9 cL_law RL wsL_law (some .boolean)) (hX : ZX l s (Av s)) (hW9 : WX s) {b L : Nat} {xs : Nat → Int32} (hX9 : va_X b L xs s s.heap) (hbl : b < s.heap.size) (hL2 : L ≤ 2048) {h g : Nat → Nat} {a3 i : Nat} (hi : i + 4 ≤ L) {o : Nat → Int64} {σ : YS} {LT : Nat → Int} {γ : YS} {φ : Nat → Int} {LI BR : Nat → Int} {γ2 : YS} {φ2 : Nat → Int} {θ : Int} (hO : Ok σ) (hL : LR LT) (hK : LOk σ LT) (hI : LI4 LI) (hB : BR9 BR) {k n : Nat} (hk9 : k + 1 ≤ room_1.cells) (hn9 : n + 6 ≤ room_1.slots) {x : Int} (e1 : (xs ((i : Int) + 1).toNat).toInt = x) (r1 : rng x) {y : Int} (e2 : (xs ((i : Int) + 2).toNat).toInt = y) (r2 : rng y) {r : Int} (e3 : (xs ((i : Int) + 3).toNat).toInt = r) (r3 : rng r) (kk : KK p l e s m args below meth c Q D cI cJ b h g a3 i (k + 1) (n + 6)) : Zs p l e room_1 s m args below meth c Q (Av s) D 9 208 (lwL b h g a3 i) [] (lwW cI cJ h g a3 o σ LT γ φ LI BR γ2 φ2 θ) k n := by
  by_cases hp : ((0 ≤ x ∧ x < 12) ∧ 0 ≤ y ∧ y < 12)
  ·
    by_cases hr : 1 ≤ r ∧ r < 13
    ·
      by_cases h4 : σ 4 0 = 4
      ·
        exact o3_lamp C hX hW9 hX9 hbl hL2 hi hO hL hK hI hB hk9 hn9 e1 r1 e2 r2 e3 r3 hp hr h4 kk
      ·
        by_cases hl : lampB σ (12 * y + x) = true
        ·
          exact o4_lamp C hX hW9 hX9 hbl hL2 hi hO hL hK hI hB hk9 hn9 e1 r1 e2 r2 e3 r3 hp hr (by have := hO.1; omega) hl kk
        ·
          exact o0_lamp C hX hW9 hX9 hbl hL2 hi hO hL hK hI hB hk9 hn9 e1 r1 e2 r2 e3 r3 hp.1 hp.2 hr (by have := hO.1; omega) (Bool.eq_false_iff.mpr hl) kk
    ·
      exact o2_lamp C hX hW9 hX9 hbl hL2 hi hO hL hK hI hB hk9 hn9 e1 r1 e2 r2 e3 r3 hp hr kk
  ·
    exact o1_lamp C hX hW9 hX9 hbl hL2 hi hO hL hK hI hB hk9 hn9 e1 r1 e2 r2 e3 r3 hp kk

set_option maxHeartbeats 4000000 in
set_option maxRecDepth 100000 in
theorem op_carry {p : Program} {l : Launch} {e : Env} {s : State} {m : MethodId} {args : Array Value} {below : List Frame} {meth : Method} {c : Code} {Q : State → Prop} {D : va_G} {cI cJ : ClassId} (C : Zc p s m args meth c (Av s) D [(cI, .int), (cJ, .long)] 9 cL_law RL wsL_law (some .boolean)) (hX : ZX l s (Av s)) (hW9 : WX s) {b L : Nat} {xs : Nat → Int32} (hX9 : va_X b L xs s s.heap) (hbl : b < s.heap.size) (hL2 : L ≤ 2048) {h g : Nat → Nat} {a3 i : Nat} (hi : i + 4 ≤ L) {o : Nat → Int64} {σ : YS} {LT : Nat → Int} {γ : YS} {φ : Nat → Int} {LI BR : Nat → Int} {γ2 : YS} {φ2 : Nat → Int} {θ : Int} (hO : Ok σ) (hL : LR LT) (hK : LOk σ LT) (hI : LI4 LI) (hB : BR9 BR) {k n : Nat} (hk9 : k + 1 ≤ room_1.cells) (hn9 : n + 6 ≤ room_1.slots) {kl : Int} (e1 : (xs ((i : Int) + 1).toNat).toInt = kl) (r1 : rng kl) {x : Int} (e2 : (xs ((i : Int) + 2).toNat).toInt = x) (r2 : rng x) {y : Int} (e3 : (xs ((i : Int) + 3).toNat).toInt = y) (r3 : rng y) (kk : KK p l e s m args below meth c Q D cI cJ b h g a3 i (k + 1) (n + 6)) : Zs p l e room_1 s m args below meth c Q (Av s) D 9 288 (lwL b h g a3 i) [] (lwW cI cJ h g a3 o σ LT γ φ LI BR γ2 φ2 θ) k n := by
  by_cases hk : 0 ≤ kl ∧ kl < σ 4 0
  ·
    by_cases hp : ((0 ≤ x ∧ x < 12) ∧ 0 ≤ y ∧ y < 12)
    ·
      by_cases hl : lampB σ (12 * y + x) = true
      ·
        exact o3_carry C hX hW9 hX9 hbl hL2 hi hO hL hK hI hB hk9 hn9 e1 r1 e2 r2 e3 r3 hk hp hl kk
      ·
        exact o0_carry C hX hW9 hX9 hbl hL2 hi hO hL hK hI hB hk9 hn9 e1 r1 e2 r2 e3 r3 hk hp.1 hp.2 (Bool.eq_false_iff.mpr hl) kk
    ·
      exact o2_carry C hX hW9 hX9 hbl hL2 hi hO hL hK hI hB hk9 hn9 e1 r1 e2 r2 e3 r3 hk hp kk
  ·
    exact o1_carry C hX hW9 hX9 hbl hL2 hi hO hL hK hI hB hk9 hn9 e1 r1 e2 r2 e3 r3 hk kk

set_option maxHeartbeats 4000000 in
set_option maxRecDepth 100000 in
theorem op_turn {p : Program} {l : Launch} {e : Env} {s : State} {m : MethodId} {args : Array Value} {below : List Frame} {meth : Method} {c : Code} {Q : State → Prop} {D : va_G} {cI cJ : ClassId} (C : Zc p s m args meth c (Av s) D [(cI, .int), (cJ, .long)] 9 cL_law RL wsL_law (some .boolean)) (hX : ZX l s (Av s)) (hW9 : WX s) {b L : Nat} {xs : Nat → Int32} (hX9 : va_X b L xs s s.heap) (hbl : b < s.heap.size) (hL2 : L ≤ 2048) {h g : Nat → Nat} {a3 i : Nat} (hi : i + 4 ≤ L) {o : Nat → Int64} {σ : YS} {LT : Nat → Int} {γ : YS} {φ : Nat → Int} {LI BR : Nat → Int} {γ2 : YS} {φ2 : Nat → Int} {θ : Int} (hO : Ok σ) (hL : LR LT) (hK : LOk σ LT) (hI : LI4 LI) (hB : BR9 BR) {k n : Nat} (hk9 : k + 1 ≤ room_1.cells) (hn9 : n + 6 ≤ room_1.slots) {kl : Int} (e1 : (xs ((i : Int) + 1).toNat).toInt = kl) (r1 : rng kl) {r : Int} (e2 : (xs ((i : Int) + 2).toNat).toInt = r) (r2 : rng r) (kk : KK p l e s m args below meth c Q D cI cJ b h g a3 i (k + 1) (n + 6)) : Zs p l e room_1 s m args below meth c Q (Av s) D 9 368 (lwL b h g a3 i) [] (lwW cI cJ h g a3 o σ LT γ φ LI BR γ2 φ2 θ) k n := by
  by_cases hk : 0 ≤ kl ∧ kl < σ 4 0
  ·
    by_cases hr : 1 ≤ r ∧ r < 13
    ·
      exact o0_turn C hX hW9 hX9 hbl hL2 hi hO hL hK hI hB hk9 hn9 e1 r1 e2 r2 hk hr kk
    ·
      exact o2_turn C hX hW9 hX9 hbl hL2 hi hO hL hK hI hB hk9 hn9 e1 r1 e2 r2 hk hr kk
  ·
    exact o1_turn C hX hW9 hX9 hbl hL2 hi hO hL hK hI hB hk9 hn9 e1 r1 e2 r2 hk kk

set_option maxHeartbeats 4000000 in
set_option maxRecDepth 100000 in
theorem op_watcher {p : Program} {l : Launch} {e : Env} {s : State} {m : MethodId} {args : Array Value} {below : List Frame} {meth : Method} {c : Code} {Q : State → Prop} {D : va_G} {cI cJ : ClassId} (C : Zc p s m args meth c (Av s) D [(cI, .int), (cJ, .long)] 9 cL_law RL wsL_law (some .boolean)) (hX : ZX l s (Av s)) (hW9 : WX s) {b L : Nat} {xs : Nat → Int32} (hX9 : va_X b L xs s s.heap) (hbl : b < s.heap.size) (hL2 : L ≤ 2048) {h g : Nat → Nat} {a3 i : Nat} (hi : i + 4 ≤ L) {o : Nat → Int64} {σ : YS} {LT : Nat → Int} {γ : YS} {φ : Nat → Int} {LI BR : Nat → Int} {γ2 : YS} {φ2 : Nat → Int} {θ : Int} (hO : Ok σ) (hL : LR LT) (hK : LOk σ LT) (hI : LI4 LI) (hB : BR9 BR) {k n : Nat} (hk9 : k + 1 ≤ room_1.cells) (hn9 : n + 6 ≤ room_1.slots) {x : Int} (e1 : (xs ((i : Int) + 1).toNat).toInt = x) (r1 : rng x) {y : Int} (e2 : (xs ((i : Int) + 2).toNat).toInt = y) (r2 : rng y) (kk : KK p l e s m args below meth c Q D cI cJ b h g a3 i (k + 1) (n + 6)) : Zs p l e room_1 s m args below meth c Q (Av s) D 9 436 (lwL b h g a3 i) [] (lwW cI cJ h g a3 o σ LT γ φ LI BR γ2 φ2 θ) k n := by
  by_cases hp : ((0 ≤ x ∧ x < 12) ∧ 0 ≤ y ∧ y < 12)
  ·
    by_cases h6 : σ 4 1 = 6
    ·
      exact o2_watcher C hX hW9 hX9 hbl hL2 hi hO hL hK hI hB hk9 hn9 e1 r1 e2 r2 hp h6 kk
    ·
      by_cases h0 : σ 0 (12 * y + x).toNat = 0
      ·
        exact o0_watcher C hX hW9 hX9 hbl hL2 hi hO hL hK hI hB hk9 hn9 e1 r1 e2 r2 hp.1 hp.2 (by have := hO.2.1; omega) h0 kk
      ·
        exact o3_watcher C hX hW9 hX9 hbl hL2 hi hO hL hK hI hB hk9 hn9 e1 r1 e2 r2 hp (by have := hO.2.1; omega) h0 kk
  ·
    exact o1_watcher C hX hW9 hX9 hbl hL2 hi hO hL hK hI hB hk9 hn9 e1 r1 e2 r2 hp kk

set_option maxHeartbeats 4000000 in
set_option maxRecDepth 100000 in
theorem op_creep {p : Program} {l : Launch} {e : Env} {s : State} {m : MethodId} {args : Array Value} {below : List Frame} {meth : Method} {c : Code} {Q : State → Prop} {D : va_G} {cI cJ : ClassId} (C : Zc p s m args meth c (Av s) D [(cI, .int), (cJ, .long)] 9 cL_law RL wsL_law (some .boolean)) (hX : ZX l s (Av s)) (hW9 : WX s) {b L : Nat} {xs : Nat → Int32} (hX9 : va_X b L xs s s.heap) (hbl : b < s.heap.size) (hL2 : L ≤ 2048) {h g : Nat → Nat} {a3 i : Nat} (hi : i + 4 ≤ L) {o : Nat → Int64} {σ : YS} {LT : Nat → Int} {γ : YS} {φ : Nat → Int} {LI BR : Nat → Int} {γ2 : YS} {φ2 : Nat → Int} {θ : Int} (hO : Ok σ) (hL : LR LT) (hK : LOk σ LT) (hI : LI4 LI) (hB : BR9 BR) {k n : Nat} (hk9 : k + 1 ≤ room_1.cells) (hn9 : n + 6 ≤ room_1.slots) {w : Int} (e1 : (xs ((i : Int) + 1).toNat).toInt = w) (r1 : rng w) {x : Int} (e2 : (xs ((i : Int) + 2).toNat).toInt = x) (r2 : rng x) {y : Int} (e3 : (xs ((i : Int) + 3).toNat).toInt = y) (r3 : rng y) (kk : KK p l e s m args below meth c Q D cI cJ b h g a3 i (k + 1) (n + 6)) : Zs p l e room_1 s m args below meth c Q (Av s) D 9 504 (lwL b h g a3 i) [] (lwW cI cJ h g a3 o σ LT γ φ LI BR γ2 φ2 θ) k n := by
  by_cases hw : 0 ≤ w ∧ w < σ 4 1
  ·
    by_cases hp : ((0 ≤ x ∧ x < 12) ∧ 0 ≤ y ∧ y < 12)
    ·
      by_cases hv : dS nbN (frB σ LT) (σ 3 w.toNat).toNat (12 * y + x).toNat = -1
      ·
        exact o3_creep C hX hW9 hX9 hbl hL2 hi hO hL hK hI hB hk9 hn9 e1 r1 e2 r2 e3 r3 hw hp.1 hp.2 (dS_eq (ag_of LI hO hL hK) (st_w hO hw) (show (12 * y + x).toNat < 144 by omega)) hv kk
      ·
        exact o0_creep C hX hW9 hX9 hbl hL2 hi hO hL hK hI hB hk9 hn9 e1 r1 e2 r2 e3 r3 hw hp.1 hp.2 (dS_eq (ag_of LI hO hL hK) (st_w hO hw) (show (12 * y + x).toNat < 144 by omega)) hv kk
    ·
      exact o2_creep C hX hW9 hX9 hbl hL2 hi hO hL hK hI hB hk9 hn9 e1 r1 e2 r2 e3 r3 hw hp kk
  ·
    exact o1_creep C hX hW9 hX9 hbl hL2 hi hO hL hK hI hB hk9 hn9 e1 r1 e2 r2 e3 r3 hw kk

set_option maxHeartbeats 4000000 in
set_option maxRecDepth 100000 in
theorem op_creeps {p : Program} {l : Launch} {e : Env} {s : State} {m : MethodId} {args : Array Value} {below : List Frame} {meth : Method} {c : Code} {Q : State → Prop} {D : va_G} {cI cJ : ClassId} (C : Zc p s m args meth c (Av s) D [(cI, .int), (cJ, .long)] 9 cL_law RL wsL_law (some .boolean)) (hX : ZX l s (Av s)) (hW9 : WX s) {b L : Nat} {xs : Nat → Int32} (hX9 : va_X b L xs s s.heap) (hbl : b < s.heap.size) (hL2 : L ≤ 2048) {h g : Nat → Nat} {a3 i : Nat} (hi : i + 4 ≤ L) {o : Nat → Int64} {σ : YS} {LT : Nat → Int} {γ : YS} {φ : Nat → Int} {LI BR : Nat → Int} {γ2 : YS} {φ2 : Nat → Int} {θ : Int} (hO : Ok σ) (hL : LR LT) (hK : LOk σ LT) (hI : LI4 LI) (hB : BR9 BR) {k n : Nat} (hk9 : k + 1 ≤ room_1.cells) (hn9 : n + 6 ≤ room_1.slots) {w : Int} (e1 : (xs ((i : Int) + 1).toNat).toInt = w) (r1 : rng w) {x : Int} (e2 : (xs ((i : Int) + 2).toNat).toInt = x) (r2 : rng x) {y : Int} (e3 : (xs ((i : Int) + 3).toNat).toInt = y) (r3 : rng y) (kk : KK p l e s m args below meth c Q D cI cJ b h g a3 i (k + 1) (n + 6)) : Zs p l e room_1 s m args below meth c Q (Av s) D 9 1067 (lwL b h g a3 i) [] (lwW cI cJ h g a3 o σ LT γ φ LI BR γ2 φ2 θ) k n := by
  by_cases hw : 0 ≤ w ∧ w < σ 4 1
  ·
    by_cases hp : ((0 ≤ x ∧ x < 12) ∧ 0 ≤ y ∧ y < 12)
    ·
      exact o0_creeps C hX hW9 hX9 hbl hL2 hi hO hL hK hI hB hk9 hn9 e1 r1 e2 r2 e3 r3 hw hp.1 hp.2 (dS_eq (ag_of LI hO hL hK) (st_w hO hw) (show (12 * y + x).toNat < 144 by omega)) kk
    ·
      exact o2_creeps C hX hW9 hX9 hbl hL2 hi hO hL hK hI hB hk9 hn9 e1 r1 e2 r2 e3 r3 hw hp kk
  ·
    exact o1_creeps C hX hW9 hX9 hbl hL2 hi hO hL hK hI hB hk9 hn9 e1 r1 e2 r2 e3 r3 hw kk

set_option maxHeartbeats 4000000 in
set_option maxRecDepth 100000 in
theorem op_told {p : Program} {l : Launch} {e : Env} {s : State} {m : MethodId} {args : Array Value} {below : List Frame} {meth : Method} {c : Code} {Q : State → Prop} {D : va_G} {cI cJ : ClassId} (C : Zc p s m args meth c (Av s) D [(cI, .int), (cJ, .long)] 9 cL_law RL wsL_law (some .boolean)) (hX : ZX l s (Av s)) (hW9 : WX s) {b L : Nat} {xs : Nat → Int32} (hX9 : va_X b L xs s s.heap) (hbl : b < s.heap.size) (hL2 : L ≤ 2048) {h g : Nat → Nat} {a3 i : Nat} (hi : i + 4 ≤ L) {o : Nat → Int64} {σ : YS} {LT : Nat → Int} {γ : YS} {φ : Nat → Int} {LI BR : Nat → Int} {γ2 : YS} {φ2 : Nat → Int} {θ : Int} (hO : Ok σ) (hL : LR LT) (hK : LOk σ LT) (hI : LI4 LI) (hB : BR9 BR) {k n : Nat} (hk9 : k + 1 ≤ room_1.cells) (hn9 : n + 6 ≤ room_1.slots) {x : Int} (e1 : (xs ((i : Int) + 1).toNat).toInt = x) (r1 : rng x) {y : Int} (e2 : (xs ((i : Int) + 2).toNat).toInt = y) (r2 : rng y) {wh : Int} (e3 : (xs ((i : Int) + 3).toNat).toInt = wh) (r3 : rng wh) (kk : KK p l e s m args below meth c Q D cI cJ b h g a3 i (k + 1) (n + 6)) : Zs p l e room_1 s m args below meth c Q (Av s) D 9 584 (lwL b h g a3 i) [] (lwW cI cJ h g a3 o σ LT γ φ LI BR γ2 φ2 θ) k n := by
  by_cases hp : ((0 ≤ x ∧ x < 12) ∧ 0 ≤ y ∧ y < 12)
  ·
    by_cases hq : 0 ≤ wh ∧ wh < 5
    ·
      exact o0_told C hX hW9 hX9 hbl hL2 hi hO hL hK hI hB hk9 hn9 e1 r1 e2 r2 e3 r3 hp.1 hp.2 hq kk
    ·
      exact o2_told C hX hW9 hX9 hbl hL2 hi hO hL hK hI hB hk9 hn9 e1 r1 e2 r2 e3 r3 hp hq kk
  ·
    exact o1_told C hX hW9 hX9 hbl hL2 hi hO hL hK hI hB hk9 hn9 e1 r1 e2 r2 e3 r3 hp kk

set_option maxHeartbeats 4000000 in
set_option maxRecDepth 100000 in
theorem op_about {p : Program} {l : Launch} {e : Env} {s : State} {m : MethodId} {args : Array Value} {below : List Frame} {meth : Method} {c : Code} {Q : State → Prop} {D : va_G} {cI cJ : ClassId} (C : Zc p s m args meth c (Av s) D [(cI, .int), (cJ, .long)] 9 cL_law RL wsL_law (some .boolean)) (hX : ZX l s (Av s)) (hW9 : WX s) {b L : Nat} {xs : Nat → Int32} (hX9 : va_X b L xs s s.heap) (hbl : b < s.heap.size) (hL2 : L ≤ 2048) {h g : Nat → Nat} {a3 i : Nat} (hi : i + 4 ≤ L) {o : Nat → Int64} {σ : YS} {LT : Nat → Int} {γ : YS} {φ : Nat → Int} {LI BR : Nat → Int} {γ2 : YS} {φ2 : Nat → Int} {θ : Int} (hO : Ok σ) (hL : LR LT) (hK : LOk σ LT) (hI : LI4 LI) (hB : BR9 BR) {k n : Nat} (hk9 : k + 1 ≤ room_1.cells) (hn9 : n + 6 ≤ room_1.slots) {kl : Int} (e1 : (xs ((i : Int) + 1).toNat).toInt = kl) (r1 : rng kl) {wh : Int} (e2 : (xs ((i : Int) + 2).toNat).toInt = wh) (r2 : rng wh) (kk : KK p l e s m args below meth c Q D cI cJ b h g a3 i (k + 1) (n + 6)) : Zs p l e room_1 s m args below meth c Q (Av s) D 9 664 (lwL b h g a3 i) [] (lwW cI cJ h g a3 o σ LT γ φ LI BR γ2 φ2 θ) k n := by
  by_cases ha : 0 ≤ kl ∧ kl < σ 4 0
  ·
    by_cases hc : 0 ≤ wh ∧ wh < 4
    ·
      exact o0_about C hX hW9 hX9 hbl hL2 hi hO hL hK hI hB hk9 hn9 e1 r1 e2 r2 ha hc kk
    ·
      exact o2_about C hX hW9 hX9 hbl hL2 hi hO hL hK hI hB hk9 hn9 e1 r1 e2 r2 ha hc kk
  ·
    exact o1_about C hX hW9 hX9 hbl hL2 hi hO hL hK hI hB hk9 hn9 e1 r1 e2 r2 ha kk

set_option maxHeartbeats 4000000 in
set_option maxRecDepth 100000 in
theorem op_seat {p : Program} {l : Launch} {e : Env} {s : State} {m : MethodId} {args : Array Value} {below : List Frame} {meth : Method} {c : Code} {Q : State → Prop} {D : va_G} {cI cJ : ClassId} (C : Zc p s m args meth c (Av s) D [(cI, .int), (cJ, .long)] 9 cL_law RL wsL_law (some .boolean)) (hX : ZX l s (Av s)) (hW9 : WX s) {b L : Nat} {xs : Nat → Int32} (hX9 : va_X b L xs s s.heap) (hbl : b < s.heap.size) (hL2 : L ≤ 2048) {h g : Nat → Nat} {a3 i : Nat} (hi : i + 4 ≤ L) {o : Nat → Int64} {σ : YS} {LT : Nat → Int} {γ : YS} {φ : Nat → Int} {LI BR : Nat → Int} {γ2 : YS} {φ2 : Nat → Int} {θ : Int} (hO : Ok σ) (hL : LR LT) (hK : LOk σ LT) (hI : LI4 LI) (hB : BR9 BR) {k n : Nat} (hk9 : k + 1 ≤ room_1.cells) (hn9 : n + 6 ≤ room_1.slots) {w : Int} (e1 : (xs ((i : Int) + 1).toNat).toInt = w) (r1 : rng w) {wh : Int} (e2 : (xs ((i : Int) + 2).toNat).toInt = wh) (r2 : rng wh) (kk : KK p l e s m args below meth c Q D cI cJ b h g a3 i (k + 1) (n + 6)) : Zs p l e room_1 s m args below meth c Q (Av s) D 9 732 (lwL b h g a3 i) [] (lwW cI cJ h g a3 o σ LT γ φ LI BR γ2 φ2 θ) k n := by
  by_cases ha : 0 ≤ w ∧ w < σ 4 1
  ·
    by_cases hc : 0 ≤ wh ∧ wh < 5
    ·
      exact o0_seat C hX hW9 hX9 hbl hL2 hi hO hL hK hI hB hk9 hn9 e1 r1 e2 r2 ha hc kk
    ·
      exact o2_seat C hX hW9 hX9 hbl hL2 hi hO hL hK hI hB hk9 hn9 e1 r1 e2 r2 ha hc kk
  ·
    exact o1_seat C hX hW9 hX9 hbl hL2 hi hO hL hK hI hB hk9 hn9 e1 r1 e2 r2 ha kk

set_option maxHeartbeats 4000000 in
set_option maxRecDepth 100000 in
theorem op_sees {p : Program} {l : Launch} {e : Env} {s : State} {m : MethodId} {args : Array Value} {below : List Frame} {meth : Method} {c : Code} {Q : State → Prop} {D : va_G} {cI cJ : ClassId} (C : Zc p s m args meth c (Av s) D [(cI, .int), (cJ, .long)] 9 cL_law RL wsL_law (some .boolean)) (hX : ZX l s (Av s)) (hW9 : WX s) {b L : Nat} {xs : Nat → Int32} (hX9 : va_X b L xs s s.heap) (hbl : b < s.heap.size) (hL2 : L ≤ 2048) {h g : Nat → Nat} {a3 i : Nat} (hi : i + 4 ≤ L) {o : Nat → Int64} {σ : YS} {LT : Nat → Int} {γ : YS} {φ : Nat → Int} {LI BR : Nat → Int} {γ2 : YS} {φ2 : Nat → Int} {θ : Int} (hO : Ok σ) (hL : LR LT) (hK : LOk σ LT) (hI : LI4 LI) (hB : BR9 BR) {k n : Nat} (hk9 : k + 1 ≤ room_1.cells) (hn9 : n + 6 ≤ room_1.slots) {w : Int} (e1 : (xs ((i : Int) + 1).toNat).toInt = w) (r1 : rng w) {ow : Int} (e2 : (xs ((i : Int) + 2).toNat).toInt = ow) (r2 : rng ow) (kk : KK p l e s m args below meth c Q D cI cJ b h g a3 i (k + 1) (n + 6)) : Zs p l e room_1 s m args below meth c Q (Av s) D 9 800 (lwL b h g a3 i) [] (lwW cI cJ h g a3 o σ LT γ φ LI BR γ2 φ2 θ) k n := by
  by_cases ha : 0 ≤ w ∧ w < σ 4 1
  ·
    by_cases hc : 0 ≤ ow ∧ ow < σ 4 1
    ·
      exact o0_sees C hX hW9 hX9 hbl hL2 hi hO hL hK hI hB hk9 hn9 e1 r1 e2 r2 ha hc kk
    ·
      exact o2_sees C hX hW9 hX9 hbl hL2 hi hO hL hK hI hB hk9 hn9 e1 r1 e2 r2 ha hc kk
  ·
    exact o1_sees C hX hW9 hX9 hbl hL2 hi hO hL hK hI hB hk9 hn9 e1 r1 e2 r2 ha kk

set_option maxHeartbeats 4000000 in
set_option maxRecDepth 100000 in
theorem op_count {p : Program} {l : Launch} {e : Env} {s : State} {m : MethodId} {args : Array Value} {below : List Frame} {meth : Method} {c : Code} {Q : State → Prop} {D : va_G} {cI cJ : ClassId} (C : Zc p s m args meth c (Av s) D [(cI, .int), (cJ, .long)] 9 cL_law RL wsL_law (some .boolean)) (hX : ZX l s (Av s)) (hW9 : WX s) {b L : Nat} {xs : Nat → Int32} (hX9 : va_X b L xs s s.heap) (hbl : b < s.heap.size) (hL2 : L ≤ 2048) {h g : Nat → Nat} {a3 i : Nat} (hi : i + 4 ≤ L) {o : Nat → Int64} {σ : YS} {LT : Nat → Int} {γ : YS} {φ : Nat → Int} {LI BR : Nat → Int} {γ2 : YS} {φ2 : Nat → Int} {θ : Int} (hO : Ok σ) (hL : LR LT) (hK : LOk σ LT) (hI : LI4 LI) (hB : BR9 BR) {k n : Nat} (hk9 : k + 1 ≤ room_1.cells) (hn9 : n + 6 ≤ room_1.slots) {wh : Int} (e1 : (xs ((i : Int) + 1).toNat).toInt = wh) (r1 : rng wh) (kk : KK p l e s m args below meth c Q D cI cJ b h g a3 i (k + 1) (n + 6)) : Zs p l e room_1 s m args below meth c Q (Av s) D 9 875 (lwL b h g a3 i) [] (lwW cI cJ h g a3 o σ LT γ φ LI BR γ2 φ2 θ) k n := by
  by_cases hw : 0 ≤ wh ∧ wh < 8
  ·
    exact o0_count C hX hW9 hX9 hbl hL2 hi hO hL hK hI hB hk9 hn9 e1 r1 hw kk
  ·
    exact o1_count C hX hW9 hX9 hbl hL2 hi hO hL hK hI hB hk9 hn9 e1 r1 hw kk

set_option maxHeartbeats 4000000 in
set_option maxRecDepth 100000 in
theorem op_far {p : Program} {l : Launch} {e : Env} {s : State} {m : MethodId} {args : Array Value} {below : List Frame} {meth : Method} {c : Code} {Q : State → Prop} {D : va_G} {cI cJ : ClassId} (C : Zc p s m args meth c (Av s) D [(cI, .int), (cJ, .long)] 9 cL_law RL wsL_law (some .boolean)) (hX : ZX l s (Av s)) (hW9 : WX s) {b L : Nat} {xs : Nat → Int32} (hX9 : va_X b L xs s s.heap) (hbl : b < s.heap.size) (hL2 : L ≤ 2048) {h g : Nat → Nat} {a3 i : Nat} (hi : i + 4 ≤ L) {o : Nat → Int64} {σ : YS} {LT : Nat → Int} {γ : YS} {φ : Nat → Int} {LI BR : Nat → Int} {γ2 : YS} {φ2 : Nat → Int} {θ : Int} (hO : Ok σ) (hL : LR LT) (hK : LOk σ LT) (hI : LI4 LI) (hB : BR9 BR) {k n : Nat} (hk9 : k + 1 ≤ room_1.cells) (hn9 : n + 6 ≤ room_1.slots) {fc : Int} (e1 : (xs ((i : Int) + 1).toNat).toInt = fc) (r1 : rng fc) {tc : Int} (e2 : (xs ((i : Int) + 2).toNat).toInt = tc) (r2 : rng tc) (kk : KK p l e s m args below meth c Q D cI cJ b h g a3 i (k + 1) (n + 6)) : Zs p l e room_1 s m args below meth c Q (Av s) D 9 931 (lwL b h g a3 i) [] (lwW cI cJ h g a3 o σ LT γ φ LI BR γ2 φ2 θ) k n := by
  by_cases ha : 0 ≤ fc ∧ fc < 144
  ·
    by_cases hc : 0 ≤ tc ∧ tc < 144
    ·
      exact o0_far C hX hW9 hX9 hbl hL2 hi hO hL hK hI hB hk9 hn9 e1 r1 e2 r2 ha hc kk
    ·
      exact o2_far C hX hW9 hX9 hbl hL2 hi hO hL hK hI hB hk9 hn9 e1 r1 e2 r2 ha hc kk
  ·
    exact o1_far C hX hW9 hX9 hbl hL2 hi hO hL hK hI hB hk9 hn9 e1 r1 e2 r2 ha kk

set_option maxHeartbeats 4000000 in
set_option maxRecDepth 100000 in
theorem op_stops {p : Program} {l : Launch} {e : Env} {s : State} {m : MethodId} {args : Array Value} {below : List Frame} {meth : Method} {c : Code} {Q : State → Prop} {D : va_G} {cI cJ : ClassId} (C : Zc p s m args meth c (Av s) D [(cI, .int), (cJ, .long)] 9 cL_law RL wsL_law (some .boolean)) (hX : ZX l s (Av s)) (hW9 : WX s) {b L : Nat} {xs : Nat → Int32} (hX9 : va_X b L xs s s.heap) (hbl : b < s.heap.size) (hL2 : L ≤ 2048) {h g : Nat → Nat} {a3 i : Nat} (hi : i + 4 ≤ L) {o : Nat → Int64} {σ : YS} {LT : Nat → Int} {γ : YS} {φ : Nat → Int} {LI BR : Nat → Int} {γ2 : YS} {φ2 : Nat → Int} {θ : Int} (hO : Ok σ) (hL : LR LT) (hK : LOk σ LT) (hI : LI4 LI) (hB : BR9 BR) {k n : Nat} (hk9 : k + 1 ≤ room_1.cells) (hn9 : n + 6 ≤ room_1.slots) {fc : Int} (e1 : (xs ((i : Int) + 1).toNat).toInt = fc) (r1 : rng fc) {tc : Int} (e2 : (xs ((i : Int) + 2).toNat).toInt = tc) (r2 : rng tc) (kk : KK p l e s m args below meth c Q D cI cJ b h g a3 i (k + 1) (n + 6)) : Zs p l e room_1 s m args below meth c Q (Av s) D 9 999 (lwL b h g a3 i) [] (lwW cI cJ h g a3 o σ LT γ φ LI BR γ2 φ2 θ) k n := by
  by_cases ha : 0 ≤ fc ∧ fc < 144
  ·
    by_cases hc : 0 ≤ tc ∧ tc < 144
    ·
      exact o0_stops C hX hW9 hX9 hbl hL2 hi hO hL hK hI hB hk9 hn9 e1 r1 e2 r2 ha hc kk
    ·
      exact o2_stops C hX hW9 hX9 hbl hL2 hi hO hL hK hI hB hk9 hn9 e1 r1 e2 r2 ha hc kk
  ·
    exact o1_stops C hX hW9 hX9 hbl hL2 hi hO hL hK hI hB hk9 hn9 e1 r1 e2 r2 ha kk

set_option maxHeartbeats 4000000 in
set_option maxRecDepth 100000 in
theorem op_advise {p : Program} {l : Launch} {e : Env} {s : State} {m : MethodId} {args : Array Value} {below : List Frame} {meth : Method} {c : Code} {Q : State → Prop} {D : va_G} {cI cJ : ClassId} (C : Zc p s m args meth c (Av s) D [(cI, .int), (cJ, .long)] 9 cL_law RL wsL_law (some .boolean)) (hX : ZX l s (Av s)) (hW9 : WX s) {b L : Nat} {xs : Nat → Int32} (hX9 : va_X b L xs s s.heap) (hbl : b < s.heap.size) (hL2 : L ≤ 2048) {h g : Nat → Nat} {a3 i : Nat} (hi : i + 4 ≤ L) {o : Nat → Int64} {σ : YS} {LT : Nat → Int} {γ : YS} {φ : Nat → Int} {LI BR : Nat → Int} {γ2 : YS} {φ2 : Nat → Int} {θ : Int} (hO : Ok σ) (hL : LR LT) (hK : LOk σ LT) (hI : LI4 LI) (hB : BR9 BR) {k n : Nat} (hk9 : k + 1 ≤ room_1.cells) (hn9 : n + 6 ≤ room_1.slots) {kl : Int} (e1 : (xs ((i : Int) + 1).toNat).toInt = kl) (r1 : rng kl) (kk : KK p l e s m args below meth c Q D cI cJ b h g a3 i (k + 1) (n + 6)) : Zs p l e room_1 s m args below meth c Q (Av s) D 9 1227 (lwL b h g a3 i) [] (lwW cI cJ h g a3 o σ LT γ φ LI BR γ2 φ2 θ) k n := by
  by_cases hk : 0 ≤ kl ∧ kl < σ 4 0
  ·
    exact o0_advise C hX hW9 hX9 hbl hL2 hi hO hL hK hI hB hk9 hn9 e1 r1 hk kk
  ·
    exact o1_advise C hX hW9 hX9 hbl hL2 hi hO hL hK hI hB hk9 hn9 e1 r1 hk kk
