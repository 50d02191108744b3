/-! the passes of the law's loop: each call of the class and of the reference -/
abbrev lwW (cI cJ : ClassId) (h g : Nat → Nat) (a3 : Nat) (o : Nat → Int64) (σ : YS) (LT : Nat → Int) (γ : YS) (φ : Nat → Int) (LI BR : Nat → Int) (γ2 : YS) (φ2 : Nat → Int) (θ : Int) : va_W := (a3, lo cJ o) :: (cw cI h σ LT γ φ ++ mx cI g σ LI BR γ2 φ2 θ)
abbrev lwL (b : Nat) (h g : Nat → Nat) (a3 i : Nat) : List (Nat × Value) := [(0, .ref b), (1, .ref (h 0)), (2, .ref (g 0)), (3, .ref a3), (4, vI (i : Int))]
abbrev KK (p : Program) (l : Launch) (e : Env) (s : State) (m : MethodId) (args : Array Value) (below : List Frame) (meth : Method) (c : Code) (Q : State → Prop) (D : va_G) (cI cJ : ClassId) (b : Nat) (h g : Nat → Nat) (a3 i k n : Nat) : Prop :=
  ∀ (o : Nat → Int64) (σ : YS) (LT : Nat → Int) (γ : YS) (φ : Nat → Int) (LI BR : Nat → Int) (γ2 : YS) (φ2 : Nat → Int) (θ : Int), Ok σ → LR LT → LOk σ LT → LI4 LI → BR9 BR → Zs p l e room_1 s m args below meth c Q (Av s) D 9 1351 (lwL b h g a3 i) [] (lwW cI cJ h g a3 o σ LT γ φ LI BR γ2 φ2 θ) k n
theorem z_callVl {p : Program} {l : Launch} {e : Env} {R : Room} {s : State} {m : MethodId} {args : Array Value} {below : List Frame} {meth : Method} {c : Code} {Q : State → Prop} {A : Nat → Prop} {D : va_G} {tys : List (ClassId × FieldType)} {nL : Nat} {cc : ByteArray} {own : String} {Ts : List Cond} {rt : Option FieldType} {pc : Nat} {lv : List (Nat × Value)} {st : List Value} {ws : va_W} {k n : Nat} (C : Zc p s m args meth c A D tys nL cc own Ts rt) {y : MethodName} {w : List Cond} {rm : Room} {As : List Value} {wc wr : va_W} {stk : List Value} {index maxL nn : Nat} {bytes : ByteArray} {ret : Option FieldType} {Qo : Int64 → va_W → Prop} (isC isR : List Nat) {k' n' : Nat} {b : Nat} {Cn : String} {ci : Nat} {T : u_T} {N : Nat} {fs : List Value} (q0 : Nat) (hM : Cl l y w rm D tys (.ref b :: As) wc Qo) (cw : CallW R s args own Cn index y bytes maxL ret w rm rm.cells rm.slots nn) (hnC : va_nd isC = true) (hC : isC.map (fun i => ws[i]?) = wc.map some) (hC' : isC.filterMap (fun i => ws[i]?) = wc) (hnR : va_nd isR = true) (hR : isR.map (fun i => ws[i]?) = wr.map some) (hdis : ∀ i ∈ isR, i ∉ isC) (he : ws[q0]? = some (b, .inr (ci, fs))) (hc : vwCl[ci]? = some (Cn, T, N)) (hst : stk = As.reverse ++ .ref b :: st) (hn : As.length = nn) (hcat : (st.map fun v => v.category).sum ≤ 8) (hk' : k + rm.cells = k') (hn' : n + rm.slots = n') (hfit : k' ≤ R.cells ∧ n' ≤ R.slots) (hd : decode cc pc = .ok (.invokevirtual index, 3)) (kk : ∀ (z : Int64) (u : va_W), Qo z u → Zs p l e R s m args below meth c Q A D nL (pc + 3) lv (.long z :: st) (wr ++ u) k' n') : Zs p l e R s m args below meth c Q A D nL pc lv stk ws k n := by
  intro H locs ls hP hD hS hl
  subst hst
  subst hk'
  subst hn'
  have hFc := va_free (wc := wc) hD hS C.2.2.1 isC hC
  refine va_calll (va_runV (As := As) (rest := st) ⟨C.1.1, C.1.2.1, C.1.2.2.1, C.1.2.2.2⟩ (hM H.size) cw ⟨cPc_blind, va_recv C.2.1 hP hc he, cPc_at C hP hD hnC hC hC'⟩ rfl hn hl.1 rfl (lv_room hcat) hd hfit) hS (fun q _ h => hFc q h) hFc ?_
  rintro r u t H1 locs1 ht hvm hz ⟨hP1, hK1, hD1⟩ hz1 hk1 hS1
  rw [ht] at hP1
  obtain ⟨hP2, hD2⟩ := va_join (wr := wr) (w1 := u) hP hD isC isR hC hR hnR hdis hk1 hFc hP1 hD1
  exact kk r u hz H1 locs1 ls hP2 hD2 hS1 hl
theorem lt_la {σ : YS} (hO : Ok σ) {k : Int} (hk : 0 ≤ k ∧ k < σ 4 0) : k.toNat < nLa σ := by have := nLa_e hO; omega
theorem lt_wa {σ : YS} (hO : Ok σ) {k : Int} (hk : 0 ≤ k ∧ k < σ 4 1) : k.toNat < nWa σ := by have := nWa_e hO; omega
theorem st_w {σ : YS} (hO : Ok σ) {k : Int} (hk : 0 ≤ k ∧ k < σ 4 1) : (σ 3 k.toNat).toNat < 144 := by have := hO.2.2.2.1 k.toNat (by omega); omega
theorem LOk_lamp {σ : YS} {LT : Nat → Int} {c r : Int} (hO : Ok σ) (hL : LR LT) (hK : LOk σ LT) (h4 : σ 4 0 < 4) : LOk (sU (sU (sU σ 1 (σ 4 0).toNat c) 2 (σ 4 0).toNat r) 4 0 (σ 4 0 + 1)) (shL (sU (sU (sU σ 1 (σ 4 0).toNat c) 2 (σ 4 0).toNat r) 4 0 (σ 4 0 + 1)) LT (σ 4 0).toNat 144) := by
  have h0 := hO.1
  have e : nLa (sU (sU (sU σ 1 (σ 4 0).toNat c) 2 (σ 4 0).toNat r) 4 0 (σ 4 0 + 1)) = (σ 4 0 + 1).toNat := rfl
  have e2 : nLa σ = (σ 4 0).toNat := rfl
  exact LOk_one hL hK (by omega) rfl (fun j hj => ⟨if_neg hj, if_neg hj⟩) (fun j hj => by rw [e, e2]; omega) (by rw [e]; omega)
theorem LOk_carry {σ : YS} {LT : Nat → Int} {k c : Int} (hO : Ok σ) (hL : LR LT) (hK : LOk σ LT) (hk : 0 ≤ k ∧ k < σ 4 0) : LOk (sU σ 1 k.toNat c) (shL (sU σ 1 k.toNat c) LT k.toNat 144) :=
  LOk_one hL hK (by have := hO.1; omega) rfl (fun j hj => ⟨if_neg hj, rfl⟩) (fun j hj => Iff.rfl) (lt_la hO hk)
theorem LOk_turn {σ : YS} {LT : Nat → Int} {k r : Int} (hO : Ok σ) (hL : LR LT) (hK : LOk σ LT) (hk : 0 ≤ k ∧ k < σ 4 0) : LOk (sU σ 2 k.toNat r) (shL (sU σ 2 k.toNat r) LT k.toNat 144) :=
  LOk_one hL hK (by have := hO.1; omega) rfl (fun j hj => ⟨rfl, if_neg hj⟩) (fun j hj => Iff.rfl) (lt_la hO hk)

set_option maxHeartbeats 4000000 in
set_option maxRecDepth 100000 in
theorem o0_set {p : Program} {l : Launch} {e : Env} {s : State} {m : MethodId} {args : Array Value} {below : List Frame} {meth : Method} {c : Code} {Q : State → Prop} {D : va_G} {cI cJ : ClassId} (C : Zc p s m args meth c (Av s) D [(cI, .int), (cJ, .long)] 9 cL_law RL wsL_law (some .boolean)) (hX : ZX l s (Av s)) (hW9 : WX s) {b L : Nat} {xs : Nat → Int32} (hX9 : va_X b L xs s s.heap) (hbl : b < s.heap.size) (hL2 : L ≤ 2048) {h g : Nat → Nat} {a3 i : Nat} (hi : i + 4 ≤ L) {o : Nat → Int64} {σ : YS} {LT : Nat → Int} {γ : YS} {φ : Nat → Int} {LI BR : Nat → Int} {γ2 : YS} {φ2 : Nat → Int} {θ : Int} (hO : Ok σ) (hL : LR LT) (hK : LOk σ LT) (hI : LI4 LI) (hB : BR9 BR) {k n : Nat} (hk9 : k + 1 ≤ room_1.cells) (hn9 : n + 6 ≤ room_1.slots) {x : Int} (e1 : (xs ((i : Int) + 1).toNat).toInt = x) (r1 : rng x) {y : Int} (e2 : (xs ((i : Int) + 2).toNat).toInt = y) (r2 : rng y) {kd : Int} (e3 : (xs ((i : Int) + 3).toNat).toInt = kd) (r3 : rng kd) (hx : 0 ≤ x ∧ x < 12) (hy : 0 ≤ y ∧ y < 12) (hk : 0 ≤ kd ∧ kd < 4) (kk : KK p l e s m args below meth c Q D cI cJ b h g a3 i (k + 1) (n + 6)) : Zs p l e room_1 s m args below meth c Q (Av s) D 9 128 (lwL b h g a3 i) [] (lwW cI cJ h g a3 o σ LT γ φ LI BR γ2 φ2 θ) k n := by
  refine z_aload_n C 1 dL_law_128 rfl ?_
  refine z_aload_n C 0 dL_law_129 rfl ?_
  refine z_iload C 4 dL_law_130 rfl ?_
  refine z_iconst C dL_law_132 ?_
  refine z_iadd C dL_law_133 ?_
  refine z_sldv C hX9 hbl (Nat.not_le.mpr hbl) hL2 (by omega) e1 dL_law_134 ?_
  refine z_aload_n C 0 dL_law_135 rfl ?_
  refine z_iload C 4 dL_law_136 rfl ?_
  refine z_iconst C dL_law_138 ?_
  refine z_iadd C dL_law_139 ?_
  refine z_sldv C hX9 hbl (Nat.not_le.mpr hbl) hL2 (by omega) e2 dL_law_140 ?_
  refine z_aload_n C 0 dL_law_141 rfl ?_
  refine z_iload C 4 dL_law_142 rfl ?_
  refine z_iconst C dL_law_144 ?_
  refine z_iadd C dL_law_145 ?_
  refine z_sldv C hX9 hbl (Nat.not_le.mpr hbl) hL2 (by omega) e3 dL_law_146 ?_
  refine z_aload_n C 3 dL_law_147 rfl ?_
  refine z_callW C hX hW9 (As := [.ref (h 0), vI x, vI y, vI kd, .ref a3]) (st := []) (y := yL_set) (w := wsL_set) (rm := rmL_set) (wr := mx cI g σ LI BR γ2 φ2 θ) (k' := k) (n' := n) [0, 1, 2, 3, 4, 5, 6, 7, 8, 9] [10, 11, 12, 13, 14, 15, 16, 17, 18] (w_L_set l D cI cJ h σ LT γ φ x y kd hx hy hk hO hL a3 o) (vx_cwSW 5 C.1.2.2.2.2 gL_law_L_set rfl rfl rfl (by decide +kernel) ⟨Nat.le_of_ble_eq_true rfl, Nat.le_of_ble_eq_true rfl⟩) rfl rfl rfl rfl rfl (by decide) rfl rfl (Nat.le_of_ble_eq_true rfl) rfl rfl ⟨Nat.le_trans (Nat.le_add_right _ _) hk9, Nat.le_trans (Nat.le_add_right _ _) hn9⟩ dL_law_148 ?_
  rintro z5 _ ⟨f', φ', rfl, rfl, hf⟩
  refine z_wsub (ws' := ((a3, lo cJ f') :: (cw cI h (sU σ 0 (12 * y + x).toNat kd) (shA (sU σ 0 (12 * y + x).toNat kd) LT (nLa (sU σ 0 (12 * y + x).toNat kd))) γ φ' ++ mx cI g σ LI BR γ2 φ2 θ))) [9, 10, 11, 12, 13, 14, 15, 16, 17, 18, 0, 1, 2, 3, 4, 5, 6, 7, 8] rfl rfl rfl ?_
  refine z_istore C [(5, vI 0), (0, .ref b), (1, .ref (h 0)), (2, .ref (g 0)), (3, .ref a3), (4, vI (i : Int))] dL_law_151 (by decide) rfl ?_
  refine z_aload_n C 3 dL_law_153 rfl ?_
  refine z_aload_n C 1 dL_law_154 rfl ?_
  refine z_iload C 5 dL_law_155 rfl ?_
  refine z_iconst C dL_law_157 ?_
  refine z_iadd C dL_law_158 ?_
  refine z_sldv C hX9 hbl (Nat.not_le.mpr hbl) hL2 (by omega) e1 dL_law_159 ?_
  refine z_aload_n C 1 dL_law_160 rfl ?_
  refine z_iload C 5 dL_law_161 rfl ?_
  refine z_iconst C dL_law_163 ?_
  refine z_iadd C dL_law_164 ?_
  refine z_sldv C hX9 hbl (Nat.not_le.mpr hbl) hL2 (by omega) e2 dL_law_165 ?_
  refine z_aload_n C 1 dL_law_166 rfl ?_
  refine z_iload C 5 dL_law_167 rfl ?_
  refine z_iconst C dL_law_169 ?_
  refine z_iadd C dL_law_170 ?_
  refine z_sldv C hX9 hbl (Nat.not_le.mpr hbl) hL2 (by omega) e3 dL_law_171 ?_
  refine z_callVi C (As := [vI x, vI y, vI kd]) (st := []) (y := yX2_set) (w := wsX2_set) (rm := rm_X2_set) (wr := ((a3, lo cJ f') :: cw cI h (sU σ 0 (12 * y + x).toNat kd) (shA (sU σ 0 (12 * y + x).toNat kd) LT (nLa (sU σ 0 (12 * y + x).toNat kd))) γ φ')) (k' := k) (n' := n) [10, 11, 12, 13, 14, 15, 16, 17, 18] [0, 1, 2, 3, 4, 5, 6, 7, 8, 9] 10 (c_X2_set l D cI cJ g σ LI BR γ2 φ2 θ x y kd hx hy hk hO hI) (cwV 3 C.1.2.2.2.2 gL_law_X2_set rfl rfl rfl (by decide +kernel) ⟨Nat.le_of_ble_eq_true rfl, Nat.le_of_ble_eq_true rfl⟩) rfl rfl rfl rfl rfl (by decide) rfl rfl rfl rfl (Nat.le_of_ble_eq_true rfl) rfl rfl ⟨Nat.le_trans (Nat.le_add_right _ _) hk9, Nat.le_trans (Nat.le_add_right _ _) hn9⟩ dL_law_172 ?_
  rintro z6 _ ⟨rfl, hz6⟩
  refine z_ws (ws' := (lwW cI cJ h g a3 f' (sU σ 0 (12 * y + x).toNat kd) (shA (sU σ 0 (12 * y + x).toNat kd) LT (nLa (sU σ 0 (12 * y + x).toNat kd))) γ φ' LI BR γ2 φ2 0)) rfl ?_
  refine z_istore C [(6, vI z6), (5, vI 0), (0, .ref b), (1, .ref (h 0)), (2, .ref (g 0)), (3, .ref a3), (4, vI (i : Int))] dL_law_175 (by decide) rfl ?_
  refine z_aload_n C 4 dL_law_177 rfl ?_
  refine z_callVi C (As := []) (st := []) (y := yX2_thrown) (w := wsX2_thrown) (rm := rm_X2_thrown) (wr := ((a3, lo cJ f') :: cw cI h (sU σ 0 (12 * y + x).toNat kd) (shA (sU σ 0 (12 * y + x).toNat kd) LT (nLa (sU σ 0 (12 * y + x).toNat kd))) γ φ')) (k' := k) (n' := n) [10, 11, 12, 13, 14, 15, 16, 17, 18] [0, 1, 2, 3, 4, 5, 6, 7, 8, 9] 10 (c_X2_thrown l D cI cJ g (sU σ 0 (12 * y + x).toNat kd) LI BR γ2 φ2 0) (cwV 0 C.1.2.2.2.2 gL_law_X2_thrown rfl rfl rfl (by decide +kernel) ⟨Nat.le_of_ble_eq_true rfl, Nat.le_of_ble_eq_true rfl⟩) rfl rfl rfl rfl rfl (by decide) rfl rfl rfl rfl (Nat.le_of_ble_eq_true rfl) rfl rfl ⟨Nat.le_trans (Nat.le_add_right _ _) hk9, Nat.le_trans (Nat.le_add_right _ _) hn9⟩ dL_law_178 ?_
  rintro z7 _ ⟨rfl, rfl⟩
  refine z_ws (ws' := (lwW cI cJ h g a3 f' (sU σ 0 (12 * y + x).toNat kd) (shA (sU σ 0 (12 * y + x).toNat kd) LT (nLa (sU σ 0 (12 * y + x).toNat kd))) γ φ' LI BR γ2 φ2 0)) rfl ?_
  refine z_iload C 1 dL_law_181 rfl ?_
  refine z_icmp_eq C (tgt := 188) dL_law_183 (by decide) (by omega) (by omega) (fun _ => ?_) (fun c9 => absurd rfl c9)
  refine z_iload C 1 dL_law_188 rfl ?_
  refine z_if_ne C (tgt := 205) dL_law_190 (by decide) (by omega) (fun c9 => absurd rfl c9) (fun _ => ?_)
  refine z_aload_n C 5 dL_law_193 rfl ?_
  refine z_iconst C dL_law_194 ?_
  refine z_lald C 0 1 rfl rfl dL_law_195 ?_
  refine z_iload C 0 dL_law_196 rfl ?_
  refine z_i2l C dL_law_198 ?_
  refine z_lcmpE C (show f' 0 = (iI z6).toInt64 from (by rw [hf, hz6])) dL_law_199 ?_
  refine z_if_eq C (tgt := 205) dL_law_200 (by decide) (by omega) (fun _ => ?_) (fun c9 => absurd rfl c9)
  refine z_goto C (tgt := 1351) dL_law_205 (by decide) ?_
  refine z_sub (lv' := lwL b h g a3 i) [2, 3, 4, 5, 6] rfl ?_
  refine z_widen (k' := k + 1) (n' := n + 6) (Nat.le_add_right _ _) (Nat.le_add_right _ _) ?_
  have hO9 : Ok (sU σ 0 (12 * y + x).toNat kd) := Ok_kind hO hk
  exact kk _ _ _ _ _ _ _ _ _ _ hO9 (LR_shA hL _ (nLa_4 hO9)) (LOk_set hO hL hK rfl) hI hB

set_option maxHeartbeats 4000000 in
set_option maxRecDepth 100000 in
theorem o1_set {p : Program} {l : Launch} {e : Env} {s : State} {m : MethodId} {args : Array Value} {below : List Frame} {meth : Method} {c : Code} {Q : State → Prop} {D : va_G} {cI cJ : ClassId} (C : Zc p s m args meth c (Av s) D [(cI, .int), (cJ, .long)] 9 cL_law RL wsL_law (some .boolean)) (hX : ZX l s (Av s)) (hW9 : WX s) {b L : Nat} {xs : Nat → Int32} (hX9 : va_X b L xs s s.heap) (hbl : b < s.heap.size) (hL2 : L ≤ 2048) {h g : Nat → Nat} {a3 i : Nat} (hi : i + 4 ≤ L) {o : Nat → Int64} {σ : YS} {LT : Nat → Int} {γ : YS} {φ : Nat → Int} {LI BR : Nat → Int} {γ2 : YS} {φ2 : Nat → Int} {θ : Int} (hO : Ok σ) (hL : LR LT) (hK : LOk σ LT) (hI : LI4 LI) (hB : BR9 BR) {k n : Nat} (hk9 : k + 1 ≤ room_1.cells) (hn9 : n + 6 ≤ room_1.slots) {x : Int} (e1 : (xs ((i : Int) + 1).toNat).toInt = x) (r1 : rng x) {y : Int} (e2 : (xs ((i : Int) + 2).toNat).toInt = y) (r2 : rng y) {kd : Int} (e3 : (xs ((i : Int) + 3).toNat).toInt = kd) (r3 : rng kd) (hb : ¬ ((0 ≤ x ∧ x < 12) ∧ 0 ≤ y ∧ y < 12)) (kk : KK p l e s m args below meth c Q D cI cJ b h g a3 i (k + 1) (n + 6)) : Zs p l e room_1 s m args below meth c Q (Av s) D 9 128 (lwL b h g a3 i) [] (lwW cI cJ h g a3 o σ LT γ φ LI BR γ2 φ2 θ) k n := by
  refine z_aload_n C 1 dL_law_128 rfl ?_
  refine z_aload_n C 0 dL_law_129 rfl ?_
  refine z_iload C 4 dL_law_130 rfl ?_
  refine z_iconst C dL_law_132 ?_
  refine z_iadd C dL_law_133 ?_
  refine z_sldv C hX9 hbl (Nat.not_le.mpr hbl) hL2 (by omega) e1 dL_law_134 ?_
  refine z_aload_n C 0 dL_law_135 rfl ?_
  refine z_iload C 4 dL_law_136 rfl ?_
  refine z_iconst C dL_law_138 ?_
  refine z_iadd C dL_law_139 ?_
  refine z_sldv C hX9 hbl (Nat.not_le.mpr hbl) hL2 (by omega) e2 dL_law_140 ?_
  refine z_aload_n C 0 dL_law_141 rfl ?_
  refine z_iload C 4 dL_law_142 rfl ?_
  refine z_iconst C dL_law_144 ?_
  refine z_iadd C dL_law_145 ?_
  refine z_sldv C hX9 hbl (Nat.not_le.mpr hbl) hL2 (by omega) e3 dL_law_146 ?_
  refine z_aload_n C 3 dL_law_147 rfl ?_
  refine z_callW C hX hW9 (As := [.ref (h 0), vI x, vI y, vI kd, .ref a3]) (st := []) (y := yL_set) (w := wsL_set) (rm := rxL_set) (wr := mx cI g σ LI BR γ2 φ2 θ) (k' := (k + 1)) (n' := (n + 6)) [0, 1, 2, 3, 4, 5, 6, 7, 8, 9] [10, 11, 12, 13, 14, 15, 16, 17, 18] (wx_L_set l D cI cJ h σ LT γ φ x y kd ⟨r1, r2, r3⟩ hb a3 o) (vx_cwSW 5 C.1.2.2.2.2 gL_law_L_set rfl rfl rfl (by decide +kernel) ⟨Nat.le_of_ble_eq_true rfl, Nat.le_of_ble_eq_true rfl⟩) rfl rfl rfl rfl rfl (by decide) rfl rfl (Nat.le_of_ble_eq_true rfl) rfl rfl ⟨hk9, hn9⟩ dL_law_148 ?_
  rintro z5 _ ⟨rfl, rfl⟩
  refine z_wsub (ws' := (lwW cI cJ h g a3 o σ LT γ φ LI BR γ2 φ2 θ)) [9, 10, 11, 12, 13, 14, 15, 16, 17, 18, 0, 1, 2, 3, 4, 5, 6, 7, 8] rfl rfl rfl ?_
  refine z_istore C [(5, vI 1), (0, .ref b), (1, .ref (h 0)), (2, .ref (g 0)), (3, .ref a3), (4, vI (i : Int))] dL_law_151 (by decide) rfl ?_
  refine z_aload_n C 3 dL_law_153 rfl ?_
  refine z_aload_n C 1 dL_law_154 rfl ?_
  refine z_iload C 5 dL_law_155 rfl ?_
  refine z_iconst C dL_law_157 ?_
  refine z_iadd C dL_law_158 ?_
  refine z_sldv C hX9 hbl (Nat.not_le.mpr hbl) hL2 (by omega) e1 dL_law_159 ?_
  refine z_aload_n C 1 dL_law_160 rfl ?_
  refine z_iload C 5 dL_law_161 rfl ?_
  refine z_iconst C dL_law_163 ?_
  refine z_iadd C dL_law_164 ?_
  refine z_sldv C hX9 hbl (Nat.not_le.mpr hbl) hL2 (by omega) e2 dL_law_165 ?_
  refine z_aload_n C 1 dL_law_166 rfl ?_
  refine z_iload C 5 dL_law_167 rfl ?_
  refine z_iconst C dL_law_169 ?_
  refine z_iadd C dL_law_170 ?_
  refine z_sldv C hX9 hbl (Nat.not_le.mpr hbl) hL2 (by omega) e3 dL_law_171 ?_
  refine z_callVi C (As := [vI x, vI y, vI kd]) (st := []) (y := yX2_set) (w := wsX2_set) (rm := rm_X2_set) (wr := ((a3, lo cJ o) :: cw cI h σ LT γ φ)) (k' := (k + 1)) (n' := (n + 6)) [10, 11, 12, 13, 14, 15, 16, 17, 18] [0, 1, 2, 3, 4, 5, 6, 7, 8, 9] 10 (b1_X2_set l D cI cJ g σ LI BR γ2 φ2 θ x y kd ⟨r1, r2, r3⟩ hO hb) (cwV 3 C.1.2.2.2.2 gL_law_X2_set rfl rfl rfl (by decide +kernel) ⟨Nat.le_of_ble_eq_true rfl, Nat.le_of_ble_eq_true rfl⟩) rfl rfl rfl rfl rfl (by decide) rfl rfl rfl rfl (Nat.le_of_ble_eq_true rfl) rfl rfl ⟨hk9, hn9⟩ dL_law_172 ?_
  rintro z6 _ ⟨rfl, hz6⟩
  refine z_ws (ws' := (lwW cI cJ h g a3 o σ LT γ φ LI BR γ2 φ2 1)) rfl ?_
  have q6 : rng z6 := by rw [hz6]; decide
  refine z_istore C [(6, vI z6), (5, vI 1), (0, .ref b), (1, .ref (h 0)), (2, .ref (g 0)), (3, .ref a3), (4, vI (i : Int))] dL_law_175 (by decide) rfl ?_
  refine z_aload_n C 4 dL_law_177 rfl ?_
  refine z_callVi C (As := []) (st := []) (y := yX2_thrown) (w := wsX2_thrown) (rm := rm_X2_thrown) (wr := ((a3, lo cJ o) :: cw cI h σ LT γ φ)) (k' := (k + 1)) (n' := (n + 6)) [10, 11, 12, 13, 14, 15, 16, 17, 18] [0, 1, 2, 3, 4, 5, 6, 7, 8, 9] 10 (c_X2_thrown l D cI cJ g σ LI BR γ2 φ2 1) (cwV 0 C.1.2.2.2.2 gL_law_X2_thrown rfl rfl rfl (by decide +kernel) ⟨Nat.le_of_ble_eq_true rfl, Nat.le_of_ble_eq_true rfl⟩) rfl rfl rfl rfl rfl (by decide) rfl rfl rfl rfl (Nat.le_of_ble_eq_true rfl) rfl rfl ⟨hk9, hn9⟩ dL_law_178 ?_
  rintro z7 _ ⟨rfl, rfl⟩
  refine z_ws (ws' := (lwW cI cJ h g a3 o σ LT γ φ LI BR γ2 φ2 1)) rfl ?_
  refine z_iload C 1 dL_law_181 rfl ?_
  refine z_icmp_eq C (tgt := 188) dL_law_183 (by decide) (by omega) (by omega) (fun _ => ?_) (fun c9 => absurd rfl c9)
  refine z_iload C 1 dL_law_188 rfl ?_
  refine z_if_ne C (tgt := 205) dL_law_190 (by decide) (by omega) (fun _ => ?_) (fun c9 => absurd c9 (by decide))
  refine z_goto C (tgt := 1351) dL_law_205 (by decide) ?_
  refine z_sub (lv' := lwL b h g a3 i) [2, 3, 4, 5, 6] rfl ?_
  exact kk _ _ _ _ _ _ _ _ _ _ hO hL hK hI hB

set_option maxHeartbeats 4000000 in
set_option maxRecDepth 100000 in
theorem o2_set {p : Program} {l : Launch} {e : Env} {s : State} {m : MethodId} {args : Array Value} {below : List Frame} {meth : Method} {c : Code} {Q : State → Prop} {D : va_G} {cI cJ : ClassId} (C : Zc p s m args meth c (Av s) D [(cI, .int), (cJ, .long)] 9 cL_law RL wsL_law (some .boolean)) (hX : ZX l s (Av s)) (hW9 : WX s) {b L : Nat} {xs : Nat → Int32} (hX9 : va_X b L xs s s.heap) (hbl : b < s.heap.size) (hL2 : L ≤ 2048) {h g : Nat → Nat} {a3 i : Nat} (hi : i + 4 ≤ L) {o : Nat → Int64} {σ : YS} {LT : Nat → Int} {γ : YS} {φ : Nat → Int} {LI BR : Nat → Int} {γ2 : YS} {φ2 : Nat → Int} {θ : Int} (hO : Ok σ) (hL : LR LT) (hK : LOk σ LT) (hI : LI4 LI) (hB : BR9 BR) {k n : Nat} (hk9 : k + 1 ≤ room_1.cells) (hn9 : n + 6 ≤ room_1.slots) {x : Int} (e1 : (xs ((i : Int) + 1).toNat).toInt = x) (r1 : rng x) {y : Int} (e2 : (xs ((i : Int) + 2).toNat).toInt = y) (r2 : rng y) {kd : Int} (e3 : (xs ((i : Int) + 3).toNat).toInt = kd) (r3 : rng kd) (hp : ((0 ≤ x ∧ x < 12) ∧ 0 ≤ y ∧ y < 12)) (hb : ¬ (0 ≤ kd ∧ kd < 4)) (kk : KK p l e s m args below meth c Q D cI cJ b h g a3 i (k + 1) (n + 6)) : Zs p l e room_1 s m args below meth c Q (Av s) D 9 128 (lwL b h g a3 i) [] (lwW cI cJ h g a3 o σ LT γ φ LI BR γ2 φ2 θ) k n := by
  refine z_aload_n C 1 dL_law_128 rfl ?_
  refine z_aload_n C 0 dL_law_129 rfl ?_
  refine z_iload C 4 dL_law_130 rfl ?_
  refine z_iconst C dL_law_132 ?_
  refine z_iadd C dL_law_133 ?_
  refine z_sldv C hX9 hbl (Nat.not_le.mpr hbl) hL2 (by omega) e1 dL_law_134 ?_
  refine z_aload_n C 0 dL_law_135 rfl ?_
  refine z_iload C 4 dL_law_136 rfl ?_
  refine z_iconst C dL_law_138 ?_
  refine z_iadd C dL_law_139 ?_
  refine z_sldv C hX9 hbl (Nat.not_le.mpr hbl) hL2 (by omega) e2 dL_law_140 ?_
  refine z_aload_n C 0 dL_law_141 rfl ?_
  refine z_iload C 4 dL_law_142 rfl ?_
  refine z_iconst C dL_law_144 ?_
  refine z_iadd C dL_law_145 ?_
  refine z_sldv C hX9 hbl (Nat.not_le.mpr hbl) hL2 (by omega) e3 dL_law_146 ?_
  refine z_aload_n C 3 dL_law_147 rfl ?_
  refine z_callW C hX hW9 (As := [.ref (h 0), vI x, vI y, vI kd, .ref a3]) (st := []) (y := yL_set) (w := wsL_set) (rm := rxL_set) (wr := mx cI g σ LI BR γ2 φ2 θ) (k' := (k + 1)) (n' := (n + 6)) [0, 1, 2, 3, 4, 5, 6, 7, 8, 9] [10, 11, 12, 13, 14, 15, 16, 17, 18] (wbx_L_set l D cI cJ h σ LT γ φ x y kd ⟨r1, r2, r3⟩ hp hb a3 o) (vx_cwSW 5 C.1.2.2.2.2 gL_law_L_set rfl rfl rfl (by decide +kernel) ⟨Nat.le_of_ble_eq_true rfl, Nat.le_of_ble_eq_true rfl⟩) rfl rfl rfl rfl rfl (by decide) rfl rfl (Nat.le_of_ble_eq_true rfl) rfl rfl ⟨hk9, hn9⟩ dL_law_148 ?_
  rintro z5 _ ⟨rfl, rfl⟩
  refine z_wsub (ws' := (lwW cI cJ h g a3 o σ LT γ φ LI BR γ2 φ2 θ)) [9, 10, 11, 12, 13, 14, 15, 16, 17, 18, 0, 1, 2, 3, 4, 5, 6, 7, 8] rfl rfl rfl ?_
  refine z_istore C [(5, vI 2), (0, .ref b), (1, .ref (h 0)), (2, .ref (g 0)), (3, .ref a3), (4, vI (i : Int))] dL_law_151 (by decide) rfl ?_
  refine z_aload_n C 3 dL_law_153 rfl ?_
  refine z_aload_n C 1 dL_law_154 rfl ?_
  refine z_iload C 5 dL_law_155 rfl ?_
  refine z_iconst C dL_law_157 ?_
  refine z_iadd C dL_law_158 ?_
  refine z_sldv C hX9 hbl (Nat.not_le.mpr hbl) hL2 (by omega) e1 dL_law_159 ?_
  refine z_aload_n C 1 dL_law_160 rfl ?_
  refine z_iload C 5 dL_law_161 rfl ?_
  refine z_iconst C dL_law_163 ?_
  refine z_iadd C dL_law_164 ?_
  refine z_sldv C hX9 hbl (Nat.not_le.mpr hbl) hL2 (by omega) e2 dL_law_165 ?_
  refine z_aload_n C 1 dL_law_166 rfl ?_
  refine z_iload C 5 dL_law_167 rfl ?_
  refine z_iconst C dL_law_169 ?_
  refine z_iadd C dL_law_170 ?_
  refine z_sldv C hX9 hbl (Nat.not_le.mpr hbl) hL2 (by omega) e3 dL_law_171 ?_
  refine z_callVi C (As := [vI x, vI y, vI kd]) (st := []) (y := yX2_set) (w := wsX2_set) (rm := rm_X2_set) (wr := ((a3, lo cJ o) :: cw cI h σ LT γ φ)) (k' := (k + 1)) (n' := (n + 6)) [10, 11, 12, 13, 14, 15, 16, 17, 18] [0, 1, 2, 3, 4, 5, 6, 7, 8, 9] 10 (b2_X2_set l D cI cJ g σ LI BR γ2 φ2 θ x y kd ⟨r1, r2, r3⟩ hO ⟨hp, hb⟩) (cwV 3 C.1.2.2.2.2 gL_law_X2_set rfl rfl rfl (by decide +kernel) ⟨Nat.le_of_ble_eq_true rfl, Nat.le_of_ble_eq_true rfl⟩) rfl rfl rfl rfl rfl (by decide) rfl rfl rfl rfl (Nat.le_of_ble_eq_true rfl) rfl rfl ⟨hk9, hn9⟩ dL_law_172 ?_
  rintro z6 _ ⟨rfl, hz6⟩
  refine z_ws (ws' := (lwW cI cJ h g a3 o σ LT γ φ LI BR γ2 φ2 2)) rfl ?_
  have q6 : rng z6 := by rw [hz6]; decide
  refine z_istore C [(6, vI z6), (5, vI 2), (0, .ref b), (1, .ref (h 0)), (2, .ref (g 0)), (3, .ref a3), (4, vI (i : Int))] dL_law_175 (by decide) rfl ?_
  refine z_aload_n C 4 dL_law_177 rfl ?_
  refine z_callVi C (As := []) (st := []) (y := yX2_thrown) (w := wsX2_thrown) (rm := rm_X2_thrown) (wr := ((a3, lo cJ o) :: cw cI h σ LT γ φ)) (k' := (k + 1)) (n' := (n + 6)) [10, 11, 12, 13, 14, 15, 16, 17, 18] [0, 1, 2, 3, 4, 5, 6, 7, 8, 9] 10 (c_X2_thrown l D cI cJ g σ LI BR γ2 φ2 2) (cwV 0 C.1.2.2.2.2 gL_law_X2_thrown rfl rfl rfl (by decide +kernel) ⟨Nat.le_of_ble_eq_true rfl, Nat.le_of_ble_eq_true rfl⟩) rfl rfl rfl rfl rfl (by decide) rfl rfl rfl rfl (Nat.le_of_ble_eq_true rfl) rfl rfl ⟨hk9, hn9⟩ dL_law_178 ?_
  rintro z7 _ ⟨rfl, rfl⟩
  refine z_ws (ws' := (lwW cI cJ h g a3 o σ LT γ φ LI BR γ2 φ2 2)) rfl ?_
  refine z_iload C 1 dL_law_181 rfl ?_
  refine z_icmp_eq C (tgt := 188) dL_law_183 (by decide) (by omega) (by omega) (fun _ => ?_) (fun c9 => absurd rfl c9)
  refine z_iload C 1 dL_law_188 rfl ?_
  refine z_if_ne C (tgt := 205) dL_law_190 (by decide) (by omega) (fun _ => ?_) (fun c9 => absurd c9 (by decide))
  refine z_goto C (tgt := 1351) dL_law_205 (by decide) ?_
  refine z_sub (lv' := lwL b h g a3 i) [2, 3, 4, 5, 6] rfl ?_
  exact kk _ _ _ _ _ _ _ _ _ _ hO hL hK hI hB

set_option maxHeartbeats 4000000 in
set_option maxRecDepth 100000 in
theorem o0_would {p : Program} {l : Launch} {e : Env} {s : State} {m : MethodId} {args : Array Value} {below : List Frame} {meth : Method} {c : Code} {Q : State → Prop} {D : va_G} {cI cJ : ClassId} (C : Zc p s m args meth c (Av s) D [(cI, .int), (cJ, .long)] 9 cL_law RL wsL_law (some .boolean)) (hX : ZX l s (Av s)) (hW9 : WX s) {b L : Nat} {xs : Nat → Int32} (hX9 : va_X b L xs s s.heap) (hbl : b < s.heap.size) (hL2 : L ≤ 2048) {h g : Nat → Nat} {a3 i : Nat} (hi : i + 4 ≤ L) {o : Nat → Int64} {σ : YS} {LT : Nat → Int} {γ : YS} {φ : Nat → Int} {LI BR : Nat → Int} {γ2 : YS} {φ2 : Nat → Int} {θ : Int} (hO : Ok σ) (hL : LR LT) (hK : LOk σ LT) (hI : LI4 LI) (hB : BR9 BR) {k n : Nat} (hk9 : k + 1 ≤ room_1.cells) (hn9 : n + 6 ≤ room_1.slots) {x : Int} (e1 : (xs ((i : Int) + 1).toNat).toInt = x) (r1 : rng x) {y : Int} (e2 : (xs ((i : Int) + 2).toNat).toInt = y) (r2 : rng y) {kd : Int} (e3 : (xs ((i : Int) + 3).toNat).toInt = kd) (r3 : rng kd) (hx : 0 ≤ x ∧ x < 12) (hy : 0 ≤ y ∧ y < 12) (hk : 0 ≤ kd ∧ kd < 4) (kk : KK p l e s m args below meth c Q D cI cJ b h g a3 i (k + 1) (n + 6)) : Zs p l e room_1 s m args below meth c Q (Av s) D 9 1147 (lwL b h g a3 i) [] (lwW cI cJ h g a3 o σ LT γ φ LI BR γ2 φ2 θ) k n := by
  refine z_aload_n C 1 dL_law_1147 rfl ?_
  refine z_aload_n C 0 dL_law_1148 rfl ?_
  refine z_iload C 4 dL_law_1149 rfl ?_
  refine z_iconst C dL_law_1151 ?_
  refine z_iadd C dL_law_1152 ?_
  refine z_sldv C hX9 hbl (Nat.not_le.mpr hbl) hL2 (by omega) e1 dL_law_1153 ?_
  refine z_aload_n C 0 dL_law_1154 rfl ?_
  refine z_iload C 4 dL_law_1155 rfl ?_
  refine z_iconst C dL_law_1157 ?_
  refine z_iadd C dL_law_1158 ?_
  refine z_sldv C hX9 hbl (Nat.not_le.mpr hbl) hL2 (by omega) e2 dL_law_1159 ?_
  refine z_aload_n C 0 dL_law_1160 rfl ?_
  refine z_iload C 4 dL_law_1161 rfl ?_
  refine z_iconst C dL_law_1163 ?_
  refine z_iadd C dL_law_1164 ?_
  refine z_sldv C hX9 hbl (Nat.not_le.mpr hbl) hL2 (by omega) e3 dL_law_1165 ?_
  refine z_aload_n C 3 dL_law_1166 rfl ?_
  refine z_callW C hX hW9 (As := [.ref (h 0), vI x, vI y, vI kd, .ref a3]) (st := []) (y := yL_would) (w := wsL_would) (rm := rmL_would) (wr := mx cI g σ LI BR γ2 φ2 θ) (k' := k) (n' := n) [0, 1, 2, 3, 4, 5, 6, 7, 8, 9] [10, 11, 12, 13, 14, 15, 16, 17, 18] (w_L_would l D cI cJ h σ LT γ φ x y kd hx hy hk hO hL a3 o) (vx_cwSW 5 C.1.2.2.2.2 gL_law_L_would rfl rfl rfl (by decide +kernel) ⟨Nat.le_of_ble_eq_true rfl, Nat.le_of_ble_eq_true rfl⟩) rfl rfl rfl rfl rfl (by decide) rfl rfl (Nat.le_of_ble_eq_true rfl) rfl rfl ⟨Nat.le_trans (Nat.le_add_right _ _) hk9, Nat.le_trans (Nat.le_add_right _ _) hn9⟩ dL_law_1167 ?_
  rintro z5 _ ⟨f', φ', rfl, rfl, hf⟩
  refine z_wsub (ws' := (lwW cI cJ h g a3 f' σ LT γ φ' LI BR γ2 φ2 θ)) [9, 10, 11, 12, 13, 14, 15, 16, 17, 18, 0, 1, 2, 3, 4, 5, 6, 7, 8] rfl rfl rfl ?_
  refine z_istore C [(5, vI 0), (0, .ref b), (1, .ref (h 0)), (2, .ref (g 0)), (3, .ref a3), (4, vI (i : Int))] dL_law_1170 (by decide) rfl ?_
  refine z_aload_n C 3 dL_law_1172 rfl ?_
  refine z_aload_n C 1 dL_law_1173 rfl ?_
  refine z_iload C 5 dL_law_1174 rfl ?_
  refine z_iconst C dL_law_1176 ?_
  refine z_iadd C dL_law_1177 ?_
  refine z_sldv C hX9 hbl (Nat.not_le.mpr hbl) hL2 (by omega) e1 dL_law_1178 ?_
  refine z_aload_n C 1 dL_law_1179 rfl ?_
  refine z_iload C 5 dL_law_1180 rfl ?_
  refine z_iconst C dL_law_1182 ?_
  refine z_iadd C dL_law_1183 ?_
  refine z_sldv C hX9 hbl (Nat.not_le.mpr hbl) hL2 (by omega) e2 dL_law_1184 ?_
  refine z_aload_n C 1 dL_law_1185 rfl ?_
  refine z_iload C 5 dL_law_1186 rfl ?_
  refine z_iconst C dL_law_1188 ?_
  refine z_iadd C dL_law_1189 ?_
  refine z_sldv C hX9 hbl (Nat.not_le.mpr hbl) hL2 (by omega) e3 dL_law_1190 ?_
  refine z_callVi C (As := [vI x, vI y, vI kd]) (st := []) (y := yX2_would) (w := wsX2_would) (rm := rm_X2_would) (wr := ((a3, lo cJ f') :: cw cI h σ LT γ φ')) (k' := k) (n' := n) [10, 11, 12, 13, 14, 15, 16, 17, 18] [0, 1, 2, 3, 4, 5, 6, 7, 8, 9] 10 (c_X2_would l D cI cJ g σ LI BR γ2 φ2 θ x y kd hx hy hk hO hI) (cwV 3 C.1.2.2.2.2 gL_law_X2_would rfl rfl rfl (by decide +kernel) ⟨Nat.le_of_ble_eq_true rfl, Nat.le_of_ble_eq_true rfl⟩) rfl rfl rfl rfl rfl (by decide) rfl rfl rfl rfl (Nat.le_of_ble_eq_true rfl) rfl rfl ⟨Nat.le_trans (Nat.le_add_right _ _) hk9, Nat.le_trans (Nat.le_add_right _ _) hn9⟩ dL_law_1191 ?_
  rintro z6 _ ⟨φ'', rfl, hz6⟩
  refine z_ws (ws' := (lwW cI cJ h g a3 f' σ LT γ φ' (lkF (lgV (sU σ 0 (12 * y + x).toNat kd)) (lkF (lgV σ) LI 144) 144) (lkF (brV (sU σ 0 (12 * y + x).toNat kd)) (lkF (brV σ) BR 144) 144) γ2 φ'' 0)) rfl ?_
  refine z_istore C [(6, vI z6), (5, vI 0), (0, .ref b), (1, .ref (h 0)), (2, .ref (g 0)), (3, .ref a3), (4, vI (i : Int))] dL_law_1194 (by decide) rfl ?_
  refine z_aload_n C 4 dL_law_1196 rfl ?_
  refine z_callVi C (As := []) (st := []) (y := yX2_thrown) (w := wsX2_thrown) (rm := rm_X2_thrown) (wr := ((a3, lo cJ f') :: cw cI h σ LT γ φ')) (k' := k) (n' := n) [10, 11, 12, 13, 14, 15, 16, 17, 18] [0, 1, 2, 3, 4, 5, 6, 7, 8, 9] 10 (c_X2_thrown l D cI cJ g σ (lkF (lgV (sU σ 0 (12 * y + x).toNat kd)) (lkF (lgV σ) LI 144) 144) (lkF (brV (sU σ 0 (12 * y + x).toNat kd)) (lkF (brV σ) BR 144) 144) γ2 φ'' 0) (cwV 0 C.1.2.2.2.2 gL_law_X2_thrown rfl rfl rfl (by decide +kernel) ⟨Nat.le_of_ble_eq_true rfl, Nat.le_of_ble_eq_true rfl⟩) rfl rfl rfl rfl rfl (by decide) rfl rfl rfl rfl (Nat.le_of_ble_eq_true rfl) rfl rfl ⟨Nat.le_trans (Nat.le_add_right _ _) hk9, Nat.le_trans (Nat.le_add_right _ _) hn9⟩ dL_law_1197 ?_
  rintro z7 _ ⟨rfl, rfl⟩
  refine z_ws (ws' := (lwW cI cJ h g a3 f' σ LT γ φ' (lkF (lgV (sU σ 0 (12 * y + x).toNat kd)) (lkF (lgV σ) LI 144) 144) (lkF (brV (sU σ 0 (12 * y + x).toNat kd)) (lkF (brV σ) BR 144) 144) γ2 φ'' 0)) rfl ?_
  refine z_iload C 1 dL_law_1200 rfl ?_
  refine z_icmp_eq C (tgt := 1207) dL_law_1202 (by decide) (by omega) (by omega) (fun _ => ?_) (fun c9 => absurd rfl c9)
  refine z_iload C 1 dL_law_1207 rfl ?_
  refine z_if_ne C (tgt := 1224) dL_law_1209 (by decide) (by omega) (fun c9 => absurd rfl c9) (fun _ => ?_)
  refine z_aload_n C 5 dL_law_1212 rfl ?_
  refine z_iconst C dL_law_1213 ?_
  refine z_lald C 0 1 rfl rfl dL_law_1214 ?_
  refine z_iload C 0 dL_law_1215 rfl ?_
  refine z_i2l C dL_law_1217 ?_
  refine z_lcmpE C (show f' 0 = (iI z6).toInt64 from (by rw [hf, hz6, wo_e hO hL hK])) dL_law_1218 ?_
  refine z_if_eq C (tgt := 1224) dL_law_1219 (by decide) (by omega) (fun _ => ?_) (fun c9 => absurd rfl c9)
  refine z_goto C (tgt := 1351) dL_law_1224 (by decide) ?_
  refine z_sub (lv' := lwL b h g a3 i) [2, 3, 4, 5, 6] rfl ?_
  refine z_widen (k' := k + 1) (n' := n + 6) (Nat.le_add_right _ _) (Nat.le_add_right _ _) ?_
  have hO9 : Ok (sU σ 0 (12 * y + x).toNat kd) := Ok_kind hO hk
  exact kk _ _ _ _ _ _ _ _ _ _ hO hL hK (lkL_r hO9 (lkL_r hO hI 144) 144) (lkB_r hO9 (lkB_r hO hB (Nat.le_refl _)) (Nat.le_refl _))

set_option maxHeartbeats 4000000 in
set_option maxRecDepth 100000 in
theorem o1_would {p : Program} {l : Launch} {e : Env} {s : State} {m : MethodId} {args : Array Value} {below : List Frame} {meth : Method} {c : Code} {Q : State → Prop} {D : va_G} {cI cJ : ClassId} (C : Zc p s m args meth c (Av s) D [(cI, .int), (cJ, .long)] 9 cL_law RL wsL_law (some .boolean)) (hX : ZX l s (Av s)) (hW9 : WX s) {b L : Nat} {xs : Nat → Int32} (hX9 : va_X b L xs s s.heap) (hbl : b < s.heap.size) (hL2 : L ≤ 2048) {h g : Nat → Nat} {a3 i : Nat} (hi : i + 4 ≤ L) {o : Nat → Int64} {σ : YS} {LT : Nat → Int} {γ : YS} {φ : Nat → Int} {LI BR : Nat → Int} {γ2 : YS} {φ2 : Nat → Int} {θ : Int} (hO : Ok σ) (hL : LR LT) (hK : LOk σ LT) (hI : LI4 LI) (hB : BR9 BR) {k n : Nat} (hk9 : k + 1 ≤ room_1.cells) (hn9 : n + 6 ≤ room_1.slots) {x : Int} (e1 : (xs ((i : Int) + 1).toNat).toInt = x) (r1 : rng x) {y : Int} (e2 : (xs ((i : Int) + 2).toNat).toInt = y) (r2 : rng y) {kd : Int} (e3 : (xs ((i : Int) + 3).toNat).toInt = kd) (r3 : rng kd) (hb : ¬ ((0 ≤ x ∧ x < 12) ∧ 0 ≤ y ∧ y < 12)) (kk : KK p l e s m args below meth c Q D cI cJ b h g a3 i (k + 1) (n + 6)) : Zs p l e room_1 s m args below meth c Q (Av s) D 9 1147 (lwL b h g a3 i) [] (lwW cI cJ h g a3 o σ LT γ φ LI BR γ2 φ2 θ) k n := by
  refine z_aload_n C 1 dL_law_1147 rfl ?_
  refine z_aload_n C 0 dL_law_1148 rfl ?_
  refine z_iload C 4 dL_law_1149 rfl ?_
  refine z_iconst C dL_law_1151 ?_
  refine z_iadd C dL_law_1152 ?_
  refine z_sldv C hX9 hbl (Nat.not_le.mpr hbl) hL2 (by omega) e1 dL_law_1153 ?_
  refine z_aload_n C 0 dL_law_1154 rfl ?_
  refine z_iload C 4 dL_law_1155 rfl ?_
  refine z_iconst C dL_law_1157 ?_
  refine z_iadd C dL_law_1158 ?_
  refine z_sldv C hX9 hbl (Nat.not_le.mpr hbl) hL2 (by omega) e2 dL_law_1159 ?_
  refine z_aload_n C 0 dL_law_1160 rfl ?_
  refine z_iload C 4 dL_law_1161 rfl ?_
  refine z_iconst C dL_law_1163 ?_
  refine z_iadd C dL_law_1164 ?_
  refine z_sldv C hX9 hbl (Nat.not_le.mpr hbl) hL2 (by omega) e3 dL_law_1165 ?_
  refine z_aload_n C 3 dL_law_1166 rfl ?_
  refine z_callW C hX hW9 (As := [.ref (h 0), vI x, vI y, vI kd, .ref a3]) (st := []) (y := yL_would) (w := wsL_would) (rm := rxL_would) (wr := mx cI g σ LI BR γ2 φ2 θ) (k' := (k + 1)) (n' := (n + 6)) [0, 1, 2, 3, 4, 5, 6, 7, 8, 9] [10, 11, 12, 13, 14, 15, 16, 17, 18] (wx_L_would l D cI cJ h σ LT γ φ x y kd ⟨r1, r2, r3⟩ hb a3 o) (vx_cwSW 5 C.1.2.2.2.2 gL_law_L_would rfl rfl rfl (by decide +kernel) ⟨Nat.le_of_ble_eq_true rfl, Nat.le_of_ble_eq_true rfl⟩) rfl rfl rfl rfl rfl (by decide) rfl rfl (Nat.le_of_ble_eq_true rfl) rfl rfl ⟨hk9, hn9⟩ dL_law_1167 ?_
  rintro z5 _ ⟨rfl, rfl⟩
  refine z_wsub (ws' := (lwW cI cJ h g a3 o σ LT γ φ LI BR γ2 φ2 θ)) [9, 10, 11, 12, 13, 14, 15, 16, 17, 18, 0, 1, 2, 3, 4, 5, 6, 7, 8] rfl rfl rfl ?_
  refine z_istore C [(5, vI 1), (0, .ref b), (1, .ref (h 0)), (2, .ref (g 0)), (3, .ref a3), (4, vI (i : Int))] dL_law_1170 (by decide) rfl ?_
  refine z_aload_n C 3 dL_law_1172 rfl ?_
  refine z_aload_n C 1 dL_law_1173 rfl ?_
  refine z_iload C 5 dL_law_1174 rfl ?_
  refine z_iconst C dL_law_1176 ?_
  refine z_iadd C dL_law_1177 ?_
  refine z_sldv C hX9 hbl (Nat.not_le.mpr hbl) hL2 (by omega) e1 dL_law_1178 ?_
  refine z_aload_n C 1 dL_law_1179 rfl ?_
  refine z_iload C 5 dL_law_1180 rfl ?_
  refine z_iconst C dL_law_1182 ?_
  refine z_iadd C dL_law_1183 ?_
  refine z_sldv C hX9 hbl (Nat.not_le.mpr hbl) hL2 (by omega) e2 dL_law_1184 ?_
  refine z_aload_n C 1 dL_law_1185 rfl ?_
  refine z_iload C 5 dL_law_1186 rfl ?_
  refine z_iconst C dL_law_1188 ?_
  refine z_iadd C dL_law_1189 ?_
  refine z_sldv C hX9 hbl (Nat.not_le.mpr hbl) hL2 (by omega) e3 dL_law_1190 ?_
  refine z_callVi C (As := [vI x, vI y, vI kd]) (st := []) (y := yX2_would) (w := wsX2_would) (rm := rm_X2_would) (wr := ((a3, lo cJ o) :: cw cI h σ LT γ φ)) (k' := (k + 1)) (n' := (n + 6)) [10, 11, 12, 13, 14, 15, 16, 17, 18] [0, 1, 2, 3, 4, 5, 6, 7, 8, 9] 10 (b1_X2_would l D cI cJ g σ LI BR γ2 φ2 θ x y kd ⟨r1, r2, r3⟩ hO hb) (cwV 3 C.1.2.2.2.2 gL_law_X2_would rfl rfl rfl (by decide +kernel) ⟨Nat.le_of_ble_eq_true rfl, Nat.le_of_ble_eq_true rfl⟩) rfl rfl rfl rfl rfl (by decide) rfl rfl rfl rfl (Nat.le_of_ble_eq_true rfl) rfl rfl ⟨hk9, hn9⟩ dL_law_1191 ?_
  rintro z6 _ ⟨rfl, hz6⟩
  refine z_ws (ws' := (lwW cI cJ h g a3 o σ LT γ φ LI BR γ2 φ2 1)) rfl ?_
  have q6 : rng z6 := by rw [hz6]; decide
  refine z_istore C [(6, vI z6), (5, vI 1), (0, .ref b), (1, .ref (h 0)), (2, .ref (g 0)), (3, .ref a3), (4, vI (i : Int))] dL_law_1194 (by decide) rfl ?_
  refine z_aload_n C 4 dL_law_1196 rfl ?_
  refine z_callVi C (As := []) (st := []) (y := yX2_thrown) (w := wsX2_thrown) (rm := rm_X2_thrown) (wr := ((a3, lo cJ o) :: cw cI h σ LT γ φ)) (k' := (k + 1)) (n' := (n + 6)) [10, 11, 12, 13, 14, 15, 16, 17, 18] [0, 1, 2, 3, 4, 5, 6, 7, 8, 9] 10 (c_X2_thrown l D cI cJ g σ LI BR γ2 φ2 1) (cwV 0 C.1.2.2.2.2 gL_law_X2_thrown rfl rfl rfl (by decide +kernel) ⟨Nat.le_of_ble_eq_true rfl, Nat.le_of_ble_eq_true rfl⟩) rfl rfl rfl rfl rfl (by decide) rfl rfl rfl rfl (Nat.le_of_ble_eq_true rfl) rfl rfl ⟨hk9, hn9⟩ dL_law_1197 ?_
  rintro z7 _ ⟨rfl, rfl⟩
  refine z_ws (ws' := (lwW cI cJ h g a3 o σ LT γ φ LI BR γ2 φ2 1)) rfl ?_
  refine z_iload C 1 dL_law_1200 rfl ?_
  refine z_icmp_eq C (tgt := 1207) dL_law_1202 (by decide) (by omega) (by omega) (fun _ => ?_) (fun c9 => absurd rfl c9)
  refine z_iload C 1 dL_law_1207 rfl ?_
  refine z_if_ne C (tgt := 1224) dL_law_1209 (by decide) (by omega) (fun _ => ?_) (fun c9 => absurd c9 (by decide))
  refine z_goto C (tgt := 1351) dL_law_1224 (by decide) ?_
  refine z_sub (lv' := lwL b h g a3 i) [2, 3, 4, 5, 6] rfl ?_
  exact kk _ _ _ _ _ _ _ _ _ _ hO hL hK hI hB

set_option maxHeartbeats 4000000 in
set_option maxRecDepth 100000 in
theorem o2_would {p : Program} {l : Launch} {e : Env} {s : State} {m : MethodId} {args : Array Value} {below : List Frame} {meth : Method} {c : Code} {Q : State → Prop} {D : va_G} {cI cJ : ClassId} (C : Zc p s m args meth c (Av s) D [(cI, .int), (cJ, .long)] 9 cL_law RL wsL_law (some .boolean)) (hX : ZX l s (Av s)) (hW9 : WX s) {b L : Nat} {xs : Nat → Int32} (hX9 : va_X b L xs s s.heap) (hbl : b < s.heap.size) (hL2 : L ≤ 2048) {h g : Nat → Nat} {a3 i : Nat} (hi : i + 4 ≤ L) {o : Nat → Int64} {σ : YS} {LT : Nat → Int} {γ : YS} {φ : Nat → Int} {LI BR : Nat → Int} {γ2 : YS} {φ2 : Nat → Int} {θ : Int} (hO : Ok σ) (hL : LR LT) (hK : LOk σ LT) (hI : LI4 LI) (hB : BR9 BR) {k n : Nat} (hk9 : k + 1 ≤ room_1.cells) (hn9 : n + 6 ≤ room_1.slots) {x : Int} (e1 : (xs ((i : Int) + 1).toNat).toInt = x) (r1 : rng x) {y : Int} (e2 : (xs ((i : Int) + 2).toNat).toInt = y) (r2 : rng y) {kd : Int} (e3 : (xs ((i : Int) + 3).toNat).toInt = kd) (r3 : rng kd) (hp : ((0 ≤ x ∧ x < 12) ∧ 0 ≤ y ∧ y < 12)) (hb : ¬ (0 ≤ kd ∧ kd < 4)) (kk : KK p l e s m args below meth c Q D cI cJ b h g a3 i (k + 1) (n + 6)) : Zs p l e room_1 s m args below meth c Q (Av s) D 9 1147 (lwL b h g a3 i) [] (lwW cI cJ h g a3 o σ LT γ φ LI BR γ2 φ2 θ) k n := by
  refine z_aload_n C 1 dL_law_1147 rfl ?_
  refine z_aload_n C 0 dL_law_1148 rfl ?_
  refine z_iload C 4 dL_law_1149 rfl ?_
  refine z_iconst C dL_law_1151 ?_
  refine z_iadd C dL_law_1152 ?_
  refine z_sldv C hX9 hbl (Nat.not_le.mpr hbl) hL2 (by omega) e1 dL_law_1153 ?_
  refine z_aload_n C 0 dL_law_1154 rfl ?_
  refine z_iload C 4 dL_law_1155 rfl ?_
  refine z_iconst C dL_law_1157 ?_
  refine z_iadd C dL_law_1158 ?_
  refine z_sldv C hX9 hbl (Nat.not_le.mpr hbl) hL2 (by omega) e2 dL_law_1159 ?_
  refine z_aload_n C 0 dL_law_1160 rfl ?_
  refine z_iload C 4 dL_law_1161 rfl ?_
  refine z_iconst C dL_law_1163 ?_
  refine z_iadd C dL_law_1164 ?_
  refine z_sldv C hX9 hbl (Nat.not_le.mpr hbl) hL2 (by omega) e3 dL_law_1165 ?_
  refine z_aload_n C 3 dL_law_1166 rfl ?_
  refine z_callW C hX hW9 (As := [.ref (h 0), vI x, vI y, vI kd, .ref a3]) (st := []) (y := yL_would) (w := wsL_would) (rm := rxL_would) (wr := mx cI g σ LI BR γ2 φ2 θ) (k' := (k + 1)) (n' := (n + 6)) [0, 1, 2, 3, 4, 5, 6, 7, 8, 9] [10, 11, 12, 13, 14, 15, 16, 17, 18] (wbx_L_would l D cI cJ h σ LT γ φ x y kd ⟨r1, r2, r3⟩ hp hb a3 o) (vx_cwSW 5 C.1.2.2.2.2 gL_law_L_would rfl rfl rfl (by decide +kernel) ⟨Nat.le_of_ble_eq_true rfl, Nat.le_of_ble_eq_true rfl⟩) rfl rfl rfl rfl rfl (by decide) rfl rfl (Nat.le_of_ble_eq_true rfl) rfl rfl ⟨hk9, hn9⟩ dL_law_1167 ?_
  rintro z5 _ ⟨rfl, rfl⟩
  refine z_wsub (ws' := (lwW cI cJ h g a3 o σ LT γ φ LI BR γ2 φ2 θ)) [9, 10, 11, 12, 13, 14, 15, 16, 17, 18, 0, 1, 2, 3, 4, 5, 6, 7, 8] rfl rfl rfl ?_
  refine z_istore C [(5, vI 2), (0, .ref b), (1, .ref (h 0)), (2, .ref (g 0)), (3, .ref a3), (4, vI (i : Int))] dL_law_1170 (by decide) rfl ?_
  refine z_aload_n C 3 dL_law_1172 rfl ?_
  refine z_aload_n C 1 dL_law_1173 rfl ?_
  refine z_iload C 5 dL_law_1174 rfl ?_
  refine z_iconst C dL_law_1176 ?_
  refine z_iadd C dL_law_1177 ?_
  refine z_sldv C hX9 hbl (Nat.not_le.mpr hbl) hL2 (by omega) e1 dL_law_1178 ?_
  refine z_aload_n C 1 dL_law_1179 rfl ?_
  refine z_iload C 5 dL_law_1180 rfl ?_
  refine z_iconst C dL_law_1182 ?_
  refine z_iadd C dL_law_1183 ?_
  refine z_sldv C hX9 hbl (Nat.not_le.mpr hbl) hL2 (by omega) e2 dL_law_1184 ?_
  refine z_aload_n C 1 dL_law_1185 rfl ?_
  refine z_iload C 5 dL_law_1186 rfl ?_
  refine z_iconst C dL_law_1188 ?_
  refine z_iadd C dL_law_1189 ?_
  refine z_sldv C hX9 hbl (Nat.not_le.mpr hbl) hL2 (by omega) e3 dL_law_1190 ?_
  refine z_callVi C (As := [vI x, vI y, vI kd]) (st := []) (y := yX2_would) (w := wsX2_would) (rm := rm_X2_would) (wr := ((a3, lo cJ o) :: cw cI h σ LT γ φ)) (k' := (k + 1)) (n' := (n + 6)) [10, 11, 12, 13, 14, 15, 16, 17, 18] [0, 1, 2, 3, 4, 5, 6, 7, 8, 9] 10 (b2_X2_would l D cI cJ g σ LI BR γ2 φ2 θ x y kd ⟨r1, r2, r3⟩ hO ⟨hp, hb⟩) (cwV 3 C.1.2.2.2.2 gL_law_X2_would rfl rfl rfl (by decide +kernel) ⟨Nat.le_of_ble_eq_true rfl, Nat.le_of_ble_eq_true rfl⟩) rfl rfl rfl rfl rfl (by decide) rfl rfl rfl rfl (Nat.le_of_ble_eq_true rfl) rfl rfl ⟨hk9, hn9⟩ dL_law_1191 ?_
  rintro z6 _ ⟨rfl, hz6⟩
  refine z_ws (ws' := (lwW cI cJ h g a3 o σ LT γ φ LI BR γ2 φ2 2)) rfl ?_
  have q6 : rng z6 := by rw [hz6]; decide
  refine z_istore C [(6, vI z6), (5, vI 2), (0, .ref b), (1, .ref (h 0)), (2, .ref (g 0)), (3, .ref a3), (4, vI (i : Int))] dL_law_1194 (by decide) rfl ?_
  refine z_aload_n C 4 dL_law_1196 rfl ?_
  refine z_callVi C (As := []) (st := []) (y := yX2_thrown) (w := wsX2_thrown) (rm := rm_X2_thrown) (wr := ((a3, lo cJ o) :: cw cI h σ LT γ φ)) (k' := (k + 1)) (n' := (n + 6)) [10, 11, 12, 13, 14, 15, 16, 17, 18] [0, 1, 2, 3, 4, 5, 6, 7, 8, 9] 10 (c_X2_thrown l D cI cJ g σ LI BR γ2 φ2 2) (cwV 0 C.1.2.2.2.2 gL_law_X2_thrown rfl rfl rfl (by decide +kernel) ⟨Nat.le_of_ble_eq_true rfl, Nat.le_of_ble_eq_true rfl⟩) rfl rfl rfl rfl rfl (by decide) rfl rfl rfl rfl (Nat.le_of_ble_eq_true rfl) rfl rfl ⟨hk9, hn9⟩ dL_law_1197 ?_
  rintro z7 _ ⟨rfl, rfl⟩
  refine z_ws (ws' := (lwW cI cJ h g a3 o σ LT γ φ LI BR γ2 φ2 2)) rfl ?_
  refine z_iload C 1 dL_law_1200 rfl ?_
  refine z_icmp_eq C (tgt := 1207) dL_law_1202 (by decide) (by omega) (by omega) (fun _ => ?_) (fun c9 => absurd rfl c9)
  refine z_iload C 1 dL_law_1207 rfl ?_
  refine z_if_ne C (tgt := 1224) dL_law_1209 (by decide) (by omega) (fun _ => ?_) (fun c9 => absurd c9 (by decide))
  refine z_goto C (tgt := 1351) dL_law_1224 (by decide) ?_
  refine z_sub (lv' := lwL b h g a3 i) [2, 3, 4, 5, 6] rfl ?_
  exact kk _ _ _ _ _ _ _ _ _ _ hO hL hK hI hB

set_option maxHeartbeats 4000000 in
set_option maxRecDepth 100000 in
theorem o0_lamp {p : Program} {l : Launch} {e : Env} {s : State} {m : MethodId} {args : Array Value} {below : List Frame} {meth : Method} {c : Code} {Q : State → Prop} {D : va_G} {cI cJ : ClassId} (C : Zc p s m args meth c (Av s) D [(cI, .int), (cJ, .long)] 9 cL_law RL wsL_law (some .boolean)) (hX : ZX l s (Av s)) (hW9 : WX s) {b L : Nat} {xs : Nat → Int32} (hX9 : va_X b L xs s s.heap) (hbl : b < s.heap.size) (hL2 : L ≤ 2048) {h g : Nat → Nat} {a3 i : Nat} (hi : i + 4 ≤ L) {o : Nat → Int64} {σ : YS} {LT : Nat → Int} {γ : YS} {φ : Nat → Int} {LI BR : Nat → Int} {γ2 : YS} {φ2 : Nat → Int} {θ : Int} (hO : Ok σ) (hL : LR LT) (hK : LOk σ LT) (hI : LI4 LI) (hB : BR9 BR) {k n : Nat} (hk9 : k + 1 ≤ room_1.cells) (hn9 : n + 6 ≤ room_1.slots) {x : Int} (e1 : (xs ((i : Int) + 1).toNat).toInt = x) (r1 : rng x) {y : Int} (e2 : (xs ((i : Int) + 2).toNat).toInt = y) (r2 : rng y) {r : Int} (e3 : (xs ((i : Int) + 3).toNat).toInt = r) (r3 : rng r) (hx : 0 ≤ x ∧ x < 12) (hy : 0 ≤ y ∧ y < 12) (hr : 1 ≤ r ∧ r < 13) (h4 : σ 4 0 < 4) (hla : lampB σ (12 * y + x) = false) (kk : KK p l e s m args below meth c Q D cI cJ b h g a3 i (k + 1) (n + 6)) : Zs p l e room_1 s m args below meth c Q (Av s) D 9 208 (lwL b h g a3 i) [] (lwW cI cJ h g a3 o σ LT γ φ LI BR γ2 φ2 θ) k n := by
  refine z_aload_n C 1 dL_law_208 rfl ?_
  refine z_aload_n C 0 dL_law_209 rfl ?_
  refine z_iload C 4 dL_law_210 rfl ?_
  refine z_iconst C dL_law_212 ?_
  refine z_iadd C dL_law_213 ?_
  refine z_sldv C hX9 hbl (Nat.not_le.mpr hbl) hL2 (by omega) e1 dL_law_214 ?_
  refine z_aload_n C 0 dL_law_215 rfl ?_
  refine z_iload C 4 dL_law_216 rfl ?_
  refine z_iconst C dL_law_218 ?_
  refine z_iadd C dL_law_219 ?_
  refine z_sldv C hX9 hbl (Nat.not_le.mpr hbl) hL2 (by omega) e2 dL_law_220 ?_
  refine z_aload_n C 0 dL_law_221 rfl ?_
  refine z_iload C 4 dL_law_222 rfl ?_
  refine z_iconst C dL_law_224 ?_
  refine z_iadd C dL_law_225 ?_
  refine z_sldv C hX9 hbl (Nat.not_le.mpr hbl) hL2 (by omega) e3 dL_law_226 ?_
  refine z_aload_n C 3 dL_law_227 rfl ?_
  refine z_callW C hX hW9 (As := [.ref (h 0), vI x, vI y, vI r, .ref a3]) (st := []) (y := yL_lamp) (w := wsL_lamp) (rm := rmL_lamp) (wr := mx cI g σ LI BR γ2 φ2 θ) (k' := k) (n' := n) [0, 1, 2, 3, 4, 5, 6, 7, 8, 9] [10, 11, 12, 13, 14, 15, 16, 17, 18] (w_L_lamp l D cI cJ h σ LT γ φ x y r hx hy hr h4 hla hO hL a3 o) (vx_cwSW 5 C.1.2.2.2.2 gL_law_L_lamp rfl rfl rfl (by decide +kernel) ⟨Nat.le_of_ble_eq_true rfl, Nat.le_of_ble_eq_true rfl⟩) rfl rfl rfl rfl rfl (by decide) rfl rfl (Nat.le_of_ble_eq_true rfl) rfl rfl ⟨Nat.le_trans (Nat.le_add_right _ _) hk9, Nat.le_trans (Nat.le_add_right _ _) hn9⟩ dL_law_228 ?_
  rintro z5 _ ⟨f', φ', rfl, rfl, hf⟩
  refine z_wsub (ws' := ((a3, lo cJ f') :: (cw cI h (sU (sU (sU σ 1 (σ 4 0).toNat (12 * y + x)) 2 (σ 4 0).toNat r) 4 0 (σ 4 0 + 1)) (shL (sU (sU (sU σ 1 (σ 4 0).toNat (12 * y + x)) 2 (σ 4 0).toNat r) 4 0 (σ 4 0 + 1)) LT (σ 4 0).toNat 144) γ φ' ++ mx cI g σ LI BR γ2 φ2 θ))) [9, 10, 11, 12, 13, 14, 15, 16, 17, 18, 0, 1, 2, 3, 4, 5, 6, 7, 8] rfl rfl rfl ?_
  refine z_istore C [(5, vI 0), (0, .ref b), (1, .ref (h 0)), (2, .ref (g 0)), (3, .ref a3), (4, vI (i : Int))] dL_law_231 (by decide) rfl ?_
  refine z_aload_n C 3 dL_law_233 rfl ?_
  refine z_aload_n C 1 dL_law_234 rfl ?_
  refine z_iload C 5 dL_law_235 rfl ?_
  refine z_iconst C dL_law_237 ?_
  refine z_iadd C dL_law_238 ?_
  refine z_sldv C hX9 hbl (Nat.not_le.mpr hbl) hL2 (by omega) e1 dL_law_239 ?_
  refine z_aload_n C 1 dL_law_240 rfl ?_
  refine z_iload C 5 dL_law_241 rfl ?_
  refine z_iconst C dL_law_243 ?_
  refine z_iadd C dL_law_244 ?_
  refine z_sldv C hX9 hbl (Nat.not_le.mpr hbl) hL2 (by omega) e2 dL_law_245 ?_
  refine z_aload_n C 1 dL_law_246 rfl ?_
  refine z_iload C 5 dL_law_247 rfl ?_
  refine z_iconst C dL_law_249 ?_
  refine z_iadd C dL_law_250 ?_
  refine z_sldv C hX9 hbl (Nat.not_le.mpr hbl) hL2 (by omega) e3 dL_law_251 ?_
  refine z_callVi C (As := [vI x, vI y, vI r]) (st := []) (y := yX2_lamp) (w := wsX2_lamp) (rm := rm_X2_lamp) (wr := ((a3, lo cJ f') :: cw cI h (sU (sU (sU σ 1 (σ 4 0).toNat (12 * y + x)) 2 (σ 4 0).toNat r) 4 0 (σ 4 0 + 1)) (shL (sU (sU (sU σ 1 (σ 4 0).toNat (12 * y + x)) 2 (σ 4 0).toNat r) 4 0 (σ 4 0 + 1)) LT (σ 4 0).toNat 144) γ φ')) (k' := k) (n' := n) [10, 11, 12, 13, 14, 15, 16, 17, 18] [0, 1, 2, 3, 4, 5, 6, 7, 8, 9] 10 (c_X2_lamp l D cI cJ g σ LI BR γ2 φ2 θ x y r hx hy hr h4 hla hO hI) (cwV 3 C.1.2.2.2.2 gL_law_X2_lamp rfl rfl rfl (by decide +kernel) ⟨Nat.le_of_ble_eq_true rfl, Nat.le_of_ble_eq_true rfl⟩) rfl rfl rfl rfl rfl (by decide) rfl rfl rfl rfl (Nat.le_of_ble_eq_true rfl) rfl rfl ⟨Nat.le_trans (Nat.le_add_right _ _) hk9, Nat.le_trans (Nat.le_add_right _ _) hn9⟩ dL_law_252 ?_
  rintro z6 _ ⟨rfl, hz6⟩
  refine z_ws (ws' := (lwW cI cJ h g a3 f' (sU (sU (sU σ 1 (σ 4 0).toNat (12 * y + x)) 2 (σ 4 0).toNat r) 4 0 (σ 4 0 + 1)) (shL (sU (sU (sU σ 1 (σ 4 0).toNat (12 * y + x)) 2 (σ 4 0).toNat r) 4 0 (σ 4 0 + 1)) LT (σ 4 0).toNat 144) γ φ' LI BR γ2 φ2 0)) rfl ?_
  refine z_istore C [(6, vI z6), (5, vI 0), (0, .ref b), (1, .ref (h 0)), (2, .ref (g 0)), (3, .ref a3), (4, vI (i : Int))] dL_law_255 (by decide) rfl ?_
  refine z_aload_n C 4 dL_law_257 rfl ?_
  refine z_callVi C (As := []) (st := []) (y := yX2_thrown) (w := wsX2_thrown) (rm := rm_X2_thrown) (wr := ((a3, lo cJ f') :: cw cI h (sU (sU (sU σ 1 (σ 4 0).toNat (12 * y + x)) 2 (σ 4 0).toNat r) 4 0 (σ 4 0 + 1)) (shL (sU (sU (sU σ 1 (σ 4 0).toNat (12 * y + x)) 2 (σ 4 0).toNat r) 4 0 (σ 4 0 + 1)) LT (σ 4 0).toNat 144) γ φ')) (k' := k) (n' := n) [10, 11, 12, 13, 14, 15, 16, 17, 18] [0, 1, 2, 3, 4, 5, 6, 7, 8, 9] 10 (c_X2_thrown l D cI cJ g (sU (sU (sU σ 1 (σ 4 0).toNat (12 * y + x)) 2 (σ 4 0).toNat r) 4 0 (σ 4 0 + 1)) LI BR γ2 φ2 0) (cwV 0 C.1.2.2.2.2 gL_law_X2_thrown rfl rfl rfl (by decide +kernel) ⟨Nat.le_of_ble_eq_true rfl, Nat.le_of_ble_eq_true rfl⟩) rfl rfl rfl rfl rfl (by decide) rfl rfl rfl rfl (Nat.le_of_ble_eq_true rfl) rfl rfl ⟨Nat.le_trans (Nat.le_add_right _ _) hk9, Nat.le_trans (Nat.le_add_right _ _) hn9⟩ dL_law_258 ?_
  rintro z7 _ ⟨rfl, rfl⟩
  refine z_ws (ws' := (lwW cI cJ h g a3 f' (sU (sU (sU σ 1 (σ 4 0).toNat (12 * y + x)) 2 (σ 4 0).toNat r) 4 0 (σ 4 0 + 1)) (shL (sU (sU (sU σ 1 (σ 4 0).toNat (12 * y + x)) 2 (σ 4 0).toNat r) 4 0 (σ 4 0 + 1)) LT (σ 4 0).toNat 144) γ φ' LI BR γ2 φ2 0)) rfl ?_
  refine z_iload C 1 dL_law_261 rfl ?_
  refine z_icmp_eq C (tgt := 268) dL_law_263 (by decide) (by omega) (by omega) (fun _ => ?_) (fun c9 => absurd rfl c9)
  refine z_iload C 1 dL_law_268 rfl ?_
  refine z_if_ne C (tgt := 285) dL_law_270 (by decide) (by omega) (fun c9 => absurd rfl c9) (fun _ => ?_)
  refine z_aload_n C 5 dL_law_273 rfl ?_
  refine z_iconst C dL_law_274 ?_
  refine z_lald C 0 1 rfl rfl dL_law_275 ?_
  refine z_iload C 0 dL_law_276 rfl ?_
  refine z_i2l C dL_law_278 ?_
  refine z_lcmpE C (show f' 0 = (iI z6).toInt64 from (by rw [hf, hz6])) dL_law_279 ?_
  refine z_if_eq C (tgt := 285) dL_law_280 (by decide) (by omega) (fun _ => ?_) (fun c9 => absurd rfl c9)
  refine z_goto C (tgt := 1351) dL_law_285 (by decide) ?_
  refine z_sub (lv' := lwL b h g a3 i) [2, 3, 4, 5, 6] rfl ?_
  refine z_widen (k' := k + 1) (n' := n + 6) (Nat.le_add_right _ _) (Nat.le_add_right _ _) ?_
  exact kk _ _ _ _ _ _ _ _ _ _ (Ok_lamp hO h4 (by omega) hr) (LR_shL (by have := hO.1; omega) hL) (LOk_lamp hO hL hK h4) hI hB

set_option maxHeartbeats 4000000 in
set_option maxRecDepth 100000 in
theorem o1_lamp {p : Program} {l : Launch} {e : Env} {s : State} {m : MethodId} {args : Array Value} {below : List Frame} {meth : Method} {c : Code} {Q : State → Prop} {D : va_G} {cI cJ : ClassId} (C : Zc p s m args meth c (Av s) D [(cI, .int), (cJ, .long)] 9 cL_law RL wsL_law (some .boolean)) (hX : ZX l s (Av s)) (hW9 : WX s) {b L : Nat} {xs : Nat → Int32} (hX9 : va_X b L xs s s.heap) (hbl : b < s.heap.size) (hL2 : L ≤ 2048) {h g : Nat → Nat} {a3 i : Nat} (hi : i + 4 ≤ L) {o : Nat → Int64} {σ : YS} {LT : Nat → Int} {γ : YS} {φ : Nat → Int} {LI BR : Nat → Int} {γ2 : YS} {φ2 : Nat → Int} {θ : Int} (hO : Ok σ) (hL : LR LT) (hK : LOk σ LT) (hI : LI4 LI) (hB : BR9 BR) {k n : Nat} (hk9 : k + 1 ≤ room_1.cells) (hn9 : n + 6 ≤ room_1.slots) {x : Int} (e1 : (xs ((i : Int) + 1).toNat).toInt = x) (r1 : rng x) {y : Int} (e2 : (xs ((i : Int) + 2).toNat).toInt = y) (r2 : rng y) {r : Int} (e3 : (xs ((i : Int) + 3).toNat).toInt = r) (r3 : rng r) (hb : ¬ ((0 ≤ x ∧ x < 12) ∧ 0 ≤ y ∧ y < 12)) (kk : KK p l e s m args below meth c Q D cI cJ b h g a3 i (k + 1) (n + 6)) : Zs p l e room_1 s m args below meth c Q (Av s) D 9 208 (lwL b h g a3 i) [] (lwW cI cJ h g a3 o σ LT γ φ LI BR γ2 φ2 θ) k n := by
  refine z_aload_n C 1 dL_law_208 rfl ?_
  refine z_aload_n C 0 dL_law_209 rfl ?_
  refine z_iload C 4 dL_law_210 rfl ?_
  refine z_iconst C dL_law_212 ?_
  refine z_iadd C dL_law_213 ?_
  refine z_sldv C hX9 hbl (Nat.not_le.mpr hbl) hL2 (by omega) e1 dL_law_214 ?_
  refine z_aload_n C 0 dL_law_215 rfl ?_
  refine z_iload C 4 dL_law_216 rfl ?_
  refine z_iconst C dL_law_218 ?_
  refine z_iadd C dL_law_219 ?_
  refine z_sldv C hX9 hbl (Nat.not_le.mpr hbl) hL2 (by omega) e2 dL_law_220 ?_
  refine z_aload_n C 0 dL_law_221 rfl ?_
  refine z_iload C 4 dL_law_222 rfl ?_
  refine z_iconst C dL_law_224 ?_
  refine z_iadd C dL_law_225 ?_
  refine z_sldv C hX9 hbl (Nat.not_le.mpr hbl) hL2 (by omega) e3 dL_law_226 ?_
  refine z_aload_n C 3 dL_law_227 rfl ?_
  refine z_callW C hX hW9 (As := [.ref (h 0), vI x, vI y, vI r, .ref a3]) (st := []) (y := yL_lamp) (w := wsL_lamp) (rm := rxL_lamp) (wr := mx cI g σ LI BR γ2 φ2 θ) (k' := (k + 1)) (n' := (n + 6)) [0, 1, 2, 3, 4, 5, 6, 7, 8, 9] [10, 11, 12, 13, 14, 15, 16, 17, 18] (wx_L_lamp l D cI cJ h σ LT γ φ x y r ⟨r1, r2, r3⟩ hb a3 o) (vx_cwSW 5 C.1.2.2.2.2 gL_law_L_lamp rfl rfl rfl (by decide +kernel) ⟨Nat.le_of_ble_eq_true rfl, Nat.le_of_ble_eq_true rfl⟩) rfl rfl rfl rfl rfl (by decide) rfl rfl (Nat.le_of_ble_eq_true rfl) rfl rfl ⟨hk9, hn9⟩ dL_law_228 ?_
  rintro z5 _ ⟨rfl, rfl⟩
  refine z_wsub (ws' := (lwW cI cJ h g a3 o σ LT γ φ LI BR γ2 φ2 θ)) [9, 10, 11, 12, 13, 14, 15, 16, 17, 18, 0, 1, 2, 3, 4, 5, 6, 7, 8] rfl rfl rfl ?_
  refine z_istore C [(5, vI 1), (0, .ref b), (1, .ref (h 0)), (2, .ref (g 0)), (3, .ref a3), (4, vI (i : Int))] dL_law_231 (by decide) rfl ?_
  refine z_aload_n C 3 dL_law_233 rfl ?_
  refine z_aload_n C 1 dL_law_234 rfl ?_
  refine z_iload C 5 dL_law_235 rfl ?_
  refine z_iconst C dL_law_237 ?_
  refine z_iadd C dL_law_238 ?_
  refine z_sldv C hX9 hbl (Nat.not_le.mpr hbl) hL2 (by omega) e1 dL_law_239 ?_
  refine z_aload_n C 1 dL_law_240 rfl ?_
  refine z_iload C 5 dL_law_241 rfl ?_
  refine z_iconst C dL_law_243 ?_
  refine z_iadd C dL_law_244 ?_
  refine z_sldv C hX9 hbl (Nat.not_le.mpr hbl) hL2 (by omega) e2 dL_law_245 ?_
  refine z_aload_n C 1 dL_law_246 rfl ?_
  refine z_iload C 5 dL_law_247 rfl ?_
  refine z_iconst C dL_law_249 ?_
  refine z_iadd C dL_law_250 ?_
  refine z_sldv C hX9 hbl (Nat.not_le.mpr hbl) hL2 (by omega) e3 dL_law_251 ?_
  refine z_callVi C (As := [vI x, vI y, vI r]) (st := []) (y := yX2_lamp) (w := wsX2_lamp) (rm := rm_X2_lamp) (wr := ((a3, lo cJ o) :: cw cI h σ LT γ φ)) (k' := (k + 1)) (n' := (n + 6)) [10, 11, 12, 13, 14, 15, 16, 17, 18] [0, 1, 2, 3, 4, 5, 6, 7, 8, 9] 10 (b1_X2_lamp l D cI cJ g σ LI BR γ2 φ2 θ x y r ⟨r1, r2, r3⟩ hO hb) (cwV 3 C.1.2.2.2.2 gL_law_X2_lamp rfl rfl rfl (by decide +kernel) ⟨Nat.le_of_ble_eq_true rfl, Nat.le_of_ble_eq_true rfl⟩) rfl rfl rfl rfl rfl (by decide) rfl rfl rfl rfl (Nat.le_of_ble_eq_true rfl) rfl rfl ⟨hk9, hn9⟩ dL_law_252 ?_
  rintro z6 _ ⟨rfl, hz6⟩
  refine z_ws (ws' := (lwW cI cJ h g a3 o σ LT γ φ LI BR γ2 φ2 1)) rfl ?_
  have q6 : rng z6 := by rw [hz6]; decide
  refine z_istore C [(6, vI z6), (5, vI 1), (0, .ref b), (1, .ref (h 0)), (2, .ref (g 0)), (3, .ref a3), (4, vI (i : Int))] dL_law_255 (by decide) rfl ?_
  refine z_aload_n C 4 dL_law_257 rfl ?_
  refine z_callVi C (As := []) (st := []) (y := yX2_thrown) (w := wsX2_thrown) (rm := rm_X2_thrown) (wr := ((a3, lo cJ o) :: cw cI h σ LT γ φ)) (k' := (k + 1)) (n' := (n + 6)) [10, 11, 12, 13, 14, 15, 16, 17, 18] [0, 1, 2, 3, 4, 5, 6, 7, 8, 9] 10 (c_X2_thrown l D cI cJ g σ LI BR γ2 φ2 1) (cwV 0 C.1.2.2.2.2 gL_law_X2_thrown rfl rfl rfl (by decide +kernel) ⟨Nat.le_of_ble_eq_true rfl, Nat.le_of_ble_eq_true rfl⟩) rfl rfl rfl rfl rfl (by decide) rfl rfl rfl rfl (Nat.le_of_ble_eq_true rfl) rfl rfl ⟨hk9, hn9⟩ dL_law_258 ?_
  rintro z7 _ ⟨rfl, rfl⟩
  refine z_ws (ws' := (lwW cI cJ h g a3 o σ LT γ φ LI BR γ2 φ2 1)) rfl ?_
  refine z_iload C 1 dL_law_261 rfl ?_
  refine z_icmp_eq C (tgt := 268) dL_law_263 (by decide) (by omega) (by omega) (fun _ => ?_) (fun c9 => absurd rfl c9)
  refine z_iload C 1 dL_law_268 rfl ?_
  refine z_if_ne C (tgt := 285) dL_law_270 (by decide) (by omega) (fun _ => ?_) (fun c9 => absurd c9 (by decide))
  refine z_goto C (tgt := 1351) dL_law_285 (by decide) ?_
  refine z_sub (lv' := lwL b h g a3 i) [2, 3, 4, 5, 6] rfl ?_
  exact kk _ _ _ _ _ _ _ _ _ _ hO hL hK hI hB

set_option maxHeartbeats 4000000 in
set_option maxRecDepth 100000 in
theorem o2_lamp {p : Program} {l : Launch} {e : Env} {s : State} {m : MethodId} {args : Array Value} {below : List Frame} {meth : Method} {c : Code} {Q : State → Prop} {D : va_G} {cI cJ : ClassId} (C : Zc p s m args meth c (Av s) D [(cI, .int), (cJ, .long)] 9 cL_law RL wsL_law (some .boolean)) (hX : ZX l s (Av s)) (hW9 : WX s) {b L : Nat} {xs : Nat → Int32} (hX9 : va_X b L xs s s.heap) (hbl : b < s.heap.size) (hL2 : L ≤ 2048) {h g : Nat → Nat} {a3 i : Nat} (hi : i + 4 ≤ L) {o : Nat → Int64} {σ : YS} {LT : Nat → Int} {γ : YS} {φ : Nat → Int} {LI BR : Nat → Int} {γ2 : YS} {φ2 : Nat → Int} {θ : Int} (hO : Ok σ) (hL : LR LT) (hK : LOk σ LT) (hI : LI4 LI) (hB : BR9 BR) {k n : Nat} (hk9 : k + 1 ≤ room_1.cells) (hn9 : n + 6 ≤ room_1.slots) {x : Int} (e1 : (xs ((i : Int) + 1).toNat).toInt = x) (r1 : rng x) {y : Int} (e2 : (xs ((i : Int) + 2).toNat).toInt = y) (r2 : rng y) {r : Int} (e3 : (xs ((i : Int) + 3).toNat).toInt = r) (r3 : rng r) (hp : ((0 ≤ x ∧ x < 12) ∧ 0 ≤ y ∧ y < 12)) (hb : ¬ (1 ≤ r ∧ r < 13)) (kk : KK p l e s m args below meth c Q D cI cJ b h g a3 i (k + 1) (n + 6)) : Zs p l e room_1 s m args below meth c Q (Av s) D 9 208 (lwL b h g a3 i) [] (lwW cI cJ h g a3 o σ LT γ φ LI BR γ2 φ2 θ) k n := by
  refine z_aload_n C 1 dL_law_208 rfl ?_
  refine z_aload_n C 0 dL_law_209 rfl ?_
  refine z_iload C 4 dL_law_210 rfl ?_
  refine z_iconst C dL_law_212 ?_
  refine z_iadd C dL_law_213 ?_
  refine z_sldv C hX9 hbl (Nat.not_le.mpr hbl) hL2 (by omega) e1 dL_law_214 ?_
  refine z_aload_n C 0 dL_law_215 rfl ?_
  refine z_iload C 4 dL_law_216 rfl ?_
  refine z_iconst C dL_law_218 ?_
  refine z_iadd C dL_law_219 ?_
  refine z_sldv C hX9 hbl (Nat.not_le.mpr hbl) hL2 (by omega) e2 dL_law_220 ?_
  refine z_aload_n C 0 dL_law_221 rfl ?_
  refine z_iload C 4 dL_law_222 rfl ?_
  refine z_iconst C dL_law_224 ?_
  refine z_iadd C dL_law_225 ?_
  refine z_sldv C hX9 hbl (Nat.not_le.mpr hbl) hL2 (by omega) e3 dL_law_226 ?_
  refine z_aload_n C 3 dL_law_227 rfl ?_
  refine z_callW C hX hW9 (As := [.ref (h 0), vI x, vI y, vI r, .ref a3]) (st := []) (y := yL_lamp) (w := wsL_lamp) (rm := rxL_lamp) (wr := mx cI g σ LI BR γ2 φ2 θ) (k' := (k + 1)) (n' := (n + 6)) [0, 1, 2, 3, 4, 5, 6, 7, 8, 9] [10, 11, 12, 13, 14, 15, 16, 17, 18] (wbx_L_lamp l D cI cJ h σ LT γ φ x y r ⟨r1, r2, r3⟩ hp hb a3 o) (vx_cwSW 5 C.1.2.2.2.2 gL_law_L_lamp rfl rfl rfl (by decide +kernel) ⟨Nat.le_of_ble_eq_true rfl, Nat.le_of_ble_eq_true rfl⟩) rfl rfl rfl rfl rfl (by decide) rfl rfl (Nat.le_of_ble_eq_true rfl) rfl rfl ⟨hk9, hn9⟩ dL_law_228 ?_
  rintro z5 _ ⟨rfl, rfl⟩
  refine z_wsub (ws' := (lwW cI cJ h g a3 o σ LT γ φ LI BR γ2 φ2 θ)) [9, 10, 11, 12, 13, 14, 15, 16, 17, 18, 0, 1, 2, 3, 4, 5, 6, 7, 8] rfl rfl rfl ?_
  refine z_istore C [(5, vI 2), (0, .ref b), (1, .ref (h 0)), (2, .ref (g 0)), (3, .ref a3), (4, vI (i : Int))] dL_law_231 (by decide) rfl ?_
  refine z_aload_n C 3 dL_law_233 rfl ?_
  refine z_aload_n C 1 dL_law_234 rfl ?_
  refine z_iload C 5 dL_law_235 rfl ?_
  refine z_iconst C dL_law_237 ?_
  refine z_iadd C dL_law_238 ?_
  refine z_sldv C hX9 hbl (Nat.not_le.mpr hbl) hL2 (by omega) e1 dL_law_239 ?_
  refine z_aload_n C 1 dL_law_240 rfl ?_
  refine z_iload C 5 dL_law_241 rfl ?_
  refine z_iconst C dL_law_243 ?_
  refine z_iadd C dL_law_244 ?_
  refine z_sldv C hX9 hbl (Nat.not_le.mpr hbl) hL2 (by omega) e2 dL_law_245 ?_
  refine z_aload_n C 1 dL_law_246 rfl ?_
  refine z_iload C 5 dL_law_247 rfl ?_
  refine z_iconst C dL_law_249 ?_
  refine z_iadd C dL_law_250 ?_
  refine z_sldv C hX9 hbl (Nat.not_le.mpr hbl) hL2 (by omega) e3 dL_law_251 ?_
  refine z_callVi C (As := [vI x, vI y, vI r]) (st := []) (y := yX2_lamp) (w := wsX2_lamp) (rm := rm_X2_lamp) (wr := ((a3, lo cJ o) :: cw cI h σ LT γ φ)) (k' := (k + 1)) (n' := (n + 6)) [10, 11, 12, 13, 14, 15, 16, 17, 18] [0, 1, 2, 3, 4, 5, 6, 7, 8, 9] 10 (b2_X2_lamp l D cI cJ g σ LI BR γ2 φ2 θ x y r ⟨r1, r2, r3⟩ hO ⟨hp, hb⟩) (cwV 3 C.1.2.2.2.2 gL_law_X2_lamp rfl rfl rfl (by decide +kernel) ⟨Nat.le_of_ble_eq_true rfl, Nat.le_of_ble_eq_true rfl⟩) rfl rfl rfl rfl rfl (by decide) rfl rfl rfl rfl (Nat.le_of_ble_eq_true rfl) rfl rfl ⟨hk9, hn9⟩ dL_law_252 ?_
  rintro z6 _ ⟨rfl, hz6⟩
  refine z_ws (ws' := (lwW cI cJ h g a3 o σ LT γ φ LI BR γ2 φ2 2)) rfl ?_
  have q6 : rng z6 := by rw [hz6]; decide
  refine z_istore C [(6, vI z6), (5, vI 2), (0, .ref b), (1, .ref (h 0)), (2, .ref (g 0)), (3, .ref a3), (4, vI (i : Int))] dL_law_255 (by decide) rfl ?_
  refine z_aload_n C 4 dL_law_257 rfl ?_
  refine z_callVi C (As := []) (st := []) (y := yX2_thrown) (w := wsX2_thrown) (rm := rm_X2_thrown) (wr := ((a3, lo cJ o) :: cw cI h σ LT γ φ)) (k' := (k + 1)) (n' := (n + 6)) [10, 11, 12, 13, 14, 15, 16, 17, 18] [0, 1, 2, 3, 4, 5, 6, 7, 8, 9] 10 (c_X2_thrown l D cI cJ g σ LI BR γ2 φ2 2) (cwV 0 C.1.2.2.2.2 gL_law_X2_thrown rfl rfl rfl (by decide +kernel) ⟨Nat.le_of_ble_eq_true rfl, Nat.le_of_ble_eq_true rfl⟩) rfl rfl rfl rfl rfl (by decide) rfl rfl rfl rfl (Nat.le_of_ble_eq_true rfl) rfl rfl ⟨hk9, hn9⟩ dL_law_258 ?_
  rintro z7 _ ⟨rfl, rfl⟩
  refine z_ws (ws' := (lwW cI cJ h g a3 o σ LT γ φ LI BR γ2 φ2 2)) rfl ?_
  refine z_iload C 1 dL_law_261 rfl ?_
  refine z_icmp_eq C (tgt := 268) dL_law_263 (by decide) (by omega) (by omega) (fun _ => ?_) (fun c9 => absurd rfl c9)
  refine z_iload C 1 dL_law_268 rfl ?_
  refine z_if_ne C (tgt := 285) dL_law_270 (by decide) (by omega) (fun _ => ?_) (fun c9 => absurd c9 (by decide))
  refine z_goto C (tgt := 1351) dL_law_285 (by decide) ?_
  refine z_sub (lv' := lwL b h g a3 i) [2, 3, 4, 5, 6] rfl ?_
  exact kk _ _ _ _ _ _ _ _ _ _ hO hL hK hI hB

set_option maxHeartbeats 4000000 in
set_option maxRecDepth 100000 in
theorem o3_lamp {p : Program} {l : Launch} {e : Env} {s : State} {m : MethodId} {args : Array Value} {below : List Frame} {meth : Method} {c : Code} {Q : State → Prop} {D : va_G} {cI cJ : ClassId} (C : Zc p s m args meth c (Av s) D [(cI, .int), (cJ, .long)] 9 cL_law RL wsL_law (some .boolean)) (hX : ZX l s (Av s)) (hW9 : WX s) {b L : Nat} {xs : Nat → Int32} (hX9 : va_X b L xs s s.heap) (hbl : b < s.heap.size) (hL2 : L ≤ 2048) {h g : Nat → Nat} {a3 i : Nat} (hi : i + 4 ≤ L) {o : Nat → Int64} {σ : YS} {LT : Nat → Int} {γ : YS} {φ : Nat → Int} {LI BR : Nat → Int} {γ2 : YS} {φ2 : Nat → Int} {θ : Int} (hO : Ok σ) (hL : LR LT) (hK : LOk σ LT) (hI : LI4 LI) (hB : BR9 BR) {k n : Nat} (hk9 : k + 1 ≤ room_1.cells) (hn9 : n + 6 ≤ room_1.slots) {x : Int} (e1 : (xs ((i : Int) + 1).toNat).toInt = x) (r1 : rng x) {y : Int} (e2 : (xs ((i : Int) + 2).toNat).toInt = y) (r2 : rng y) {r : Int} (e3 : (xs ((i : Int) + 3).toNat).toInt = r) (r3 : rng r) (hp : ((0 ≤ x ∧ x < 12) ∧ 0 ≤ y ∧ y < 12)) (hp2 : 1 ≤ r ∧ r < 13) (hb : σ 4 0 = 4) (kk : KK p l e s m args below meth c Q D cI cJ b h g a3 i (k + 1) (n + 6)) : Zs p l e room_1 s m args below meth c Q (Av s) D 9 208 (lwL b h g a3 i) [] (lwW cI cJ h g a3 o σ LT γ φ LI BR γ2 φ2 θ) k n := by
  refine z_aload_n C 1 dL_law_208 rfl ?_
  refine z_aload_n C 0 dL_law_209 rfl ?_
  refine z_iload C 4 dL_law_210 rfl ?_
  refine z_iconst C dL_law_212 ?_
  refine z_iadd C dL_law_213 ?_
  refine z_sldv C hX9 hbl (Nat.not_le.mpr hbl) hL2 (by omega) e1 dL_law_214 ?_
  refine z_aload_n C 0 dL_law_215 rfl ?_
  refine z_iload C 4 dL_law_216 rfl ?_
  refine z_iconst C dL_law_218 ?_
  refine z_iadd C dL_law_219 ?_
  refine z_sldv C hX9 hbl (Nat.not_le.mpr hbl) hL2 (by omega) e2 dL_law_220 ?_
  refine z_aload_n C 0 dL_law_221 rfl ?_
  refine z_iload C 4 dL_law_222 rfl ?_
  refine z_iconst C dL_law_224 ?_
  refine z_iadd C dL_law_225 ?_
  refine z_sldv C hX9 hbl (Nat.not_le.mpr hbl) hL2 (by omega) e3 dL_law_226 ?_
  refine z_aload_n C 3 dL_law_227 rfl ?_
  refine z_callW C hX hW9 (As := [.ref (h 0), vI x, vI y, vI r, .ref a3]) (st := []) (y := yL_lamp) (w := wsL_lamp) (rm := rxL_lamp) (wr := mx cI g σ LI BR γ2 φ2 θ) (k' := (k + 1)) (n' := (n + 6)) [0, 1, 2, 3, 4, 5, 6, 7, 8, 9] [10, 11, 12, 13, 14, 15, 16, 17, 18] (wcx_L_lamp l D cI cJ h σ LT γ φ x y r ⟨r1, r2, r3⟩ hp hp2 hO hb a3 o) (vx_cwSW 5 C.1.2.2.2.2 gL_law_L_lamp rfl rfl rfl (by decide +kernel) ⟨Nat.le_of_ble_eq_true rfl, Nat.le_of_ble_eq_true rfl⟩) rfl rfl rfl rfl rfl (by decide) rfl rfl (Nat.le_of_ble_eq_true rfl) rfl rfl ⟨hk9, hn9⟩ dL_law_228 ?_
  rintro z5 _ ⟨rfl, rfl⟩
  refine z_wsub (ws' := (lwW cI cJ h g a3 o σ LT γ φ LI BR γ2 φ2 θ)) [9, 10, 11, 12, 13, 14, 15, 16, 17, 18, 0, 1, 2, 3, 4, 5, 6, 7, 8] rfl rfl rfl ?_
  refine z_istore C [(5, vI 3), (0, .ref b), (1, .ref (h 0)), (2, .ref (g 0)), (3, .ref a3), (4, vI (i : Int))] dL_law_231 (by decide) rfl ?_
  refine z_aload_n C 3 dL_law_233 rfl ?_
  refine z_aload_n C 1 dL_law_234 rfl ?_
  refine z_iload C 5 dL_law_235 rfl ?_
  refine z_iconst C dL_law_237 ?_
  refine z_iadd C dL_law_238 ?_
  refine z_sldv C hX9 hbl (Nat.not_le.mpr hbl) hL2 (by omega) e1 dL_law_239 ?_
  refine z_aload_n C 1 dL_law_240 rfl ?_
  refine z_iload C 5 dL_law_241 rfl ?_
  refine z_iconst C dL_law_243 ?_
  refine z_iadd C dL_law_244 ?_
  refine z_sldv C hX9 hbl (Nat.not_le.mpr hbl) hL2 (by omega) e2 dL_law_245 ?_
  refine z_aload_n C 1 dL_law_246 rfl ?_
  refine z_iload C 5 dL_law_247 rfl ?_
  refine z_iconst C dL_law_249 ?_
  refine z_iadd C dL_law_250 ?_
  refine z_sldv C hX9 hbl (Nat.not_le.mpr hbl) hL2 (by omega) e3 dL_law_251 ?_
  refine z_callVi C (As := [vI x, vI y, vI r]) (st := []) (y := yX2_lamp) (w := wsX2_lamp) (rm := rm_X2_lamp) (wr := ((a3, lo cJ o) :: cw cI h σ LT γ φ)) (k' := (k + 1)) (n' := (n + 6)) [10, 11, 12, 13, 14, 15, 16, 17, 18] [0, 1, 2, 3, 4, 5, 6, 7, 8, 9] 10 (b3_X2_lamp l D cI cJ g σ LI BR γ2 φ2 θ x y r ⟨r1, r2, r3⟩ hO ⟨hp, hp2, hb⟩) (cwV 3 C.1.2.2.2.2 gL_law_X2_lamp rfl rfl rfl (by decide +kernel) ⟨Nat.le_of_ble_eq_true rfl, Nat.le_of_ble_eq_true rfl⟩) rfl rfl rfl rfl rfl (by decide) rfl rfl rfl rfl (Nat.le_of_ble_eq_true rfl) rfl rfl ⟨hk9, hn9⟩ dL_law_252 ?_
  rintro z6 _ ⟨rfl, hz6⟩
  refine z_ws (ws' := (lwW cI cJ h g a3 o σ LT γ φ LI BR γ2 φ2 3)) rfl ?_
  have q6 : rng z6 := by rw [hz6]; decide
  refine z_istore C [(6, vI z6), (5, vI 3), (0, .ref b), (1, .ref (h 0)), (2, .ref (g 0)), (3, .ref a3), (4, vI (i : Int))] dL_law_255 (by decide) rfl ?_
  refine z_aload_n C 4 dL_law_257 rfl ?_
  refine z_callVi C (As := []) (st := []) (y := yX2_thrown) (w := wsX2_thrown) (rm := rm_X2_thrown) (wr := ((a3, lo cJ o) :: cw cI h σ LT γ φ)) (k' := (k + 1)) (n' := (n + 6)) [10, 11, 12, 13, 14, 15, 16, 17, 18] [0, 1, 2, 3, 4, 5, 6, 7, 8, 9] 10 (c_X2_thrown l D cI cJ g σ LI BR γ2 φ2 3) (cwV 0 C.1.2.2.2.2 gL_law_X2_thrown rfl rfl rfl (by decide +kernel) ⟨Nat.le_of_ble_eq_true rfl, Nat.le_of_ble_eq_true rfl⟩) rfl rfl rfl rfl rfl (by decide) rfl rfl rfl rfl (Nat.le_of_ble_eq_true rfl) rfl rfl ⟨hk9, hn9⟩ dL_law_258 ?_
  rintro z7 _ ⟨rfl, rfl⟩
  refine z_ws (ws' := (lwW cI cJ h g a3 o σ LT γ φ LI BR γ2 φ2 3)) rfl ?_
  refine z_iload C 1 dL_law_261 rfl ?_
  refine z_icmp_eq C (tgt := 268) dL_law_263 (by decide) (by omega) (by omega) (fun _ => ?_) (fun c9 => absurd rfl c9)
  refine z_iload C 1 dL_law_268 rfl ?_
  refine z_if_ne C (tgt := 285) dL_law_270 (by decide) (by omega) (fun _ => ?_) (fun c9 => absurd c9 (by decide))
  refine z_goto C (tgt := 1351) dL_law_285 (by decide) ?_
  refine z_sub (lv' := lwL b h g a3 i) [2, 3, 4, 5, 6] rfl ?_
  exact kk _ _ _ _ _ _ _ _ _ _ hO hL hK hI hB

set_option maxHeartbeats 4000000 in
set_option maxRecDepth 100000 in
theorem o4_lamp {p : Program} {l : Launch} {e : Env} {s : State} {m : MethodId} {args : Array Value} {below : List Frame} {meth : Method} {c : Code} {Q : State → Prop} {D : va_G} {cI cJ : ClassId} (C : Zc p s m args meth c (Av s) D [(cI, .int), (cJ, .long)] 9 cL_law RL wsL_law (some .boolean)) (hX : ZX l s (Av s)) (hW9 : WX s) {b L : Nat} {xs : Nat → Int32} (hX9 : va_X b L xs s s.heap) (hbl : b < s.heap.size) (hL2 : L ≤ 2048) {h g : Nat → Nat} {a3 i : Nat} (hi : i + 4 ≤ L) {o : Nat → Int64} {σ : YS} {LT : Nat → Int} {γ : YS} {φ : Nat → Int} {LI BR : Nat → Int} {γ2 : YS} {φ2 : Nat → Int} {θ : Int} (hO : Ok σ) (hL : LR LT) (hK : LOk σ LT) (hI : LI4 LI) (hB : BR9 BR) {k n : Nat} (hk9 : k + 1 ≤ room_1.cells) (hn9 : n + 6 ≤ room_1.slots) {x : Int} (e1 : (xs ((i : Int) + 1).toNat).toInt = x) (r1 : rng x) {y : Int} (e2 : (xs ((i : Int) + 2).toNat).toInt = y) (r2 : rng y) {r : Int} (e3 : (xs ((i : Int) + 3).toNat).toInt = r) (r3 : rng r) (hp : ((0 ≤ x ∧ x < 12) ∧ 0 ≤ y ∧ y < 12)) (hp2 : 1 ≤ r ∧ r < 13) (h4 : σ 4 0 < 4) (hb : lampB σ (12 * y + x) = true) (kk : KK p l e s m args below meth c Q D cI cJ b h g a3 i (k + 1) (n + 6)) : Zs p l e room_1 s m args below meth c Q (Av s) D 9 208 (lwL b h g a3 i) [] (lwW cI cJ h g a3 o σ LT γ φ LI BR γ2 φ2 θ) k n := by
  refine z_aload_n C 1 dL_law_208 rfl ?_
  refine z_aload_n C 0 dL_law_209 rfl ?_
  refine z_iload C 4 dL_law_210 rfl ?_
  refine z_iconst C dL_law_212 ?_
  refine z_iadd C dL_law_213 ?_
  refine z_sldv C hX9 hbl (Nat.not_le.mpr hbl) hL2 (by omega) e1 dL_law_214 ?_
  refine z_aload_n C 0 dL_law_215 rfl ?_
  refine z_iload C 4 dL_law_216 rfl ?_
  refine z_iconst C dL_law_218 ?_
  refine z_iadd C dL_law_219 ?_
  refine z_sldv C hX9 hbl (Nat.not_le.mpr hbl) hL2 (by omega) e2 dL_law_220 ?_
  refine z_aload_n C 0 dL_law_221 rfl ?_
  refine z_iload C 4 dL_law_222 rfl ?_
  refine z_iconst C dL_law_224 ?_
  refine z_iadd C dL_law_225 ?_
  refine z_sldv C hX9 hbl (Nat.not_le.mpr hbl) hL2 (by omega) e3 dL_law_226 ?_
  refine z_aload_n C 3 dL_law_227 rfl ?_
  refine z_callW C hX hW9 (As := [.ref (h 0), vI x, vI y, vI r, .ref a3]) (st := []) (y := yL_lamp) (w := wsL_lamp) (rm := rxL_lamp) (wr := mx cI g σ LI BR γ2 φ2 θ) (k' := (k + 1)) (n' := (n + 6)) [0, 1, 2, 3, 4, 5, 6, 7, 8, 9] [10, 11, 12, 13, 14, 15, 16, 17, 18] (wdx_L_lamp l D cI cJ h σ LT γ φ x y r ⟨r1, r2, r3⟩ hp hp2 hO h4 hb a3 o) (vx_cwSW 5 C.1.2.2.2.2 gL_law_L_lamp rfl rfl rfl (by decide +kernel) ⟨Nat.le_of_ble_eq_true rfl, Nat.le_of_ble_eq_true rfl⟩) rfl rfl rfl rfl rfl (by decide) rfl rfl (Nat.le_of_ble_eq_true rfl) rfl rfl ⟨hk9, hn9⟩ dL_law_228 ?_
  rintro z5 _ ⟨rfl, rfl⟩
  refine z_wsub (ws' := (lwW cI cJ h g a3 o σ LT γ φ LI BR γ2 φ2 θ)) [9, 10, 11, 12, 13, 14, 15, 16, 17, 18, 0, 1, 2, 3, 4, 5, 6, 7, 8] rfl rfl rfl ?_
  refine z_istore C [(5, vI 3), (0, .ref b), (1, .ref (h 0)), (2, .ref (g 0)), (3, .ref a3), (4, vI (i : Int))] dL_law_231 (by decide) rfl ?_
  refine z_aload_n C 3 dL_law_233 rfl ?_
  refine z_aload_n C 1 dL_law_234 rfl ?_
  refine z_iload C 5 dL_law_235 rfl ?_
  refine z_iconst C dL_law_237 ?_
  refine z_iadd C dL_law_238 ?_
  refine z_sldv C hX9 hbl (Nat.not_le.mpr hbl) hL2 (by omega) e1 dL_law_239 ?_
  refine z_aload_n C 1 dL_law_240 rfl ?_
  refine z_iload C 5 dL_law_241 rfl ?_
  refine z_iconst C dL_law_243 ?_
  refine z_iadd C dL_law_244 ?_
  refine z_sldv C hX9 hbl (Nat.not_le.mpr hbl) hL2 (by omega) e2 dL_law_245 ?_
  refine z_aload_n C 1 dL_law_246 rfl ?_
  refine z_iload C 5 dL_law_247 rfl ?_
  refine z_iconst C dL_law_249 ?_
  refine z_iadd C dL_law_250 ?_
  refine z_sldv C hX9 hbl (Nat.not_le.mpr hbl) hL2 (by omega) e3 dL_law_251 ?_
  refine z_callVi C (As := [vI x, vI y, vI r]) (st := []) (y := yX2_lamp) (w := wsX2_lamp) (rm := rm_X2_lamp) (wr := ((a3, lo cJ o) :: cw cI h σ LT γ φ)) (k' := (k + 1)) (n' := (n + 6)) [10, 11, 12, 13, 14, 15, 16, 17, 18] [0, 1, 2, 3, 4, 5, 6, 7, 8, 9] 10 (b4_X2_lamp l D cI cJ g σ LI BR γ2 φ2 θ x y r ⟨r1, r2, r3⟩ hO ⟨⟨hp, hp2, h4⟩, hb⟩) (cwV 3 C.1.2.2.2.2 gL_law_X2_lamp rfl rfl rfl (by decide +kernel) ⟨Nat.le_of_ble_eq_true rfl, Nat.le_of_ble_eq_true rfl⟩) rfl rfl rfl rfl rfl (by decide) rfl rfl rfl rfl (Nat.le_of_ble_eq_true rfl) rfl rfl ⟨hk9, hn9⟩ dL_law_252 ?_
  rintro z6 _ ⟨rfl, hz6⟩
  refine z_ws (ws' := (lwW cI cJ h g a3 o σ LT γ φ LI BR γ2 φ2 3)) rfl ?_
  have q6 : rng z6 := by rw [hz6]; decide
  refine z_istore C [(6, vI z6), (5, vI 3), (0, .ref b), (1, .ref (h 0)), (2, .ref (g 0)), (3, .ref a3), (4, vI (i : Int))] dL_law_255 (by decide) rfl ?_
  refine z_aload_n C 4 dL_law_257 rfl ?_
  refine z_callVi C (As := []) (st := []) (y := yX2_thrown) (w := wsX2_thrown) (rm := rm_X2_thrown) (wr := ((a3, lo cJ o) :: cw cI h σ LT γ φ)) (k' := (k + 1)) (n' := (n + 6)) [10, 11, 12, 13, 14, 15, 16, 17, 18] [0, 1, 2, 3, 4, 5, 6, 7, 8, 9] 10 (c_X2_thrown l D cI cJ g σ LI BR γ2 φ2 3) (cwV 0 C.1.2.2.2.2 gL_law_X2_thrown rfl rfl rfl (by decide +kernel) ⟨Nat.le_of_ble_eq_true rfl, Nat.le_of_ble_eq_true rfl⟩) rfl rfl rfl rfl rfl (by decide) rfl rfl rfl rfl (Nat.le_of_ble_eq_true rfl) rfl rfl ⟨hk9, hn9⟩ dL_law_258 ?_
  rintro z7 _ ⟨rfl, rfl⟩
  refine z_ws (ws' := (lwW cI cJ h g a3 o σ LT γ φ LI BR γ2 φ2 3)) rfl ?_
  refine z_iload C 1 dL_law_261 rfl ?_
  refine z_icmp_eq C (tgt := 268) dL_law_263 (by decide) (by omega) (by omega) (fun _ => ?_) (fun c9 => absurd rfl c9)
  refine z_iload C 1 dL_law_268 rfl ?_
  refine z_if_ne C (tgt := 285) dL_law_270 (by decide) (by omega) (fun _ => ?_) (fun c9 => absurd c9 (by decide))
  refine z_goto C (tgt := 1351) dL_law_285 (by decide) ?_
  refine z_sub (lv' := lwL b h g a3 i) [2, 3, 4, 5, 6] rfl ?_
  exact kk _ _ _ _ _ _ _ _ _ _ hO hL hK hI hB

set_option maxHeartbeats 4000000 in
set_option maxRecDepth 100000 in
theorem o0_carry {p : Program} {l : Launch} {e : Env} {s : State} {m : MethodId} {args : Array Value} {below : List Frame} {meth : Method} {c : Code} {Q : State → Prop} {D : va_G} {cI cJ : ClassId} (C : Zc p s m args meth c (Av s) D [(cI, .int), (cJ, .long)] 9 cL_law RL wsL_law (some .boolean)) (hX : ZX l s (Av s)) (hW9 : WX s) {b L : Nat} {xs : Nat → Int32} (hX9 : va_X b L xs s s.heap) (hbl : b < s.heap.size) (hL2 : L ≤ 2048) {h g : Nat → Nat} {a3 i : Nat} (hi : i + 4 ≤ L) {o : Nat → Int64} {σ : YS} {LT : Nat → Int} {γ : YS} {φ : Nat → Int} {LI BR : Nat → Int} {γ2 : YS} {φ2 : Nat → Int} {θ : Int} (hO : Ok σ) (hL : LR LT) (hK : LOk σ LT) (hI : LI4 LI) (hB : BR9 BR) {k n : Nat} (hk9 : k + 1 ≤ room_1.cells) (hn9 : n + 6 ≤ room_1.slots) {kl : Int} (e1 : (xs ((i : Int) + 1).toNat).toInt = kl) (r1 : rng kl) {x : Int} (e2 : (xs ((i : Int) + 2).toNat).toInt = x) (r2 : rng x) {y : Int} (e3 : (xs ((i : Int) + 3).toNat).toInt = y) (r3 : rng y) (hk : 0 ≤ kl ∧ kl < σ 4 0) (hx : 0 ≤ x ∧ x < 12) (hy : 0 ≤ y ∧ y < 12) (hla : lampB σ (12 * y + x) = false) (kk : KK p l e s m args below meth c Q D cI cJ b h g a3 i (k + 1) (n + 6)) : Zs p l e room_1 s m args below meth c Q (Av s) D 9 288 (lwL b h g a3 i) [] (lwW cI cJ h g a3 o σ LT γ φ LI BR γ2 φ2 θ) k n := by
  refine z_aload_n C 1 dL_law_288 rfl ?_
  refine z_aload_n C 0 dL_law_289 rfl ?_
  refine z_iload C 4 dL_law_290 rfl ?_
  refine z_iconst C dL_law_292 ?_
  refine z_iadd C dL_law_293 ?_
  refine z_sldv C hX9 hbl (Nat.not_le.mpr hbl) hL2 (by omega) e1 dL_law_294 ?_
  refine z_aload_n C 0 dL_law_295 rfl ?_
  refine z_iload C 4 dL_law_296 rfl ?_
  refine z_iconst C dL_law_298 ?_
  refine z_iadd C dL_law_299 ?_
  refine z_sldv C hX9 hbl (Nat.not_le.mpr hbl) hL2 (by omega) e2 dL_law_300 ?_
  refine z_aload_n C 0 dL_law_301 rfl ?_
  refine z_iload C 4 dL_law_302 rfl ?_
  refine z_iconst C dL_law_304 ?_
  refine z_iadd C dL_law_305 ?_
  refine z_sldv C hX9 hbl (Nat.not_le.mpr hbl) hL2 (by omega) e3 dL_law_306 ?_
  refine z_aload_n C 3 dL_law_307 rfl ?_
  refine z_callW C hX hW9 (As := [.ref (h 0), vI kl, vI x, vI y, .ref a3]) (st := []) (y := yL_carry) (w := wsL_carry) (rm := rmL_carry) (wr := mx cI g σ LI BR γ2 φ2 θ) (k' := k) (n' := n) [0, 1, 2, 3, 4, 5, 6, 7, 8, 9] [10, 11, 12, 13, 14, 15, 16, 17, 18] (w_L_carry l D cI cJ h σ LT γ φ kl x y hk hx hy hla hO hL a3 o) (vx_cwSW 5 C.1.2.2.2.2 gL_law_L_carry rfl rfl rfl (by decide +kernel) ⟨Nat.le_of_ble_eq_true rfl, Nat.le_of_ble_eq_true rfl⟩) rfl rfl rfl rfl rfl (by decide) rfl rfl (Nat.le_of_ble_eq_true rfl) rfl rfl ⟨Nat.le_trans (Nat.le_add_right _ _) hk9, Nat.le_trans (Nat.le_add_right _ _) hn9⟩ dL_law_308 ?_
  rintro z5 _ ⟨f', φ', rfl, rfl, hf⟩
  refine z_wsub (ws' := ((a3, lo cJ f') :: (cw cI h (sU σ 1 kl.toNat (12 * y + x)) (shL (sU σ 1 kl.toNat (12 * y + x)) LT kl.toNat 144) γ φ' ++ mx cI g σ LI BR γ2 φ2 θ))) [9, 10, 11, 12, 13, 14, 15, 16, 17, 18, 0, 1, 2, 3, 4, 5, 6, 7, 8] rfl rfl rfl ?_
  refine z_istore C [(5, vI 0), (0, .ref b), (1, .ref (h 0)), (2, .ref (g 0)), (3, .ref a3), (4, vI (i : Int))] dL_law_311 (by decide) rfl ?_
  refine z_aload_n C 3 dL_law_313 rfl ?_
  refine z_aload_n C 1 dL_law_314 rfl ?_
  refine z_iload C 5 dL_law_315 rfl ?_
  refine z_iconst C dL_law_317 ?_
  refine z_iadd C dL_law_318 ?_
  refine z_sldv C hX9 hbl (Nat.not_le.mpr hbl) hL2 (by omega) e1 dL_law_319 ?_
  refine z_aload_n C 1 dL_law_320 rfl ?_
  refine z_iload C 5 dL_law_321 rfl ?_
  refine z_iconst C dL_law_323 ?_
  refine z_iadd C dL_law_324 ?_
  refine z_sldv C hX9 hbl (Nat.not_le.mpr hbl) hL2 (by omega) e2 dL_law_325 ?_
  refine z_aload_n C 1 dL_law_326 rfl ?_
  refine z_iload C 5 dL_law_327 rfl ?_
  refine z_iconst C dL_law_329 ?_
  refine z_iadd C dL_law_330 ?_
  refine z_sldv C hX9 hbl (Nat.not_le.mpr hbl) hL2 (by omega) e3 dL_law_331 ?_
  refine z_callVi C (As := [vI kl, vI x, vI y]) (st := []) (y := yX2_carry) (w := wsX2_carry) (rm := rm_X2_carry) (wr := ((a3, lo cJ f') :: cw cI h (sU σ 1 kl.toNat (12 * y + x)) (shL (sU σ 1 kl.toNat (12 * y + x)) LT kl.toNat 144) γ φ')) (k' := k) (n' := n) [10, 11, 12, 13, 14, 15, 16, 17, 18] [0, 1, 2, 3, 4, 5, 6, 7, 8, 9] 10 (c_X2_carry l D cI cJ g σ LI BR γ2 φ2 θ kl x y hk hx hy hla hO hI) (cwV 3 C.1.2.2.2.2 gL_law_X2_carry rfl rfl rfl (by decide +kernel) ⟨Nat.le_of_ble_eq_true rfl, Nat.le_of_ble_eq_true rfl⟩) rfl rfl rfl rfl rfl (by decide) rfl rfl rfl rfl (Nat.le_of_ble_eq_true rfl) rfl rfl ⟨Nat.le_trans (Nat.le_add_right _ _) hk9, Nat.le_trans (Nat.le_add_right _ _) hn9⟩ dL_law_332 ?_
  rintro z6 _ ⟨φ'', rfl, hz6⟩
  refine z_ws (ws' := (lwW cI cJ h g a3 f' (sU σ 1 kl.toNat (12 * y + x)) (shL (sU σ 1 kl.toNat (12 * y + x)) LT kl.toNat 144) γ φ' (lkF (lgV (sU σ 1 kl.toNat (12 * y + x))) LI 144) (lkF (brV (sU σ 1 kl.toNat (12 * y + x))) BR 144) γ2 φ'' 0)) rfl ?_
  refine z_istore C [(6, vI z6), (5, vI 0), (0, .ref b), (1, .ref (h 0)), (2, .ref (g 0)), (3, .ref a3), (4, vI (i : Int))] dL_law_335 (by decide) rfl ?_
  refine z_aload_n C 4 dL_law_337 rfl ?_
  refine z_callVi C (As := []) (st := []) (y := yX2_thrown) (w := wsX2_thrown) (rm := rm_X2_thrown) (wr := ((a3, lo cJ f') :: cw cI h (sU σ 1 kl.toNat (12 * y + x)) (shL (sU σ 1 kl.toNat (12 * y + x)) LT kl.toNat 144) γ φ')) (k' := k) (n' := n) [10, 11, 12, 13, 14, 15, 16, 17, 18] [0, 1, 2, 3, 4, 5, 6, 7, 8, 9] 10 (c_X2_thrown l D cI cJ g (sU σ 1 kl.toNat (12 * y + x)) (lkF (lgV (sU σ 1 kl.toNat (12 * y + x))) LI 144) (lkF (brV (sU σ 1 kl.toNat (12 * y + x))) BR 144) γ2 φ'' 0) (cwV 0 C.1.2.2.2.2 gL_law_X2_thrown rfl rfl rfl (by decide +kernel) ⟨Nat.le_of_ble_eq_true rfl, Nat.le_of_ble_eq_true rfl⟩) rfl rfl rfl rfl rfl (by decide) rfl rfl rfl rfl (Nat.le_of_ble_eq_true rfl) rfl rfl ⟨Nat.le_trans (Nat.le_add_right _ _) hk9, Nat.le_trans (Nat.le_add_right _ _) hn9⟩ dL_law_338 ?_
  rintro z7 _ ⟨rfl, rfl⟩
  refine z_ws (ws' := (lwW cI cJ h g a3 f' (sU σ 1 kl.toNat (12 * y + x)) (shL (sU σ 1 kl.toNat (12 * y + x)) LT kl.toNat 144) γ φ' (lkF (lgV (sU σ 1 kl.toNat (12 * y + x))) LI 144) (lkF (brV (sU σ 1 kl.toNat (12 * y + x))) BR 144) γ2 φ'' 0)) rfl ?_
  refine z_iload C 1 dL_law_341 rfl ?_
  refine z_icmp_eq C (tgt := 348) dL_law_343 (by decide) (by omega) (by omega) (fun _ => ?_) (fun c9 => absurd rfl c9)
  refine z_iload C 1 dL_law_348 rfl ?_
  refine z_if_ne C (tgt := 365) dL_law_350 (by decide) (by omega) (fun c9 => absurd rfl c9) (fun _ => ?_)
  refine z_aload_n C 5 dL_law_353 rfl ?_
  refine z_iconst C dL_law_354 ?_
  refine z_lald C 0 1 rfl rfl dL_law_355 ?_
  refine z_iload C 0 dL_law_356 rfl ?_
  refine z_i2l C dL_law_358 ?_
  refine z_lcmpE C (show f' 0 = (iI z6).toInt64 from (by rw [hf, hz6, litC_e (fun c hc => lk_ne (Ok_carry hO (by omega) (by omega)) (LR_shL (by have := hO.1; omega) hL) (LOk_carry hO hL hK hk) hc)])) dL_law_359 ?_
  refine z_if_eq C (tgt := 365) dL_law_360 (by decide) (by omega) (fun _ => ?_) (fun c9 => absurd rfl c9)
  refine z_goto C (tgt := 1351) dL_law_365 (by decide) ?_
  refine z_sub (lv' := lwL b h g a3 i) [2, 3, 4, 5, 6] rfl ?_
  refine z_widen (k' := k + 1) (n' := n + 6) (Nat.le_add_right _ _) (Nat.le_add_right _ _) ?_
  have hO9 : Ok (sU σ 1 kl.toNat (12 * y + x)) := Ok_carry hO (by omega) (by omega)
  exact kk _ _ _ _ _ _ _ _ _ _ hO9 (LR_shL (by have := hO.1; omega) hL) (LOk_carry hO hL hK hk) (lkL_r hO9 hI 144) (lkB_r hO9 hB (Nat.le_refl _))

set_option maxHeartbeats 4000000 in
set_option maxRecDepth 100000 in
theorem o1_carry {p : Program} {l : Launch} {e : Env} {s : State} {m : MethodId} {args : Array Value} {below : List Frame} {meth : Method} {c : Code} {Q : State → Prop} {D : va_G} {cI cJ : ClassId} (C : Zc p s m args meth c (Av s) D [(cI, .int), (cJ, .long)] 9 cL_law RL wsL_law (some .boolean)) (hX : ZX l s (Av s)) (hW9 : WX s) {b L : Nat} {xs : Nat → Int32} (hX9 : va_X b L xs s s.heap) (hbl : b < s.heap.size) (hL2 : L ≤ 2048) {h g : Nat → Nat} {a3 i : Nat} (hi : i + 4 ≤ L) {o : Nat → Int64} {σ : YS} {LT : Nat → Int} {γ : YS} {φ : Nat → Int} {LI BR : Nat → Int} {γ2 : YS} {φ2 : Nat → Int} {θ : Int} (hO : Ok σ) (hL : LR LT) (hK : LOk σ LT) (hI : LI4 LI) (hB : BR9 BR) {k n : Nat} (hk9 : k + 1 ≤ room_1.cells) (hn9 : n + 6 ≤ room_1.slots) {kl : Int} (e1 : (xs ((i : Int) + 1).toNat).toInt = kl) (r1 : rng kl) {x : Int} (e2 : (xs ((i : Int) + 2).toNat).toInt = x) (r2 : rng x) {y : Int} (e3 : (xs ((i : Int) + 3).toNat).toInt = y) (r3 : rng y) (hb : ¬ (0 ≤ kl ∧ kl < σ 4 0)) (kk : KK p l e s m args below meth c Q D cI cJ b h g a3 i (k + 1) (n + 6)) : Zs p l e room_1 s m args below meth c Q (Av s) D 9 288 (lwL b h g a3 i) [] (lwW cI cJ h g a3 o σ LT γ φ LI BR γ2 φ2 θ) k n := by
  refine z_aload_n C 1 dL_law_288 rfl ?_
  refine z_aload_n C 0 dL_law_289 rfl ?_
  refine z_iload C 4 dL_law_290 rfl ?_
  refine z_iconst C dL_law_292 ?_
  refine z_iadd C dL_law_293 ?_
  refine z_sldv C hX9 hbl (Nat.not_le.mpr hbl) hL2 (by omega) e1 dL_law_294 ?_
  refine z_aload_n C 0 dL_law_295 rfl ?_
  refine z_iload C 4 dL_law_296 rfl ?_
  refine z_iconst C dL_law_298 ?_
  refine z_iadd C dL_law_299 ?_
  refine z_sldv C hX9 hbl (Nat.not_le.mpr hbl) hL2 (by omega) e2 dL_law_300 ?_
  refine z_aload_n C 0 dL_law_301 rfl ?_
  refine z_iload C 4 dL_law_302 rfl ?_
  refine z_iconst C dL_law_304 ?_
  refine z_iadd C dL_law_305 ?_
  refine z_sldv C hX9 hbl (Nat.not_le.mpr hbl) hL2 (by omega) e3 dL_law_306 ?_
  refine z_aload_n C 3 dL_law_307 rfl ?_
  refine z_callW C hX hW9 (As := [.ref (h 0), vI kl, vI x, vI y, .ref a3]) (st := []) (y := yL_carry) (w := wsL_carry) (rm := rxL_carry) (wr := mx cI g σ LI BR γ2 φ2 θ) (k' := (k + 1)) (n' := (n + 6)) [0, 1, 2, 3, 4, 5, 6, 7, 8, 9] [10, 11, 12, 13, 14, 15, 16, 17, 18] (wx_L_carry l D cI cJ h σ LT γ φ kl x y ⟨r1, r2, r3⟩ hO hb a3 o) (vx_cwSW 5 C.1.2.2.2.2 gL_law_L_carry rfl rfl rfl (by decide +kernel) ⟨Nat.le_of_ble_eq_true rfl, Nat.le_of_ble_eq_true rfl⟩) rfl rfl rfl rfl rfl (by decide) rfl rfl (Nat.le_of_ble_eq_true rfl) rfl rfl ⟨hk9, hn9⟩ dL_law_308 ?_
  rintro z5 _ ⟨rfl, rfl⟩
  refine z_wsub (ws' := (lwW cI cJ h g a3 o σ LT γ φ LI BR γ2 φ2 θ)) [9, 10, 11, 12, 13, 14, 15, 16, 17, 18, 0, 1, 2, 3, 4, 5, 6, 7, 8] rfl rfl rfl ?_
  refine z_istore C [(5, vI 1), (0, .ref b), (1, .ref (h 0)), (2, .ref (g 0)), (3, .ref a3), (4, vI (i : Int))] dL_law_311 (by decide) rfl ?_
  refine z_aload_n C 3 dL_law_313 rfl ?_
  refine z_aload_n C 1 dL_law_314 rfl ?_
  refine z_iload C 5 dL_law_315 rfl ?_
  refine z_iconst C dL_law_317 ?_
  refine z_iadd C dL_law_318 ?_
  refine z_sldv C hX9 hbl (Nat.not_le.mpr hbl) hL2 (by omega) e1 dL_law_319 ?_
  refine z_aload_n C 1 dL_law_320 rfl ?_
  refine z_iload C 5 dL_law_321 rfl ?_
  refine z_iconst C dL_law_323 ?_
  refine z_iadd C dL_law_324 ?_
  refine z_sldv C hX9 hbl (Nat.not_le.mpr hbl) hL2 (by omega) e2 dL_law_325 ?_
  refine z_aload_n C 1 dL_law_326 rfl ?_
  refine z_iload C 5 dL_law_327 rfl ?_
  refine z_iconst C dL_law_329 ?_
  refine z_iadd C dL_law_330 ?_
  refine z_sldv C hX9 hbl (Nat.not_le.mpr hbl) hL2 (by omega) e3 dL_law_331 ?_
  refine z_callVi C (As := [vI kl, vI x, vI y]) (st := []) (y := yX2_carry) (w := wsX2_carry) (rm := rm_X2_carry) (wr := ((a3, lo cJ o) :: cw cI h σ LT γ φ)) (k' := (k + 1)) (n' := (n + 6)) [10, 11, 12, 13, 14, 15, 16, 17, 18] [0, 1, 2, 3, 4, 5, 6, 7, 8, 9] 10 (b1_X2_carry l D cI cJ g σ LI BR γ2 φ2 θ kl x y ⟨r1, r2, r3⟩ hO (fun q => hb q.1)) (cwV 3 C.1.2.2.2.2 gL_law_X2_carry rfl rfl rfl (by decide +kernel) ⟨Nat.le_of_ble_eq_true rfl, Nat.le_of_ble_eq_true rfl⟩) rfl rfl rfl rfl rfl (by decide) rfl rfl rfl rfl (Nat.le_of_ble_eq_true rfl) rfl rfl ⟨hk9, hn9⟩ dL_law_332 ?_
  rintro z6 _ ⟨rfl, hz6⟩
  refine z_ws (ws' := (lwW cI cJ h g a3 o σ LT γ φ LI BR γ2 φ2 1)) rfl ?_
  have q6 : rng z6 := by rw [hz6]; decide
  refine z_istore C [(6, vI z6), (5, vI 1), (0, .ref b), (1, .ref (h 0)), (2, .ref (g 0)), (3, .ref a3), (4, vI (i : Int))] dL_law_335 (by decide) rfl ?_
  refine z_aload_n C 4 dL_law_337 rfl ?_
  refine z_callVi C (As := []) (st := []) (y := yX2_thrown) (w := wsX2_thrown) (rm := rm_X2_thrown) (wr := ((a3, lo cJ o) :: cw cI h σ LT γ φ)) (k' := (k + 1)) (n' := (n + 6)) [10, 11, 12, 13, 14, 15, 16, 17, 18] [0, 1, 2, 3, 4, 5, 6, 7, 8, 9] 10 (c_X2_thrown l D cI cJ g σ LI BR γ2 φ2 1) (cwV 0 C.1.2.2.2.2 gL_law_X2_thrown rfl rfl rfl (by decide +kernel) ⟨Nat.le_of_ble_eq_true rfl, Nat.le_of_ble_eq_true rfl⟩) rfl rfl rfl rfl rfl (by decide) rfl rfl rfl rfl (Nat.le_of_ble_eq_true rfl) rfl rfl ⟨hk9, hn9⟩ dL_law_338 ?_
  rintro z7 _ ⟨rfl, rfl⟩
  refine z_ws (ws' := (lwW cI cJ h g a3 o σ LT γ φ LI BR γ2 φ2 1)) rfl ?_
  refine z_iload C 1 dL_law_341 rfl ?_
  refine z_icmp_eq C (tgt := 348) dL_law_343 (by decide) (by omega) (by omega) (fun _ => ?_) (fun c9 => absurd rfl c9)
  refine z_iload C 1 dL_law_348 rfl ?_
  refine z_if_ne C (tgt := 365) dL_law_350 (by decide) (by omega) (fun _ => ?_) (fun c9 => absurd c9 (by decide))
  refine z_goto C (tgt := 1351) dL_law_365 (by decide) ?_
  refine z_sub (lv' := lwL b h g a3 i) [2, 3, 4, 5, 6] rfl ?_
  exact kk _ _ _ _ _ _ _ _ _ _ hO hL hK hI hB

set_option maxHeartbeats 4000000 in
set_option maxRecDepth 100000 in
theorem o2_carry {p : Program} {l : Launch} {e : Env} {s : State} {m : MethodId} {args : Array Value} {below : List Frame} {meth : Method} {c : Code} {Q : State → Prop} {D : va_G} {cI cJ : ClassId} (C : Zc p s m args meth c (Av s) D [(cI, .int), (cJ, .long)] 9 cL_law RL wsL_law (some .boolean)) (hX : ZX l s (Av s)) (hW9 : WX s) {b L : Nat} {xs : Nat → Int32} (hX9 : va_X b L xs s s.heap) (hbl : b < s.heap.size) (hL2 : L ≤ 2048) {h g : Nat → Nat} {a3 i : Nat} (hi : i + 4 ≤ L) {o : Nat → Int64} {σ : YS} {LT : Nat → Int} {γ : YS} {φ : Nat → Int} {LI BR : Nat → Int} {γ2 : YS} {φ2 : Nat → Int} {θ : Int} (hO : Ok σ) (hL : LR LT) (hK : LOk σ LT) (hI : LI4 LI) (hB : BR9 BR) {k n : Nat} (hk9 : k + 1 ≤ room_1.cells) (hn9 : n + 6 ≤ room_1.slots) {kl : Int} (e1 : (xs ((i : Int) + 1).toNat).toInt = kl) (r1 : rng kl) {x : Int} (e2 : (xs ((i : Int) + 2).toNat).toInt = x) (r2 : rng x) {y : Int} (e3 : (xs ((i : Int) + 3).toNat).toInt = y) (r3 : rng y) (hk : 0 ≤ kl ∧ kl < σ 4 0) (hb : ¬ ((0 ≤ x ∧ x < 12) ∧ 0 ≤ y ∧ y < 12)) (kk : KK p l e s m args below meth c Q D cI cJ b h g a3 i (k + 1) (n + 6)) : Zs p l e room_1 s m args below meth c Q (Av s) D 9 288 (lwL b h g a3 i) [] (lwW cI cJ h g a3 o σ LT γ φ LI BR γ2 φ2 θ) k n := by
  refine z_aload_n C 1 dL_law_288 rfl ?_
  refine z_aload_n C 0 dL_law_289 rfl ?_
  refine z_iload C 4 dL_law_290 rfl ?_
  refine z_iconst C dL_law_292 ?_
  refine z_iadd C dL_law_293 ?_
  refine z_sldv C hX9 hbl (Nat.not_le.mpr hbl) hL2 (by omega) e1 dL_law_294 ?_
  refine z_aload_n C 0 dL_law_295 rfl ?_
  refine z_iload C 4 dL_law_296 rfl ?_
  refine z_iconst C dL_law_298 ?_
  refine z_iadd C dL_law_299 ?_
  refine z_sldv C hX9 hbl (Nat.not_le.mpr hbl) hL2 (by omega) e2 dL_law_300 ?_
  refine z_aload_n C 0 dL_law_301 rfl ?_
  refine z_iload C 4 dL_law_302 rfl ?_
  refine z_iconst C dL_law_304 ?_
  refine z_iadd C dL_law_305 ?_
  refine z_sldv C hX9 hbl (Nat.not_le.mpr hbl) hL2 (by omega) e3 dL_law_306 ?_
  refine z_aload_n C 3 dL_law_307 rfl ?_
  refine z_callW C hX hW9 (As := [.ref (h 0), vI kl, vI x, vI y, .ref a3]) (st := []) (y := yL_carry) (w := wsL_carry) (rm := rxL_carry) (wr := mx cI g σ LI BR γ2 φ2 θ) (k' := (k + 1)) (n' := (n + 6)) [0, 1, 2, 3, 4, 5, 6, 7, 8, 9] [10, 11, 12, 13, 14, 15, 16, 17, 18] (wbx_L_carry l D cI cJ h σ LT γ φ kl x y ⟨r1, r2, r3⟩ hO hk hb a3 o) (vx_cwSW 5 C.1.2.2.2.2 gL_law_L_carry rfl rfl rfl (by decide +kernel) ⟨Nat.le_of_ble_eq_true rfl, Nat.le_of_ble_eq_true rfl⟩) rfl rfl rfl rfl rfl (by decide) rfl rfl (Nat.le_of_ble_eq_true rfl) rfl rfl ⟨hk9, hn9⟩ dL_law_308 ?_
  rintro z5 _ ⟨rfl, rfl⟩
  refine z_wsub (ws' := (lwW cI cJ h g a3 o σ LT γ φ LI BR γ2 φ2 θ)) [9, 10, 11, 12, 13, 14, 15, 16, 17, 18, 0, 1, 2, 3, 4, 5, 6, 7, 8] rfl rfl rfl ?_
  refine z_istore C [(5, vI 1), (0, .ref b), (1, .ref (h 0)), (2, .ref (g 0)), (3, .ref a3), (4, vI (i : Int))] dL_law_311 (by decide) rfl ?_
  refine z_aload_n C 3 dL_law_313 rfl ?_
  refine z_aload_n C 1 dL_law_314 rfl ?_
  refine z_iload C 5 dL_law_315 rfl ?_
  refine z_iconst C dL_law_317 ?_
  refine z_iadd C dL_law_318 ?_
  refine z_sldv C hX9 hbl (Nat.not_le.mpr hbl) hL2 (by omega) e1 dL_law_319 ?_
  refine z_aload_n C 1 dL_law_320 rfl ?_
  refine z_iload C 5 dL_law_321 rfl ?_
  refine z_iconst C dL_law_323 ?_
  refine z_iadd C dL_law_324 ?_
  refine z_sldv C hX9 hbl (Nat.not_le.mpr hbl) hL2 (by omega) e2 dL_law_325 ?_
  refine z_aload_n C 1 dL_law_326 rfl ?_
  refine z_iload C 5 dL_law_327 rfl ?_
  refine z_iconst C dL_law_329 ?_
  refine z_iadd C dL_law_330 ?_
  refine z_sldv C hX9 hbl (Nat.not_le.mpr hbl) hL2 (by omega) e3 dL_law_331 ?_
  refine z_callVi C (As := [vI kl, vI x, vI y]) (st := []) (y := yX2_carry) (w := wsX2_carry) (rm := rm_X2_carry) (wr := ((a3, lo cJ o) :: cw cI h σ LT γ φ)) (k' := (k + 1)) (n' := (n + 6)) [10, 11, 12, 13, 14, 15, 16, 17, 18] [0, 1, 2, 3, 4, 5, 6, 7, 8, 9] 10 (b1_X2_carry l D cI cJ g σ LI BR γ2 φ2 θ kl x y ⟨r1, r2, r3⟩ hO (fun q => hb q.2)) (cwV 3 C.1.2.2.2.2 gL_law_X2_carry rfl rfl rfl (by decide +kernel) ⟨Nat.le_of_ble_eq_true rfl, Nat.le_of_ble_eq_true rfl⟩) rfl rfl rfl rfl rfl (by decide) rfl rfl rfl rfl (Nat.le_of_ble_eq_true rfl) rfl rfl ⟨hk9, hn9⟩ dL_law_332 ?_
  rintro z6 _ ⟨rfl, hz6⟩
  refine z_ws (ws' := (lwW cI cJ h g a3 o σ LT γ φ LI BR γ2 φ2 1)) rfl ?_
  have q6 : rng z6 := by rw [hz6]; decide
  refine z_istore C [(6, vI z6), (5, vI 1), (0, .ref b), (1, .ref (h 0)), (2, .ref (g 0)), (3, .ref a3), (4, vI (i : Int))] dL_law_335 (by decide) rfl ?_
  refine z_aload_n C 4 dL_law_337 rfl ?_
  refine z_callVi C (As := []) (st := []) (y := yX2_thrown) (w := wsX2_thrown) (rm := rm_X2_thrown) (wr := ((a3, lo cJ o) :: cw cI h σ LT γ φ)) (k' := (k + 1)) (n' := (n + 6)) [10, 11, 12, 13, 14, 15, 16, 17, 18] [0, 1, 2, 3, 4, 5, 6, 7, 8, 9] 10 (c_X2_thrown l D cI cJ g σ LI BR γ2 φ2 1) (cwV 0 C.1.2.2.2.2 gL_law_X2_thrown rfl rfl rfl (by decide +kernel) ⟨Nat.le_of_ble_eq_true rfl, Nat.le_of_ble_eq_true rfl⟩) rfl rfl rfl rfl rfl (by decide) rfl rfl rfl rfl (Nat.le_of_ble_eq_true rfl) rfl rfl ⟨hk9, hn9⟩ dL_law_338 ?_
  rintro z7 _ ⟨rfl, rfl⟩
  refine z_ws (ws' := (lwW cI cJ h g a3 o σ LT γ φ LI BR γ2 φ2 1)) rfl ?_
  refine z_iload C 1 dL_law_341 rfl ?_
  refine z_icmp_eq C (tgt := 348) dL_law_343 (by decide) (by omega) (by omega) (fun _ => ?_) (fun c9 => absurd rfl c9)
  refine z_iload C 1 dL_law_348 rfl ?_
  refine z_if_ne C (tgt := 365) dL_law_350 (by decide) (by omega) (fun _ => ?_) (fun c9 => absurd c9 (by decide))
  refine z_goto C (tgt := 1351) dL_law_365 (by decide) ?_
  refine z_sub (lv' := lwL b h g a3 i) [2, 3, 4, 5, 6] rfl ?_
  exact kk _ _ _ _ _ _ _ _ _ _ hO hL hK hI hB

set_option maxHeartbeats 4000000 in
set_option maxRecDepth 100000 in
theorem o3_carry {p : Program} {l : Launch} {e : Env} {s : State} {m : MethodId} {args : Array Value} {below : List Frame} {meth : Method} {c : Code} {Q : State → Prop} {D : va_G} {cI cJ : ClassId} (C : Zc p s m args meth c (Av s) D [(cI, .int), (cJ, .long)] 9 cL_law RL wsL_law (some .boolean)) (hX : ZX l s (Av s)) (hW9 : WX s) {b L : Nat} {xs : Nat → Int32} (hX9 : va_X b L xs s s.heap) (hbl : b < s.heap.size) (hL2 : L ≤ 2048) {h g : Nat → Nat} {a3 i : Nat} (hi : i + 4 ≤ L) {o : Nat → Int64} {σ : YS} {LT : Nat → Int} {γ : YS} {φ : Nat → Int} {LI BR : Nat → Int} {γ2 : YS} {φ2 : Nat → Int} {θ : Int} (hO : Ok σ) (hL : LR LT) (hK : LOk σ LT) (hI : LI4 LI) (hB : BR9 BR) {k n : Nat} (hk9 : k + 1 ≤ room_1.cells) (hn9 : n + 6 ≤ room_1.slots) {kl : Int} (e1 : (xs ((i : Int) + 1).toNat).toInt = kl) (r1 : rng kl) {x : Int} (e2 : (xs ((i : Int) + 2).toNat).toInt = x) (r2 : rng x) {y : Int} (e3 : (xs ((i : Int) + 3).toNat).toInt = y) (r3 : rng y) (hk : 0 ≤ kl ∧ kl < σ 4 0) (hp : ((0 ≤ x ∧ x < 12) ∧ 0 ≤ y ∧ y < 12)) (hb : lampB σ (12 * y + x) = true) (kk : KK p l e s m args below meth c Q D cI cJ b h g a3 i (k + 1) (n + 6)) : Zs p l e room_1 s m args below meth c Q (Av s) D 9 288 (lwL b h g a3 i) [] (lwW cI cJ h g a3 o σ LT γ φ LI BR γ2 φ2 θ) k n := by
  refine z_aload_n C 1 dL_law_288 rfl ?_
  refine z_aload_n C 0 dL_law_289 rfl ?_
  refine z_iload C 4 dL_law_290 rfl ?_
  refine z_iconst C dL_law_292 ?_
  refine z_iadd C dL_law_293 ?_
  refine z_sldv C hX9 hbl (Nat.not_le.mpr hbl) hL2 (by omega) e1 dL_law_294 ?_
  refine z_aload_n C 0 dL_law_295 rfl ?_
  refine z_iload C 4 dL_law_296 rfl ?_
  refine z_iconst C dL_law_298 ?_
  refine z_iadd C dL_law_299 ?_
  refine z_sldv C hX9 hbl (Nat.not_le.mpr hbl) hL2 (by omega) e2 dL_law_300 ?_
  refine z_aload_n C 0 dL_law_301 rfl ?_
  refine z_iload C 4 dL_law_302 rfl ?_
  refine z_iconst C dL_law_304 ?_
  refine z_iadd C dL_law_305 ?_
  refine z_sldv C hX9 hbl (Nat.not_le.mpr hbl) hL2 (by omega) e3 dL_law_306 ?_
  refine z_aload_n C 3 dL_law_307 rfl ?_
  refine z_callW C hX hW9 (As := [.ref (h 0), vI kl, vI x, vI y, .ref a3]) (st := []) (y := yL_carry) (w := wsL_carry) (rm := rxL_carry) (wr := mx cI g σ LI BR γ2 φ2 θ) (k' := (k + 1)) (n' := (n + 6)) [0, 1, 2, 3, 4, 5, 6, 7, 8, 9] [10, 11, 12, 13, 14, 15, 16, 17, 18] (wcx_L_carry l D cI cJ h σ LT γ φ kl x y ⟨r1, r2, r3⟩ hO hk hp hb a3 o) (vx_cwSW 5 C.1.2.2.2.2 gL_law_L_carry rfl rfl rfl (by decide +kernel) ⟨Nat.le_of_ble_eq_true rfl, Nat.le_of_ble_eq_true rfl⟩) rfl rfl rfl rfl rfl (by decide) rfl rfl (Nat.le_of_ble_eq_true rfl) rfl rfl ⟨hk9, hn9⟩ dL_law_308 ?_
  rintro z5 _ ⟨rfl, rfl⟩
  refine z_wsub (ws' := (lwW cI cJ h g a3 o σ LT γ φ LI BR γ2 φ2 θ)) [9, 10, 11, 12, 13, 14, 15, 16, 17, 18, 0, 1, 2, 3, 4, 5, 6, 7, 8] rfl rfl rfl ?_
  refine z_istore C [(5, vI 2), (0, .ref b), (1, .ref (h 0)), (2, .ref (g 0)), (3, .ref a3), (4, vI (i : Int))] dL_law_311 (by decide) rfl ?_
  refine z_aload_n C 3 dL_law_313 rfl ?_
  refine z_aload_n C 1 dL_law_314 rfl ?_
  refine z_iload C 5 dL_law_315 rfl ?_
  refine z_iconst C dL_law_317 ?_
  refine z_iadd C dL_law_318 ?_
  refine z_sldv C hX9 hbl (Nat.not_le.mpr hbl) hL2 (by omega) e1 dL_law_319 ?_
  refine z_aload_n C 1 dL_law_320 rfl ?_
  refine z_iload C 5 dL_law_321 rfl ?_
  refine z_iconst C dL_law_323 ?_
  refine z_iadd C dL_law_324 ?_
  refine z_sldv C hX9 hbl (Nat.not_le.mpr hbl) hL2 (by omega) e2 dL_law_325 ?_
  refine z_aload_n C 1 dL_law_326 rfl ?_
  refine z_iload C 5 dL_law_327 rfl ?_
  refine z_iconst C dL_law_329 ?_
  refine z_iadd C dL_law_330 ?_
  refine z_sldv C hX9 hbl (Nat.not_le.mpr hbl) hL2 (by omega) e3 dL_law_331 ?_
  refine z_callVi C (As := [vI kl, vI x, vI y]) (st := []) (y := yX2_carry) (w := wsX2_carry) (rm := rm_X2_carry) (wr := ((a3, lo cJ o) :: cw cI h σ LT γ φ)) (k' := (k + 1)) (n' := (n + 6)) [10, 11, 12, 13, 14, 15, 16, 17, 18] [0, 1, 2, 3, 4, 5, 6, 7, 8, 9] 10 (b2_X2_carry l D cI cJ g σ LI BR γ2 φ2 θ kl x y ⟨r1, r2, r3⟩ hO ⟨⟨hk, hp⟩, hb⟩) (cwV 3 C.1.2.2.2.2 gL_law_X2_carry rfl rfl rfl (by decide +kernel) ⟨Nat.le_of_ble_eq_true rfl, Nat.le_of_ble_eq_true rfl⟩) rfl rfl rfl rfl rfl (by decide) rfl rfl rfl rfl (Nat.le_of_ble_eq_true rfl) rfl rfl ⟨hk9, hn9⟩ dL_law_332 ?_
  rintro z6 _ ⟨rfl, hz6⟩
  refine z_ws (ws' := (lwW cI cJ h g a3 o σ LT γ φ LI BR γ2 φ2 2)) rfl ?_
  have q6 : rng z6 := by rw [hz6]; decide
  refine z_istore C [(6, vI z6), (5, vI 2), (0, .ref b), (1, .ref (h 0)), (2, .ref (g 0)), (3, .ref a3), (4, vI (i : Int))] dL_law_335 (by decide) rfl ?_
  refine z_aload_n C 4 dL_law_337 rfl ?_
  refine z_callVi C (As := []) (st := []) (y := yX2_thrown) (w := wsX2_thrown) (rm := rm_X2_thrown) (wr := ((a3, lo cJ o) :: cw cI h σ LT γ φ)) (k' := (k + 1)) (n' := (n + 6)) [10, 11, 12, 13, 14, 15, 16, 17, 18] [0, 1, 2, 3, 4, 5, 6, 7, 8, 9] 10 (c_X2_thrown l D cI cJ g σ LI BR γ2 φ2 2) (cwV 0 C.1.2.2.2.2 gL_law_X2_thrown rfl rfl rfl (by decide +kernel) ⟨Nat.le_of_ble_eq_true rfl, Nat.le_of_ble_eq_true rfl⟩) rfl rfl rfl rfl rfl (by decide) rfl rfl rfl rfl (Nat.le_of_ble_eq_true rfl) rfl rfl ⟨hk9, hn9⟩ dL_law_338 ?_
  rintro z7 _ ⟨rfl, rfl⟩
  refine z_ws (ws' := (lwW cI cJ h g a3 o σ LT γ φ LI BR γ2 φ2 2)) rfl ?_
  refine z_iload C 1 dL_law_341 rfl ?_
  refine z_icmp_eq C (tgt := 348) dL_law_343 (by decide) (by omega) (by omega) (fun _ => ?_) (fun c9 => absurd rfl c9)
  refine z_iload C 1 dL_law_348 rfl ?_
  refine z_if_ne C (tgt := 365) dL_law_350 (by decide) (by omega) (fun _ => ?_) (fun c9 => absurd c9 (by decide))
  refine z_goto C (tgt := 1351) dL_law_365 (by decide) ?_
  refine z_sub (lv' := lwL b h g a3 i) [2, 3, 4, 5, 6] rfl ?_
  exact kk _ _ _ _ _ _ _ _ _ _ hO hL hK hI hB

set_option maxHeartbeats 4000000 in
set_option maxRecDepth 100000 in
theorem o0_turn {p : Program} {l : Launch} {e : Env} {s : State} {m : MethodId} {args : Array Value} {below : List Frame} {meth : Method} {c : Code} {Q : State → Prop} {D : va_G} {cI cJ : ClassId} (C : Zc p s m args meth c (Av s) D [(cI, .int), (cJ, .long)] 9 cL_law RL wsL_law (some .boolean)) (hX : ZX l s (Av s)) (hW9 : WX s) {b L : Nat} {xs : Nat → Int32} (hX9 : va_X b L xs s s.heap) (hbl : b < s.heap.size) (hL2 : L ≤ 2048) {h g : Nat → Nat} {a3 i : Nat} (hi : i + 4 ≤ L) {o : Nat → Int64} {σ : YS} {LT : Nat → Int} {γ : YS} {φ : Nat → Int} {LI BR : Nat → Int} {γ2 : YS} {φ2 : Nat → Int} {θ : Int} (hO : Ok σ) (hL : LR LT) (hK : LOk σ LT) (hI : LI4 LI) (hB : BR9 BR) {k n : Nat} (hk9 : k + 1 ≤ room_1.cells) (hn9 : n + 6 ≤ room_1.slots) {kl : Int} (e1 : (xs ((i : Int) + 1).toNat).toInt = kl) (r1 : rng kl) {r : Int} (e2 : (xs ((i : Int) + 2).toNat).toInt = r) (r2 : rng r) (hk : 0 ≤ kl ∧ kl < σ 4 0) (hr : 1 ≤ r ∧ r < 13) (kk : KK p l e s m args below meth c Q D cI cJ b h g a3 i (k + 1) (n + 6)) : Zs p l e room_1 s m args below meth c Q (Av s) D 9 368 (lwL b h g a3 i) [] (lwW cI cJ h g a3 o σ LT γ φ LI BR γ2 φ2 θ) k n := by
  refine z_aload_n C 1 dL_law_368 rfl ?_
  refine z_aload_n C 0 dL_law_369 rfl ?_
  refine z_iload C 4 dL_law_370 rfl ?_
  refine z_iconst C dL_law_372 ?_
  refine z_iadd C dL_law_373 ?_
  refine z_sldv C hX9 hbl (Nat.not_le.mpr hbl) hL2 (by omega) e1 dL_law_374 ?_
  refine z_aload_n C 0 dL_law_375 rfl ?_
  refine z_iload C 4 dL_law_376 rfl ?_
  refine z_iconst C dL_law_378 ?_
  refine z_iadd C dL_law_379 ?_
  refine z_sldv C hX9 hbl (Nat.not_le.mpr hbl) hL2 (by omega) e2 dL_law_380 ?_
  refine z_aload_n C 3 dL_law_381 rfl ?_
  refine z_callW C hX hW9 (As := [.ref (h 0), vI kl, vI r, .ref a3]) (st := []) (y := yL_turn) (w := wsL_turn) (rm := rmL_turn) (wr := mx cI g σ LI BR γ2 φ2 θ) (k' := k) (n' := n) [0, 1, 2, 3, 4, 5, 6, 7, 8, 9] [10, 11, 12, 13, 14, 15, 16, 17, 18] (w_L_turn l D cI cJ h σ LT γ φ kl r hk hr hO hL a3 o) (vx_cwSW 4 C.1.2.2.2.2 gL_law_L_turn rfl rfl rfl (by decide +kernel) ⟨Nat.le_of_ble_eq_true rfl, Nat.le_of_ble_eq_true rfl⟩) rfl rfl rfl rfl rfl (by decide) rfl rfl (Nat.le_of_ble_eq_true rfl) rfl rfl ⟨Nat.le_trans (Nat.le_add_right _ _) hk9, Nat.le_trans (Nat.le_add_right _ _) hn9⟩ dL_law_382 ?_
  rintro z5 _ ⟨f', φ', rfl, rfl, hf⟩
  refine z_wsub (ws' := ((a3, lo cJ f') :: (cw cI h (sU σ 2 kl.toNat r) (shL (sU σ 2 kl.toNat r) LT kl.toNat 144) γ φ' ++ mx cI g σ LI BR γ2 φ2 θ))) [9, 10, 11, 12, 13, 14, 15, 16, 17, 18, 0, 1, 2, 3, 4, 5, 6, 7, 8] rfl rfl rfl ?_
  refine z_istore C [(5, vI 0), (0, .ref b), (1, .ref (h 0)), (2, .ref (g 0)), (3, .ref a3), (4, vI (i : Int))] dL_law_385 (by decide) rfl ?_
  refine z_aload_n C 3 dL_law_387 rfl ?_
  refine z_aload_n C 1 dL_law_388 rfl ?_
  refine z_iload C 5 dL_law_389 rfl ?_
  refine z_iconst C dL_law_391 ?_
  refine z_iadd C dL_law_392 ?_
  refine z_sldv C hX9 hbl (Nat.not_le.mpr hbl) hL2 (by omega) e1 dL_law_393 ?_
  refine z_aload_n C 1 dL_law_394 rfl ?_
  refine z_iload C 5 dL_law_395 rfl ?_
  refine z_iconst C dL_law_397 ?_
  refine z_iadd C dL_law_398 ?_
  refine z_sldv C hX9 hbl (Nat.not_le.mpr hbl) hL2 (by omega) e2 dL_law_399 ?_
  refine z_callVi C (As := [vI kl, vI r]) (st := []) (y := yX2_turn) (w := wsX2_turn) (rm := rm_X2_turn) (wr := ((a3, lo cJ f') :: cw cI h (sU σ 2 kl.toNat r) (shL (sU σ 2 kl.toNat r) LT kl.toNat 144) γ φ')) (k' := k) (n' := n) [10, 11, 12, 13, 14, 15, 16, 17, 18] [0, 1, 2, 3, 4, 5, 6, 7, 8, 9] 10 (c_X2_turn l D cI cJ g σ LI BR γ2 φ2 θ kl r hk hr hO hI) (cwV 2 C.1.2.2.2.2 gL_law_X2_turn rfl rfl rfl (by decide +kernel) ⟨Nat.le_of_ble_eq_true rfl, Nat.le_of_ble_eq_true rfl⟩) rfl rfl rfl rfl rfl (by decide) rfl rfl rfl rfl (Nat.le_of_ble_eq_true rfl) rfl rfl ⟨Nat.le_trans (Nat.le_add_right _ _) hk9, Nat.le_trans (Nat.le_add_right _ _) hn9⟩ dL_law_400 ?_
  rintro z6 _ ⟨rfl, hz6⟩
  refine z_ws (ws' := (lwW cI cJ h g a3 f' (sU σ 2 kl.toNat r) (shL (sU σ 2 kl.toNat r) LT kl.toNat 144) γ φ' LI BR γ2 φ2 0)) rfl ?_
  refine z_istore C [(6, vI z6), (5, vI 0), (0, .ref b), (1, .ref (h 0)), (2, .ref (g 0)), (3, .ref a3), (4, vI (i : Int))] dL_law_403 (by decide) rfl ?_
  refine z_aload_n C 4 dL_law_405 rfl ?_
  refine z_callVi C (As := []) (st := []) (y := yX2_thrown) (w := wsX2_thrown) (rm := rm_X2_thrown) (wr := ((a3, lo cJ f') :: cw cI h (sU σ 2 kl.toNat r) (shL (sU σ 2 kl.toNat r) LT kl.toNat 144) γ φ')) (k' := k) (n' := n) [10, 11, 12, 13, 14, 15, 16, 17, 18] [0, 1, 2, 3, 4, 5, 6, 7, 8, 9] 10 (c_X2_thrown l D cI cJ g (sU σ 2 kl.toNat r) LI BR γ2 φ2 0) (cwV 0 C.1.2.2.2.2 gL_law_X2_thrown rfl rfl rfl (by decide +kernel) ⟨Nat.le_of_ble_eq_true rfl, Nat.le_of_ble_eq_true rfl⟩) rfl rfl rfl rfl rfl (by decide) rfl rfl rfl rfl (Nat.le_of_ble_eq_true rfl) rfl rfl ⟨Nat.le_trans (Nat.le_add_right _ _) hk9, Nat.le_trans (Nat.le_add_right _ _) hn9⟩ dL_law_406 ?_
  rintro z7 _ ⟨rfl, rfl⟩
  refine z_ws (ws' := (lwW cI cJ h g a3 f' (sU σ 2 kl.toNat r) (shL (sU σ 2 kl.toNat r) LT kl.toNat 144) γ φ' LI BR γ2 φ2 0)) rfl ?_
  refine z_iload C 1 dL_law_409 rfl ?_
  refine z_icmp_eq C (tgt := 416) dL_law_411 (by decide) (by omega) (by omega) (fun _ => ?_) (fun c9 => absurd rfl c9)
  refine z_iload C 1 dL_law_416 rfl ?_
  refine z_if_ne C (tgt := 433) dL_law_418 (by decide) (by omega) (fun c9 => absurd rfl c9) (fun _ => ?_)
  refine z_aload_n C 5 dL_law_421 rfl ?_
  refine z_iconst C dL_law_422 ?_
  refine z_lald C 0 1 rfl rfl dL_law_423 ?_
  refine z_iload C 0 dL_law_424 rfl ?_
  refine z_i2l C dL_law_426 ?_
  refine z_lcmpE C (show f' 0 = (iI z6).toInt64 from (by rw [hf, hz6])) dL_law_427 ?_
  refine z_if_eq C (tgt := 433) dL_law_428 (by decide) (by omega) (fun _ => ?_) (fun c9 => absurd rfl c9)
  refine z_goto C (tgt := 1351) dL_law_433 (by decide) ?_
  refine z_sub (lv' := lwL b h g a3 i) [2, 3, 4, 5, 6] rfl ?_
  refine z_widen (k' := k + 1) (n' := n + 6) (Nat.le_add_right _ _) (Nat.le_add_right _ _) ?_
  exact kk _ _ _ _ _ _ _ _ _ _ (Ok_reach hO hr) (LR_shL (by have := hO.1; omega) hL) (LOk_turn hO hL hK hk) hI hB

set_option maxHeartbeats 4000000 in
set_option maxRecDepth 100000 in
theorem o1_turn {p : Program} {l : Launch} {e : Env} {s : State} {m : MethodId} {args : Array Value} {below : List Frame} {meth : Method} {c : Code} {Q : State → Prop} {D : va_G} {cI cJ : ClassId} (C : Zc p s m args meth c (Av s) D [(cI, .int), (cJ, .long)] 9 cL_law RL wsL_law (some .boolean)) (hX : ZX l s (Av s)) (hW9 : WX s) {b L : Nat} {xs : Nat → Int32} (hX9 : va_X b L xs s s.heap) (hbl : b < s.heap.size) (hL2 : L ≤ 2048) {h g : Nat → Nat} {a3 i : Nat} (hi : i + 4 ≤ L) {o : Nat → Int64} {σ : YS} {LT : Nat → Int} {γ : YS} {φ : Nat → Int} {LI BR : Nat → Int} {γ2 : YS} {φ2 : Nat → Int} {θ : Int} (hO : Ok σ) (hL : LR LT) (hK : LOk σ LT) (hI : LI4 LI) (hB : BR9 BR) {k n : Nat} (hk9 : k + 1 ≤ room_1.cells) (hn9 : n + 6 ≤ room_1.slots) {kl : Int} (e1 : (xs ((i : Int) + 1).toNat).toInt = kl) (r1 : rng kl) {r : Int} (e2 : (xs ((i : Int) + 2).toNat).toInt = r) (r2 : rng r) (hb : ¬ (0 ≤ kl ∧ kl < σ 4 0)) (kk : KK p l e s m args below meth c Q D cI cJ b h g a3 i (k + 1) (n + 6)) : Zs p l e room_1 s m args below meth c Q (Av s) D 9 368 (lwL b h g a3 i) [] (lwW cI cJ h g a3 o σ LT γ φ LI BR γ2 φ2 θ) k n := by
  refine z_aload_n C 1 dL_law_368 rfl ?_
  refine z_aload_n C 0 dL_law_369 rfl ?_
  refine z_iload C 4 dL_law_370 rfl ?_
  refine z_iconst C dL_law_372 ?_
  refine z_iadd C dL_law_373 ?_
  refine z_sldv C hX9 hbl (Nat.not_le.mpr hbl) hL2 (by omega) e1 dL_law_374 ?_
  refine z_aload_n C 0 dL_law_375 rfl ?_
  refine z_iload C 4 dL_law_376 rfl ?_
  refine z_iconst C dL_law_378 ?_
  refine z_iadd C dL_law_379 ?_
  refine z_sldv C hX9 hbl (Nat.not_le.mpr hbl) hL2 (by omega) e2 dL_law_380 ?_
  refine z_aload_n C 3 dL_law_381 rfl ?_
  refine z_callW C hX hW9 (As := [.ref (h 0), vI kl, vI r, .ref a3]) (st := []) (y := yL_turn) (w := wsL_turn) (rm := rxL_turn) (wr := mx cI g σ LI BR γ2 φ2 θ) (k' := (k + 1)) (n' := (n + 6)) [0, 1, 2, 3, 4, 5, 6, 7, 8, 9] [10, 11, 12, 13, 14, 15, 16, 17, 18] (wx_L_turn l D cI cJ h σ LT γ φ kl r ⟨r1, r2⟩ hO hb a3 o) (vx_cwSW 4 C.1.2.2.2.2 gL_law_L_turn rfl rfl rfl (by decide +kernel) ⟨Nat.le_of_ble_eq_true rfl, Nat.le_of_ble_eq_true rfl⟩) rfl rfl rfl rfl rfl (by decide) rfl rfl (Nat.le_of_ble_eq_true rfl) rfl rfl ⟨hk9, hn9⟩ dL_law_382 ?_
  rintro z5 _ ⟨rfl, rfl⟩
  refine z_wsub (ws' := (lwW cI cJ h g a3 o σ LT γ φ LI BR γ2 φ2 θ)) [9, 10, 11, 12, 13, 14, 15, 16, 17, 18, 0, 1, 2, 3, 4, 5, 6, 7, 8] rfl rfl rfl ?_
  refine z_istore C [(5, vI 1), (0, .ref b), (1, .ref (h 0)), (2, .ref (g 0)), (3, .ref a3), (4, vI (i : Int))] dL_law_385 (by decide) rfl ?_
  refine z_aload_n C 3 dL_law_387 rfl ?_
  refine z_aload_n C 1 dL_law_388 rfl ?_
  refine z_iload C 5 dL_law_389 rfl ?_
  refine z_iconst C dL_law_391 ?_
  refine z_iadd C dL_law_392 ?_
  refine z_sldv C hX9 hbl (Nat.not_le.mpr hbl) hL2 (by omega) e1 dL_law_393 ?_
  refine z_aload_n C 1 dL_law_394 rfl ?_
  refine z_iload C 5 dL_law_395 rfl ?_
  refine z_iconst C dL_law_397 ?_
  refine z_iadd C dL_law_398 ?_
  refine z_sldv C hX9 hbl (Nat.not_le.mpr hbl) hL2 (by omega) e2 dL_law_399 ?_
  refine z_callVi C (As := [vI kl, vI r]) (st := []) (y := yX2_turn) (w := wsX2_turn) (rm := rm_X2_turn) (wr := ((a3, lo cJ o) :: cw cI h σ LT γ φ)) (k' := (k + 1)) (n' := (n + 6)) [10, 11, 12, 13, 14, 15, 16, 17, 18] [0, 1, 2, 3, 4, 5, 6, 7, 8, 9] 10 (b1_X2_turn l D cI cJ g σ LI BR γ2 φ2 θ kl r ⟨r1, r2⟩ hO hb) (cwV 2 C.1.2.2.2.2 gL_law_X2_turn rfl rfl rfl (by decide +kernel) ⟨Nat.le_of_ble_eq_true rfl, Nat.le_of_ble_eq_true rfl⟩) rfl rfl rfl rfl rfl (by decide) rfl rfl rfl rfl (Nat.le_of_ble_eq_true rfl) rfl rfl ⟨hk9, hn9⟩ dL_law_400 ?_
  rintro z6 _ ⟨rfl, hz6⟩
  refine z_ws (ws' := (lwW cI cJ h g a3 o σ LT γ φ LI BR γ2 φ2 1)) rfl ?_
  have q6 : rng z6 := by rw [hz6]; decide
  refine z_istore C [(6, vI z6), (5, vI 1), (0, .ref b), (1, .ref (h 0)), (2, .ref (g 0)), (3, .ref a3), (4, vI (i : Int))] dL_law_403 (by decide) rfl ?_
  refine z_aload_n C 4 dL_law_405 rfl ?_
  refine z_callVi C (As := []) (st := []) (y := yX2_thrown) (w := wsX2_thrown) (rm := rm_X2_thrown) (wr := ((a3, lo cJ o) :: cw cI h σ LT γ φ)) (k' := (k + 1)) (n' := (n + 6)) [10, 11, 12, 13, 14, 15, 16, 17, 18] [0, 1, 2, 3, 4, 5, 6, 7, 8, 9] 10 (c_X2_thrown l D cI cJ g σ LI BR γ2 φ2 1) (cwV 0 C.1.2.2.2.2 gL_law_X2_thrown rfl rfl rfl (by decide +kernel) ⟨Nat.le_of_ble_eq_true rfl, Nat.le_of_ble_eq_true rfl⟩) rfl rfl rfl rfl rfl (by decide) rfl rfl rfl rfl (Nat.le_of_ble_eq_true rfl) rfl rfl ⟨hk9, hn9⟩ dL_law_406 ?_
  rintro z7 _ ⟨rfl, rfl⟩
  refine z_ws (ws' := (lwW cI cJ h g a3 o σ LT γ φ LI BR γ2 φ2 1)) rfl ?_
  refine z_iload C 1 dL_law_409 rfl ?_
  refine z_icmp_eq C (tgt := 416) dL_law_411 (by decide) (by omega) (by omega) (fun _ => ?_) (fun c9 => absurd rfl c9)
  refine z_iload C 1 dL_law_416 rfl ?_
  refine z_if_ne C (tgt := 433) dL_law_418 (by decide) (by omega) (fun _ => ?_) (fun c9 => absurd c9 (by decide))
  refine z_goto C (tgt := 1351) dL_law_433 (by decide) ?_
  refine z_sub (lv' := lwL b h g a3 i) [2, 3, 4, 5, 6] rfl ?_
  exact kk _ _ _ _ _ _ _ _ _ _ hO hL hK hI hB

set_option maxHeartbeats 4000000 in
set_option maxRecDepth 100000 in
theorem o2_turn {p : Program} {l : Launch} {e : Env} {s : State} {m : MethodId} {args : Array Value} {below : List Frame} {meth : Method} {c : Code} {Q : State → Prop} {D : va_G} {cI cJ : ClassId} (C : Zc p s m args meth c (Av s) D [(cI, .int), (cJ, .long)] 9 cL_law RL wsL_law (some .boolean)) (hX : ZX l s (Av s)) (hW9 : WX s) {b L : Nat} {xs : Nat → Int32} (hX9 : va_X b L xs s s.heap) (hbl : b < s.heap.size) (hL2 : L ≤ 2048) {h g : Nat → Nat} {a3 i : Nat} (hi : i + 4 ≤ L) {o : Nat → Int64} {σ : YS} {LT : Nat → Int} {γ : YS} {φ : Nat → Int} {LI BR : Nat → Int} {γ2 : YS} {φ2 : Nat → Int} {θ : Int} (hO : Ok σ) (hL : LR LT) (hK : LOk σ LT) (hI : LI4 LI) (hB : BR9 BR) {k n : Nat} (hk9 : k + 1 ≤ room_1.cells) (hn9 : n + 6 ≤ room_1.slots) {kl : Int} (e1 : (xs ((i : Int) + 1).toNat).toInt = kl) (r1 : rng kl) {r : Int} (e2 : (xs ((i : Int) + 2).toNat).toInt = r) (r2 : rng r) (hk : 0 ≤ kl ∧ kl < σ 4 0) (hb : ¬ (1 ≤ r ∧ r < 13)) (kk : KK p l e s m args below meth c Q D cI cJ b h g a3 i (k + 1) (n + 6)) : Zs p l e room_1 s m args below meth c Q (Av s) D 9 368 (lwL b h g a3 i) [] (lwW cI cJ h g a3 o σ LT γ φ LI BR γ2 φ2 θ) k n := by
  refine z_aload_n C 1 dL_law_368 rfl ?_
  refine z_aload_n C 0 dL_law_369 rfl ?_
  refine z_iload C 4 dL_law_370 rfl ?_
  refine z_iconst C dL_law_372 ?_
  refine z_iadd C dL_law_373 ?_
  refine z_sldv C hX9 hbl (Nat.not_le.mpr hbl) hL2 (by omega) e1 dL_law_374 ?_
  refine z_aload_n C 0 dL_law_375 rfl ?_
  refine z_iload C 4 dL_law_376 rfl ?_
  refine z_iconst C dL_law_378 ?_
  refine z_iadd C dL_law_379 ?_
  refine z_sldv C hX9 hbl (Nat.not_le.mpr hbl) hL2 (by omega) e2 dL_law_380 ?_
  refine z_aload_n C 3 dL_law_381 rfl ?_
  refine z_callW C hX hW9 (As := [.ref (h 0), vI kl, vI r, .ref a3]) (st := []) (y := yL_turn) (w := wsL_turn) (rm := rxL_turn) (wr := mx cI g σ LI BR γ2 φ2 θ) (k' := (k + 1)) (n' := (n + 6)) [0, 1, 2, 3, 4, 5, 6, 7, 8, 9] [10, 11, 12, 13, 14, 15, 16, 17, 18] (wbx_L_turn l D cI cJ h σ LT γ φ kl r ⟨r1, r2⟩ hO hk hb a3 o) (vx_cwSW 4 C.1.2.2.2.2 gL_law_L_turn rfl rfl rfl (by decide +kernel) ⟨Nat.le_of_ble_eq_true rfl, Nat.le_of_ble_eq_true rfl⟩) rfl rfl rfl rfl rfl (by decide) rfl rfl (Nat.le_of_ble_eq_true rfl) rfl rfl ⟨hk9, hn9⟩ dL_law_382 ?_
  rintro z5 _ ⟨rfl, rfl⟩
  refine z_wsub (ws' := (lwW cI cJ h g a3 o σ LT γ φ LI BR γ2 φ2 θ)) [9, 10, 11, 12, 13, 14, 15, 16, 17, 18, 0, 1, 2, 3, 4, 5, 6, 7, 8] rfl rfl rfl ?_
  refine z_istore C [(5, vI 2), (0, .ref b), (1, .ref (h 0)), (2, .ref (g 0)), (3, .ref a3), (4, vI (i : Int))] dL_law_385 (by decide) rfl ?_
  refine z_aload_n C 3 dL_law_387 rfl ?_
  refine z_aload_n C 1 dL_law_388 rfl ?_
  refine z_iload C 5 dL_law_389 rfl ?_
  refine z_iconst C dL_law_391 ?_
  refine z_iadd C dL_law_392 ?_
  refine z_sldv C hX9 hbl (Nat.not_le.mpr hbl) hL2 (by omega) e1 dL_law_393 ?_
  refine z_aload_n C 1 dL_law_394 rfl ?_
  refine z_iload C 5 dL_law_395 rfl ?_
  refine z_iconst C dL_law_397 ?_
  refine z_iadd C dL_law_398 ?_
  refine z_sldv C hX9 hbl (Nat.not_le.mpr hbl) hL2 (by omega) e2 dL_law_399 ?_
  refine z_callVi C (As := [vI kl, vI r]) (st := []) (y := yX2_turn) (w := wsX2_turn) (rm := rm_X2_turn) (wr := ((a3, lo cJ o) :: cw cI h σ LT γ φ)) (k' := (k + 1)) (n' := (n + 6)) [10, 11, 12, 13, 14, 15, 16, 17, 18] [0, 1, 2, 3, 4, 5, 6, 7, 8, 9] 10 (b2_X2_turn l D cI cJ g σ LI BR γ2 φ2 θ kl r ⟨r1, r2⟩ hO ⟨hk, hb⟩) (cwV 2 C.1.2.2.2.2 gL_law_X2_turn rfl rfl rfl (by decide +kernel) ⟨Nat.le_of_ble_eq_true rfl, Nat.le_of_ble_eq_true rfl⟩) rfl rfl rfl rfl rfl (by decide) rfl rfl rfl rfl (Nat.le_of_ble_eq_true rfl) rfl rfl ⟨hk9, hn9⟩ dL_law_400 ?_
  rintro z6 _ ⟨rfl, hz6⟩
  refine z_ws (ws' := (lwW cI cJ h g a3 o σ LT γ φ LI BR γ2 φ2 2)) rfl ?_
  have q6 : rng z6 := by rw [hz6]; decide
  refine z_istore C [(6, vI z6), (5, vI 2), (0, .ref b), (1, .ref (h 0)), (2, .ref (g 0)), (3, .ref a3), (4, vI (i : Int))] dL_law_403 (by decide) rfl ?_
  refine z_aload_n C 4 dL_law_405 rfl ?_
  refine z_callVi C (As := []) (st := []) (y := yX2_thrown) (w := wsX2_thrown) (rm := rm_X2_thrown) (wr := ((a3, lo cJ o) :: cw cI h σ LT γ φ)) (k' := (k + 1)) (n' := (n + 6)) [10, 11, 12, 13, 14, 15, 16, 17, 18] [0, 1, 2, 3, 4, 5, 6, 7, 8, 9] 10 (c_X2_thrown l D cI cJ g σ LI BR γ2 φ2 2) (cwV 0 C.1.2.2.2.2 gL_law_X2_thrown rfl rfl rfl (by decide +kernel) ⟨Nat.le_of_ble_eq_true rfl, Nat.le_of_ble_eq_true rfl⟩) rfl rfl rfl rfl rfl (by decide) rfl rfl rfl rfl (Nat.le_of_ble_eq_true rfl) rfl rfl ⟨hk9, hn9⟩ dL_law_406 ?_
  rintro z7 _ ⟨rfl, rfl⟩
  refine z_ws (ws' := (lwW cI cJ h g a3 o σ LT γ φ LI BR γ2 φ2 2)) rfl ?_
  refine z_iload C 1 dL_law_409 rfl ?_
  refine z_icmp_eq C (tgt := 416) dL_law_411 (by decide) (by omega) (by omega) (fun _ => ?_) (fun c9 => absurd rfl c9)
  refine z_iload C 1 dL_law_416 rfl ?_
  refine z_if_ne C (tgt := 433) dL_law_418 (by decide) (by omega) (fun _ => ?_) (fun c9 => absurd c9 (by decide))
  refine z_goto C (tgt := 1351) dL_law_433 (by decide) ?_
  refine z_sub (lv' := lwL b h g a3 i) [2, 3, 4, 5, 6] rfl ?_
  exact kk _ _ _ _ _ _ _ _ _ _ hO hL hK hI hB

set_option maxHeartbeats 4000000 in
set_option maxRecDepth 100000 in
theorem o0_watcher {p : Program} {l : Launch} {e : Env} {s : State} {m : MethodId} {args : Array Value} {below : List Frame} {meth : Method} {c : Code} {Q : State → Prop} {D : va_G} {cI cJ : ClassId} (C : Zc p s m args meth c (Av s) D [(cI, .int), (cJ, .long)] 9 cL_law RL wsL_law (some .boolean)) (hX : ZX l s (Av s)) (hW9 : WX s) {b L : Nat} {xs : Nat → Int32} (hX9 : va_X b L xs s s.heap) (hbl : b < s.heap.size) (hL2 : L ≤ 2048) {h g : Nat → Nat} {a3 i : Nat} (hi : i + 4 ≤ L) {o : Nat → Int64} {σ : YS} {LT : Nat → Int} {γ : YS} {φ : Nat → Int} {LI BR : Nat → Int} {γ2 : YS} {φ2 : Nat → Int} {θ : Int} (hO : Ok σ) (hL : LR LT) (hK : LOk σ LT) (hI : LI4 LI) (hB : BR9 BR) {k n : Nat} (hk9 : k + 1 ≤ room_1.cells) (hn9 : n + 6 ≤ room_1.slots) {x : Int} (e1 : (xs ((i : Int) + 1).toNat).toInt = x) (r1 : rng x) {y : Int} (e2 : (xs ((i : Int) + 2).toNat).toInt = y) (r2 : rng y) (hx : 0 ≤ x ∧ x < 12) (hy : 0 ≤ y ∧ y < 12) (h6 : σ 4 1 < 6) (h0 : σ 0 (12 * y + x).toNat = 0) (kk : KK p l e s m args below meth c Q D cI cJ b h g a3 i (k + 1) (n + 6)) : Zs p l e room_1 s m args below meth c Q (Av s) D 9 436 (lwL b h g a3 i) [] (lwW cI cJ h g a3 o σ LT γ φ LI BR γ2 φ2 θ) k n := by
  refine z_aload_n C 1 dL_law_436 rfl ?_
  refine z_aload_n C 0 dL_law_437 rfl ?_
  refine z_iload C 4 dL_law_438 rfl ?_
  refine z_iconst C dL_law_440 ?_
  refine z_iadd C dL_law_441 ?_
  refine z_sldv C hX9 hbl (Nat.not_le.mpr hbl) hL2 (by omega) e1 dL_law_442 ?_
  refine z_aload_n C 0 dL_law_443 rfl ?_
  refine z_iload C 4 dL_law_444 rfl ?_
  refine z_iconst C dL_law_446 ?_
  refine z_iadd C dL_law_447 ?_
  refine z_sldv C hX9 hbl (Nat.not_le.mpr hbl) hL2 (by omega) e2 dL_law_448 ?_
  refine z_aload_n C 3 dL_law_449 rfl ?_
  refine z_callW C hX hW9 (As := [.ref (h 0), vI x, vI y, .ref a3]) (st := []) (y := yL_watcher) (w := wsL_watcher) (rm := rmL_watcher) (wr := mx cI g σ LI BR γ2 φ2 θ) (k' := k) (n' := n) [0, 1, 2, 3, 4, 5, 6, 7, 8, 9] [10, 11, 12, 13, 14, 15, 16, 17, 18] (w_L_watcher l D cI cJ h σ LT γ φ x y hx hy h6 h0 hO a3 o) (vx_cwSW 4 C.1.2.2.2.2 gL_law_L_watcher rfl rfl rfl (by decide +kernel) ⟨Nat.le_of_ble_eq_true rfl, Nat.le_of_ble_eq_true rfl⟩) rfl rfl rfl rfl rfl (by decide) rfl rfl (Nat.le_of_ble_eq_true rfl) rfl rfl ⟨Nat.le_trans (Nat.le_add_right _ _) hk9, Nat.le_trans (Nat.le_add_right _ _) hn9⟩ dL_law_450 ?_
  rintro z5 _ ⟨f', rfl, rfl, hf⟩
  refine z_wsub (ws' := ((a3, lo cJ f') :: (cw cI h (sU (sU σ 3 (σ 4 1).toNat (12 * y + x)) 4 1 (σ 4 1 + 1)) LT γ φ ++ mx cI g σ LI BR γ2 φ2 θ))) [9, 10, 11, 12, 13, 14, 15, 16, 17, 18, 0, 1, 2, 3, 4, 5, 6, 7, 8] rfl rfl rfl ?_
  refine z_istore C [(5, vI 0), (0, .ref b), (1, .ref (h 0)), (2, .ref (g 0)), (3, .ref a3), (4, vI (i : Int))] dL_law_453 (by decide) rfl ?_
  refine z_aload_n C 3 dL_law_455 rfl ?_
  refine z_aload_n C 1 dL_law_456 rfl ?_
  refine z_iload C 5 dL_law_457 rfl ?_
  refine z_iconst C dL_law_459 ?_
  refine z_iadd C dL_law_460 ?_
  refine z_sldv C hX9 hbl (Nat.not_le.mpr hbl) hL2 (by omega) e1 dL_law_461 ?_
  refine z_aload_n C 1 dL_law_462 rfl ?_
  refine z_iload C 5 dL_law_463 rfl ?_
  refine z_iconst C dL_law_465 ?_
  refine z_iadd C dL_law_466 ?_
  refine z_sldv C hX9 hbl (Nat.not_le.mpr hbl) hL2 (by omega) e2 dL_law_467 ?_
  refine z_callVi C (As := [vI x, vI y]) (st := []) (y := yX2_watcher) (w := wsX2_watcher) (rm := rm_X2_watcher) (wr := ((a3, lo cJ f') :: cw cI h (sU (sU σ 3 (σ 4 1).toNat (12 * y + x)) 4 1 (σ 4 1 + 1)) LT γ φ)) (k' := k) (n' := n) [10, 11, 12, 13, 14, 15, 16, 17, 18] [0, 1, 2, 3, 4, 5, 6, 7, 8, 9] 10 (c_X2_watcher l D cI cJ g σ LI BR γ2 φ2 θ x y hx hy h6 h0 hO hI) (cwV 2 C.1.2.2.2.2 gL_law_X2_watcher rfl rfl rfl (by decide +kernel) ⟨Nat.le_of_ble_eq_true rfl, Nat.le_of_ble_eq_true rfl⟩) rfl rfl rfl rfl rfl (by decide) rfl rfl rfl rfl (Nat.le_of_ble_eq_true rfl) rfl rfl ⟨Nat.le_trans (Nat.le_add_right _ _) hk9, Nat.le_trans (Nat.le_add_right _ _) hn9⟩ dL_law_468 ?_
  rintro z6 _ ⟨rfl, hz6⟩
  refine z_ws (ws' := (lwW cI cJ h g a3 f' (sU (sU σ 3 (σ 4 1).toNat (12 * y + x)) 4 1 (σ 4 1 + 1)) LT γ φ LI BR γ2 φ2 0)) rfl ?_
  refine z_istore C [(6, vI z6), (5, vI 0), (0, .ref b), (1, .ref (h 0)), (2, .ref (g 0)), (3, .ref a3), (4, vI (i : Int))] dL_law_471 (by decide) rfl ?_
  refine z_aload_n C 4 dL_law_473 rfl ?_
  refine z_callVi C (As := []) (st := []) (y := yX2_thrown) (w := wsX2_thrown) (rm := rm_X2_thrown) (wr := ((a3, lo cJ f') :: cw cI h (sU (sU σ 3 (σ 4 1).toNat (12 * y + x)) 4 1 (σ 4 1 + 1)) LT γ φ)) (k' := k) (n' := n) [10, 11, 12, 13, 14, 15, 16, 17, 18] [0, 1, 2, 3, 4, 5, 6, 7, 8, 9] 10 (c_X2_thrown l D cI cJ g (sU (sU σ 3 (σ 4 1).toNat (12 * y + x)) 4 1 (σ 4 1 + 1)) LI BR γ2 φ2 0) (cwV 0 C.1.2.2.2.2 gL_law_X2_thrown rfl rfl rfl (by decide +kernel) ⟨Nat.le_of_ble_eq_true rfl, Nat.le_of_ble_eq_true rfl⟩) rfl rfl rfl rfl rfl (by decide) rfl rfl rfl rfl (Nat.le_of_ble_eq_true rfl) rfl rfl ⟨Nat.le_trans (Nat.le_add_right _ _) hk9, Nat.le_trans (Nat.le_add_right _ _) hn9⟩ dL_law_474 ?_
  rintro z7 _ ⟨rfl, rfl⟩
  refine z_ws (ws' := (lwW cI cJ h g a3 f' (sU (sU σ 3 (σ 4 1).toNat (12 * y + x)) 4 1 (σ 4 1 + 1)) LT γ φ LI BR γ2 φ2 0)) rfl ?_
  refine z_iload C 1 dL_law_477 rfl ?_
  refine z_icmp_eq C (tgt := 484) dL_law_479 (by decide) (by omega) (by omega) (fun _ => ?_) (fun c9 => absurd rfl c9)
  refine z_iload C 1 dL_law_484 rfl ?_
  refine z_if_ne C (tgt := 501) dL_law_486 (by decide) (by omega) (fun c9 => absurd rfl c9) (fun _ => ?_)
  refine z_aload_n C 5 dL_law_489 rfl ?_
  refine z_iconst C dL_law_490 ?_
  refine z_lald C 0 1 rfl rfl dL_law_491 ?_
  refine z_iload C 0 dL_law_492 rfl ?_
  refine z_i2l C dL_law_494 ?_
  refine z_lcmpE C (show f' 0 = (iI z6).toInt64 from (by rw [hf, hz6])) dL_law_495 ?_
  refine z_if_eq C (tgt := 501) dL_law_496 (by decide) (by omega) (fun _ => ?_) (fun c9 => absurd rfl c9)
  refine z_goto C (tgt := 1351) dL_law_501 (by decide) ?_
  refine z_sub (lv' := lwL b h g a3 i) [2, 3, 4, 5, 6] rfl ?_
  refine z_widen (k' := k + 1) (n' := n + 6) (Nat.le_add_right _ _) (Nat.le_add_right _ _) ?_
  exact kk _ _ _ _ _ _ _ _ _ _ (Ok_watch hO h6 (by omega)) hL (LOk_same hK rfl rfl rfl rfl) hI hB

set_option maxHeartbeats 4000000 in
set_option maxRecDepth 100000 in
theorem o1_watcher {p : Program} {l : Launch} {e : Env} {s : State} {m : MethodId} {args : Array Value} {below : List Frame} {meth : Method} {c : Code} {Q : State → Prop} {D : va_G} {cI cJ : ClassId} (C : Zc p s m args meth c (Av s) D [(cI, .int), (cJ, .long)] 9 cL_law RL wsL_law (some .boolean)) (hX : ZX l s (Av s)) (hW9 : WX s) {b L : Nat} {xs : Nat → Int32} (hX9 : va_X b L xs s s.heap) (hbl : b < s.heap.size) (hL2 : L ≤ 2048) {h g : Nat → Nat} {a3 i : Nat} (hi : i + 4 ≤ L) {o : Nat → Int64} {σ : YS} {LT : Nat → Int} {γ : YS} {φ : Nat → Int} {LI BR : Nat → Int} {γ2 : YS} {φ2 : Nat → Int} {θ : Int} (hO : Ok σ) (hL : LR LT) (hK : LOk σ LT) (hI : LI4 LI) (hB : BR9 BR) {k n : Nat} (hk9 : k + 1 ≤ room_1.cells) (hn9 : n + 6 ≤ room_1.slots) {x : Int} (e1 : (xs ((i : Int) + 1).toNat).toInt = x) (r1 : rng x) {y : Int} (e2 : (xs ((i : Int) + 2).toNat).toInt = y) (r2 : rng y) (hb : ¬ ((0 ≤ x ∧ x < 12) ∧ 0 ≤ y ∧ y < 12)) (kk : KK p l e s m args below meth c Q D cI cJ b h g a3 i (k + 1) (n + 6)) : Zs p l e room_1 s m args below meth c Q (Av s) D 9 436 (lwL b h g a3 i) [] (lwW cI cJ h g a3 o σ LT γ φ LI BR γ2 φ2 θ) k n := by
  refine z_aload_n C 1 dL_law_436 rfl ?_
  refine z_aload_n C 0 dL_law_437 rfl ?_
  refine z_iload C 4 dL_law_438 rfl ?_
  refine z_iconst C dL_law_440 ?_
  refine z_iadd C dL_law_441 ?_
  refine z_sldv C hX9 hbl (Nat.not_le.mpr hbl) hL2 (by omega) e1 dL_law_442 ?_
  refine z_aload_n C 0 dL_law_443 rfl ?_
  refine z_iload C 4 dL_law_444 rfl ?_
  refine z_iconst C dL_law_446 ?_
  refine z_iadd C dL_law_447 ?_
  refine z_sldv C hX9 hbl (Nat.not_le.mpr hbl) hL2 (by omega) e2 dL_law_448 ?_
  refine z_aload_n C 3 dL_law_449 rfl ?_
  refine z_callW C hX hW9 (As := [.ref (h 0), vI x, vI y, .ref a3]) (st := []) (y := yL_watcher) (w := wsL_watcher) (rm := rxL_watcher) (wr := mx cI g σ LI BR γ2 φ2 θ) (k' := (k + 1)) (n' := (n + 6)) [0, 1, 2, 3, 4, 5, 6, 7, 8, 9] [10, 11, 12, 13, 14, 15, 16, 17, 18] (wx_L_watcher l D cI cJ h σ LT γ φ x y ⟨r1, r2⟩ hb a3 o) (vx_cwSW 4 C.1.2.2.2.2 gL_law_L_watcher rfl rfl rfl (by decide +kernel) ⟨Nat.le_of_ble_eq_true rfl, Nat.le_of_ble_eq_true rfl⟩) rfl rfl rfl rfl rfl (by decide) rfl rfl (Nat.le_of_ble_eq_true rfl) rfl rfl ⟨hk9, hn9⟩ dL_law_450 ?_
  rintro z5 _ ⟨rfl, rfl⟩
  refine z_wsub (ws' := (lwW cI cJ h g a3 o σ LT γ φ LI BR γ2 φ2 θ)) [9, 10, 11, 12, 13, 14, 15, 16, 17, 18, 0, 1, 2, 3, 4, 5, 6, 7, 8] rfl rfl rfl ?_
  refine z_istore C [(5, vI 1), (0, .ref b), (1, .ref (h 0)), (2, .ref (g 0)), (3, .ref a3), (4, vI (i : Int))] dL_law_453 (by decide) rfl ?_
  refine z_aload_n C 3 dL_law_455 rfl ?_
  refine z_aload_n C 1 dL_law_456 rfl ?_
  refine z_iload C 5 dL_law_457 rfl ?_
  refine z_iconst C dL_law_459 ?_
  refine z_iadd C dL_law_460 ?_
  refine z_sldv C hX9 hbl (Nat.not_le.mpr hbl) hL2 (by omega) e1 dL_law_461 ?_
  refine z_aload_n C 1 dL_law_462 rfl ?_
  refine z_iload C 5 dL_law_463 rfl ?_
  refine z_iconst C dL_law_465 ?_
  refine z_iadd C dL_law_466 ?_
  refine z_sldv C hX9 hbl (Nat.not_le.mpr hbl) hL2 (by omega) e2 dL_law_467 ?_
  refine z_callVi C (As := [vI x, vI y]) (st := []) (y := yX2_watcher) (w := wsX2_watcher) (rm := rm_X2_watcher) (wr := ((a3, lo cJ o) :: cw cI h σ LT γ φ)) (k' := (k + 1)) (n' := (n + 6)) [10, 11, 12, 13, 14, 15, 16, 17, 18] [0, 1, 2, 3, 4, 5, 6, 7, 8, 9] 10 (b1_X2_watcher l D cI cJ g σ LI BR γ2 φ2 θ x y ⟨r1, r2⟩ hO hb) (cwV 2 C.1.2.2.2.2 gL_law_X2_watcher rfl rfl rfl (by decide +kernel) ⟨Nat.le_of_ble_eq_true rfl, Nat.le_of_ble_eq_true rfl⟩) rfl rfl rfl rfl rfl (by decide) rfl rfl rfl rfl (Nat.le_of_ble_eq_true rfl) rfl rfl ⟨hk9, hn9⟩ dL_law_468 ?_
  rintro z6 _ ⟨rfl, hz6⟩
  refine z_ws (ws' := (lwW cI cJ h g a3 o σ LT γ φ LI BR γ2 φ2 1)) rfl ?_
  have q6 : rng z6 := by rw [hz6]; decide
  refine z_istore C [(6, vI z6), (5, vI 1), (0, .ref b), (1, .ref (h 0)), (2, .ref (g 0)), (3, .ref a3), (4, vI (i : Int))] dL_law_471 (by decide) rfl ?_
  refine z_aload_n C 4 dL_law_473 rfl ?_
  refine z_callVi C (As := []) (st := []) (y := yX2_thrown) (w := wsX2_thrown) (rm := rm_X2_thrown) (wr := ((a3, lo cJ o) :: cw cI h σ LT γ φ)) (k' := (k + 1)) (n' := (n + 6)) [10, 11, 12, 13, 14, 15, 16, 17, 18] [0, 1, 2, 3, 4, 5, 6, 7, 8, 9] 10 (c_X2_thrown l D cI cJ g σ LI BR γ2 φ2 1) (cwV 0 C.1.2.2.2.2 gL_law_X2_thrown rfl rfl rfl (by decide +kernel) ⟨Nat.le_of_ble_eq_true rfl, Nat.le_of_ble_eq_true rfl⟩) rfl rfl rfl rfl rfl (by decide) rfl rfl rfl rfl (Nat.le_of_ble_eq_true rfl) rfl rfl ⟨hk9, hn9⟩ dL_law_474 ?_
  rintro z7 _ ⟨rfl, rfl⟩
  refine z_ws (ws' := (lwW cI cJ h g a3 o σ LT γ φ LI BR γ2 φ2 1)) rfl ?_
  refine z_iload C 1 dL_law_477 rfl ?_
  refine z_icmp_eq C (tgt := 484) dL_law_479 (by decide) (by omega) (by omega) (fun _ => ?_) (fun c9 => absurd rfl c9)
  refine z_iload C 1 dL_law_484 rfl ?_
  refine z_if_ne C (tgt := 501) dL_law_486 (by decide) (by omega) (fun _ => ?_) (fun c9 => absurd c9 (by decide))
  refine z_goto C (tgt := 1351) dL_law_501 (by decide) ?_
  refine z_sub (lv' := lwL b h g a3 i) [2, 3, 4, 5, 6] rfl ?_
  exact kk _ _ _ _ _ _ _ _ _ _ hO hL hK hI hB

set_option maxHeartbeats 4000000 in
set_option maxRecDepth 100000 in
theorem o2_watcher {p : Program} {l : Launch} {e : Env} {s : State} {m : MethodId} {args : Array Value} {below : List Frame} {meth : Method} {c : Code} {Q : State → Prop} {D : va_G} {cI cJ : ClassId} (C : Zc p s m args meth c (Av s) D [(cI, .int), (cJ, .long)] 9 cL_law RL wsL_law (some .boolean)) (hX : ZX l s (Av s)) (hW9 : WX s) {b L : Nat} {xs : Nat → Int32} (hX9 : va_X b L xs s s.heap) (hbl : b < s.heap.size) (hL2 : L ≤ 2048) {h g : Nat → Nat} {a3 i : Nat} (hi : i + 4 ≤ L) {o : Nat → Int64} {σ : YS} {LT : Nat → Int} {γ : YS} {φ : Nat → Int} {LI BR : Nat → Int} {γ2 : YS} {φ2 : Nat → Int} {θ : Int} (hO : Ok σ) (hL : LR LT) (hK : LOk σ LT) (hI : LI4 LI) (hB : BR9 BR) {k n : Nat} (hk9 : k + 1 ≤ room_1.cells) (hn9 : n + 6 ≤ room_1.slots) {x : Int} (e1 : (xs ((i : Int) + 1).toNat).toInt = x) (r1 : rng x) {y : Int} (e2 : (xs ((i : Int) + 2).toNat).toInt = y) (r2 : rng y) (hp : ((0 ≤ x ∧ x < 12) ∧ 0 ≤ y ∧ y < 12)) (hb : σ 4 1 = 6) (kk : KK p l e s m args below meth c Q D cI cJ b h g a3 i (k + 1) (n + 6)) : Zs p l e room_1 s m args below meth c Q (Av s) D 9 436 (lwL b h g a3 i) [] (lwW cI cJ h g a3 o σ LT γ φ LI BR γ2 φ2 θ) k n := by
  refine z_aload_n C 1 dL_law_436 rfl ?_
  refine z_aload_n C 0 dL_law_437 rfl ?_
  refine z_iload C 4 dL_law_438 rfl ?_
  refine z_iconst C dL_law_440 ?_
  refine z_iadd C dL_law_441 ?_
  refine z_sldv C hX9 hbl (Nat.not_le.mpr hbl) hL2 (by omega) e1 dL_law_442 ?_
  refine z_aload_n C 0 dL_law_443 rfl ?_
  refine z_iload C 4 dL_law_444 rfl ?_
  refine z_iconst C dL_law_446 ?_
  refine z_iadd C dL_law_447 ?_
  refine z_sldv C hX9 hbl (Nat.not_le.mpr hbl) hL2 (by omega) e2 dL_law_448 ?_
  refine z_aload_n C 3 dL_law_449 rfl ?_
  refine z_callW C hX hW9 (As := [.ref (h 0), vI x, vI y, .ref a3]) (st := []) (y := yL_watcher) (w := wsL_watcher) (rm := rxL_watcher) (wr := mx cI g σ LI BR γ2 φ2 θ) (k' := (k + 1)) (n' := (n + 6)) [0, 1, 2, 3, 4, 5, 6, 7, 8, 9] [10, 11, 12, 13, 14, 15, 16, 17, 18] (wbx_L_watcher l D cI cJ h σ LT γ φ x y ⟨r1, r2⟩ hp hO hb a3 o) (vx_cwSW 4 C.1.2.2.2.2 gL_law_L_watcher rfl rfl rfl (by decide +kernel) ⟨Nat.le_of_ble_eq_true rfl, Nat.le_of_ble_eq_true rfl⟩) rfl rfl rfl rfl rfl (by decide) rfl rfl (Nat.le_of_ble_eq_true rfl) rfl rfl ⟨hk9, hn9⟩ dL_law_450 ?_
  rintro z5 _ ⟨rfl, rfl⟩
  refine z_wsub (ws' := (lwW cI cJ h g a3 o σ LT γ φ LI BR γ2 φ2 θ)) [9, 10, 11, 12, 13, 14, 15, 16, 17, 18, 0, 1, 2, 3, 4, 5, 6, 7, 8] rfl rfl rfl ?_
  refine z_istore C [(5, vI 2), (0, .ref b), (1, .ref (h 0)), (2, .ref (g 0)), (3, .ref a3), (4, vI (i : Int))] dL_law_453 (by decide) rfl ?_
  refine z_aload_n C 3 dL_law_455 rfl ?_
  refine z_aload_n C 1 dL_law_456 rfl ?_
  refine z_iload C 5 dL_law_457 rfl ?_
  refine z_iconst C dL_law_459 ?_
  refine z_iadd C dL_law_460 ?_
  refine z_sldv C hX9 hbl (Nat.not_le.mpr hbl) hL2 (by omega) e1 dL_law_461 ?_
  refine z_aload_n C 1 dL_law_462 rfl ?_
  refine z_iload C 5 dL_law_463 rfl ?_
  refine z_iconst C dL_law_465 ?_
  refine z_iadd C dL_law_466 ?_
  refine z_sldv C hX9 hbl (Nat.not_le.mpr hbl) hL2 (by omega) e2 dL_law_467 ?_
  refine z_callVi C (As := [vI x, vI y]) (st := []) (y := yX2_watcher) (w := wsX2_watcher) (rm := rm_X2_watcher) (wr := ((a3, lo cJ o) :: cw cI h σ LT γ φ)) (k' := (k + 1)) (n' := (n + 6)) [10, 11, 12, 13, 14, 15, 16, 17, 18] [0, 1, 2, 3, 4, 5, 6, 7, 8, 9] 10 (b2_X2_watcher l D cI cJ g σ LI BR γ2 φ2 θ x y ⟨r1, r2⟩ hO ⟨hp, hb⟩) (cwV 2 C.1.2.2.2.2 gL_law_X2_watcher rfl rfl rfl (by decide +kernel) ⟨Nat.le_of_ble_eq_true rfl, Nat.le_of_ble_eq_true rfl⟩) rfl rfl rfl rfl rfl (by decide) rfl rfl rfl rfl (Nat.le_of_ble_eq_true rfl) rfl rfl ⟨hk9, hn9⟩ dL_law_468 ?_
  rintro z6 _ ⟨rfl, hz6⟩
  refine z_ws (ws' := (lwW cI cJ h g a3 o σ LT γ φ LI BR γ2 φ2 2)) rfl ?_
  have q6 : rng z6 := by rw [hz6]; decide
  refine z_istore C [(6, vI z6), (5, vI 2), (0, .ref b), (1, .ref (h 0)), (2, .ref (g 0)), (3, .ref a3), (4, vI (i : Int))] dL_law_471 (by decide) rfl ?_
  refine z_aload_n C 4 dL_law_473 rfl ?_
  refine z_callVi C (As := []) (st := []) (y := yX2_thrown) (w := wsX2_thrown) (rm := rm_X2_thrown) (wr := ((a3, lo cJ o) :: cw cI h σ LT γ φ)) (k' := (k + 1)) (n' := (n + 6)) [10, 11, 12, 13, 14, 15, 16, 17, 18] [0, 1, 2, 3, 4, 5, 6, 7, 8, 9] 10 (c_X2_thrown l D cI cJ g σ LI BR γ2 φ2 2) (cwV 0 C.1.2.2.2.2 gL_law_X2_thrown rfl rfl rfl (by decide +kernel) ⟨Nat.le_of_ble_eq_true rfl, Nat.le_of_ble_eq_true rfl⟩) rfl rfl rfl rfl rfl (by decide) rfl rfl rfl rfl (Nat.le_of_ble_eq_true rfl) rfl rfl ⟨hk9, hn9⟩ dL_law_474 ?_
  rintro z7 _ ⟨rfl, rfl⟩
  refine z_ws (ws' := (lwW cI cJ h g a3 o σ LT γ φ LI BR γ2 φ2 2)) rfl ?_
  refine z_iload C 1 dL_law_477 rfl ?_
  refine z_icmp_eq C (tgt := 484) dL_law_479 (by decide) (by omega) (by omega) (fun _ => ?_) (fun c9 => absurd rfl c9)
  refine z_iload C 1 dL_law_484 rfl ?_
  refine z_if_ne C (tgt := 501) dL_law_486 (by decide) (by omega) (fun _ => ?_) (fun c9 => absurd c9 (by decide))
  refine z_goto C (tgt := 1351) dL_law_501 (by decide) ?_
  refine z_sub (lv' := lwL b h g a3 i) [2, 3, 4, 5, 6] rfl ?_
  exact kk _ _ _ _ _ _ _ _ _ _ hO hL hK hI hB

set_option maxHeartbeats 4000000 in
set_option maxRecDepth 100000 in
theorem o3_watcher {p : Program} {l : Launch} {e : Env} {s : State} {m : MethodId} {args : Array Value} {below : List Frame} {meth : Method} {c : Code} {Q : State → Prop} {D : va_G} {cI cJ : ClassId} (C : Zc p s m args meth c (Av s) D [(cI, .int), (cJ, .long)] 9 cL_law RL wsL_law (some .boolean)) (hX : ZX l s (Av s)) (hW9 : WX s) {b L : Nat} {xs : Nat → Int32} (hX9 : va_X b L xs s s.heap) (hbl : b < s.heap.size) (hL2 : L ≤ 2048) {h g : Nat → Nat} {a3 i : Nat} (hi : i + 4 ≤ L) {o : Nat → Int64} {σ : YS} {LT : Nat → Int} {γ : YS} {φ : Nat → Int} {LI BR : Nat → Int} {γ2 : YS} {φ2 : Nat → Int} {θ : Int} (hO : Ok σ) (hL : LR LT) (hK : LOk σ LT) (hI : LI4 LI) (hB : BR9 BR) {k n : Nat} (hk9 : k + 1 ≤ room_1.cells) (hn9 : n + 6 ≤ room_1.slots) {x : Int} (e1 : (xs ((i : Int) + 1).toNat).toInt = x) (r1 : rng x) {y : Int} (e2 : (xs ((i : Int) + 2).toNat).toInt = y) (r2 : rng y) (hp : ((0 ≤ x ∧ x < 12) ∧ 0 ≤ y ∧ y < 12)) (h6 : σ 4 1 < 6) (hb : σ 0 (12 * y + x).toNat ≠ 0) (kk : KK p l e s m args below meth c Q D cI cJ b h g a3 i (k + 1) (n + 6)) : Zs p l e room_1 s m args below meth c Q (Av s) D 9 436 (lwL b h g a3 i) [] (lwW cI cJ h g a3 o σ LT γ φ LI BR γ2 φ2 θ) k n := by
  refine z_aload_n C 1 dL_law_436 rfl ?_
  refine z_aload_n C 0 dL_law_437 rfl ?_
  refine z_iload C 4 dL_law_438 rfl ?_
  refine z_iconst C dL_law_440 ?_
  refine z_iadd C dL_law_441 ?_
  refine z_sldv C hX9 hbl (Nat.not_le.mpr hbl) hL2 (by omega) e1 dL_law_442 ?_
  refine z_aload_n C 0 dL_law_443 rfl ?_
  refine z_iload C 4 dL_law_444 rfl ?_
  refine z_iconst C dL_law_446 ?_
  refine z_iadd C dL_law_447 ?_
  refine z_sldv C hX9 hbl (Nat.not_le.mpr hbl) hL2 (by omega) e2 dL_law_448 ?_
  refine z_aload_n C 3 dL_law_449 rfl ?_
  refine z_callW C hX hW9 (As := [.ref (h 0), vI x, vI y, .ref a3]) (st := []) (y := yL_watcher) (w := wsL_watcher) (rm := rxL_watcher) (wr := mx cI g σ LI BR γ2 φ2 θ) (k' := (k + 1)) (n' := (n + 6)) [0, 1, 2, 3, 4, 5, 6, 7, 8, 9] [10, 11, 12, 13, 14, 15, 16, 17, 18] (wcx_L_watcher l D cI cJ h σ LT γ φ x y ⟨r1, r2⟩ hp hO h6 hb a3 o) (vx_cwSW 4 C.1.2.2.2.2 gL_law_L_watcher rfl rfl rfl (by decide +kernel) ⟨Nat.le_of_ble_eq_true rfl, Nat.le_of_ble_eq_true rfl⟩) rfl rfl rfl rfl rfl (by decide) rfl rfl (Nat.le_of_ble_eq_true rfl) rfl rfl ⟨hk9, hn9⟩ dL_law_450 ?_
  rintro z5 _ ⟨rfl, rfl⟩
  refine z_wsub (ws' := (lwW cI cJ h g a3 o σ LT γ φ LI BR γ2 φ2 θ)) [9, 10, 11, 12, 13, 14, 15, 16, 17, 18, 0, 1, 2, 3, 4, 5, 6, 7, 8] rfl rfl rfl ?_
  refine z_istore C [(5, vI 2), (0, .ref b), (1, .ref (h 0)), (2, .ref (g 0)), (3, .ref a3), (4, vI (i : Int))] dL_law_453 (by decide) rfl ?_
  refine z_aload_n C 3 dL_law_455 rfl ?_
  refine z_aload_n C 1 dL_law_456 rfl ?_
  refine z_iload C 5 dL_law_457 rfl ?_
  refine z_iconst C dL_law_459 ?_
  refine z_iadd C dL_law_460 ?_
  refine z_sldv C hX9 hbl (Nat.not_le.mpr hbl) hL2 (by omega) e1 dL_law_461 ?_
  refine z_aload_n C 1 dL_law_462 rfl ?_
  refine z_iload C 5 dL_law_463 rfl ?_
  refine z_iconst C dL_law_465 ?_
  refine z_iadd C dL_law_466 ?_
  refine z_sldv C hX9 hbl (Nat.not_le.mpr hbl) hL2 (by omega) e2 dL_law_467 ?_
  refine z_callVi C (As := [vI x, vI y]) (st := []) (y := yX2_watcher) (w := wsX2_watcher) (rm := rm_X2_watcher) (wr := ((a3, lo cJ o) :: cw cI h σ LT γ φ)) (k' := (k + 1)) (n' := (n + 6)) [10, 11, 12, 13, 14, 15, 16, 17, 18] [0, 1, 2, 3, 4, 5, 6, 7, 8, 9] 10 (b3_X2_watcher l D cI cJ g σ LI BR γ2 φ2 θ x y ⟨r1, r2⟩ hO ⟨hp, h6, hb⟩) (cwV 2 C.1.2.2.2.2 gL_law_X2_watcher rfl rfl rfl (by decide +kernel) ⟨Nat.le_of_ble_eq_true rfl, Nat.le_of_ble_eq_true rfl⟩) rfl rfl rfl rfl rfl (by decide) rfl rfl rfl rfl (Nat.le_of_ble_eq_true rfl) rfl rfl ⟨hk9, hn9⟩ dL_law_468 ?_
  rintro z6 _ ⟨rfl, hz6⟩
  refine z_ws (ws' := (lwW cI cJ h g a3 o σ LT γ φ LI BR γ2 φ2 2)) rfl ?_
  have q6 : rng z6 := by rw [hz6]; decide
  refine z_istore C [(6, vI z6), (5, vI 2), (0, .ref b), (1, .ref (h 0)), (2, .ref (g 0)), (3, .ref a3), (4, vI (i : Int))] dL_law_471 (by decide) rfl ?_
  refine z_aload_n C 4 dL_law_473 rfl ?_
  refine z_callVi C (As := []) (st := []) (y := yX2_thrown) (w := wsX2_thrown) (rm := rm_X2_thrown) (wr := ((a3, lo cJ o) :: cw cI h σ LT γ φ)) (k' := (k + 1)) (n' := (n + 6)) [10, 11, 12, 13, 14, 15, 16, 17, 18] [0, 1, 2, 3, 4, 5, 6, 7, 8, 9] 10 (c_X2_thrown l D cI cJ g σ LI BR γ2 φ2 2) (cwV 0 C.1.2.2.2.2 gL_law_X2_thrown rfl rfl rfl (by decide +kernel) ⟨Nat.le_of_ble_eq_true rfl, Nat.le_of_ble_eq_true rfl⟩) rfl rfl rfl rfl rfl (by decide) rfl rfl rfl rfl (Nat.le_of_ble_eq_true rfl) rfl rfl ⟨hk9, hn9⟩ dL_law_474 ?_
  rintro z7 _ ⟨rfl, rfl⟩
  refine z_ws (ws' := (lwW cI cJ h g a3 o σ LT γ φ LI BR γ2 φ2 2)) rfl ?_
  refine z_iload C 1 dL_law_477 rfl ?_
  refine z_icmp_eq C (tgt := 484) dL_law_479 (by decide) (by omega) (by omega) (fun _ => ?_) (fun c9 => absurd rfl c9)
  refine z_iload C 1 dL_law_484 rfl ?_
  refine z_if_ne C (tgt := 501) dL_law_486 (by decide) (by omega) (fun _ => ?_) (fun c9 => absurd c9 (by decide))
  refine z_goto C (tgt := 1351) dL_law_501 (by decide) ?_
  refine z_sub (lv' := lwL b h g a3 i) [2, 3, 4, 5, 6] rfl ?_
  exact kk _ _ _ _ _ _ _ _ _ _ hO hL hK hI hB

set_option maxHeartbeats 4000000 in
set_option maxRecDepth 100000 in
theorem o0_creep {p : Program} {l : Launch} {e : Env} {s : State} {m : MethodId} {args : Array Value} {below : List Frame} {meth : Method} {c : Code} {Q : State → Prop} {D : va_G} {cI cJ : ClassId} (C : Zc p s m args meth c (Av s) D [(cI, .int), (cJ, .long)] 9 cL_law RL wsL_law (some .boolean)) (hX : ZX l s (Av s)) (hW9 : WX s) {b L : Nat} {xs : Nat → Int32} (hX9 : va_X b L xs s s.heap) (hbl : b < s.heap.size) (hL2 : L ≤ 2048) {h g : Nat → Nat} {a3 i : Nat} (hi : i + 4 ≤ L) {o : Nat → Int64} {σ : YS} {LT : Nat → Int} {γ : YS} {φ : Nat → Int} {LI BR : Nat → Int} {γ2 : YS} {φ2 : Nat → Int} {θ : Int} (hO : Ok σ) (hL : LR LT) (hK : LOk σ LT) (hI : LI4 LI) (hB : BR9 BR) {k n : Nat} (hk9 : k + 1 ≤ room_1.cells) (hn9 : n + 6 ≤ room_1.slots) {w : Int} (e1 : (xs ((i : Int) + 1).toNat).toInt = w) (r1 : rng w) {x : Int} (e2 : (xs ((i : Int) + 2).toNat).toInt = x) (r2 : rng x) {y : Int} (e3 : (xs ((i : Int) + 3).toNat).toInt = y) (r3 : rng y) (hw : 0 ≤ w ∧ w < σ 4 1) (hx : 0 ≤ x ∧ x < 12) (hy : 0 ≤ y ∧ y < 12) (hq : dS besN (frB σ (lkF (lgV σ) LI 144)) (σ 3 w.toNat).toNat (12 * y + x).toNat = dS nbN (frB σ LT) (σ 3 w.toNat).toNat (12 * y + x).toNat) (hv : dS nbN (frB σ LT) (σ 3 w.toNat).toNat (12 * y + x).toNat ≠ -1) (kk : KK p l e s m args below meth c Q D cI cJ b h g a3 i (k + 1) (n + 6)) : Zs p l e room_1 s m args below meth c Q (Av s) D 9 504 (lwL b h g a3 i) [] (lwW cI cJ h g a3 o σ LT γ φ LI BR γ2 φ2 θ) k n := by
  refine z_aload_n C 1 dL_law_504 rfl ?_
  refine z_aload_n C 0 dL_law_505 rfl ?_
  refine z_iload C 4 dL_law_506 rfl ?_
  refine z_iconst C dL_law_508 ?_
  refine z_iadd C dL_law_509 ?_
  refine z_sldv C hX9 hbl (Nat.not_le.mpr hbl) hL2 (by omega) e1 dL_law_510 ?_
  refine z_aload_n C 0 dL_law_511 rfl ?_
  refine z_iload C 4 dL_law_512 rfl ?_
  refine z_iconst C dL_law_514 ?_
  refine z_iadd C dL_law_515 ?_
  refine z_sldv C hX9 hbl (Nat.not_le.mpr hbl) hL2 (by omega) e2 dL_law_516 ?_
  refine z_aload_n C 0 dL_law_517 rfl ?_
  refine z_iload C 4 dL_law_518 rfl ?_
  refine z_iconst C dL_law_520 ?_
  refine z_iadd C dL_law_521 ?_
  refine z_sldv C hX9 hbl (Nat.not_le.mpr hbl) hL2 (by omega) e3 dL_law_522 ?_
  refine z_aload_n C 3 dL_law_523 rfl ?_
  refine z_callW C hX hW9 (As := [.ref (h 0), vI w, vI x, vI y, .ref a3]) (st := []) (y := yL_creep) (w := wsL_creep) (rm := rmL_creep) (wr := mx cI g σ LI BR γ2 φ2 θ) (k' := k) (n' := n) [0, 1, 2, 3, 4, 5, 6, 7, 8, 9] [10, 11, 12, 13, 14, 15, 16, 17, 18] (w_L_creep l D cI cJ h σ LT γ φ w x y hw hx hy hv hO hL a3 o) (vx_cwSW 5 C.1.2.2.2.2 gL_law_L_creep rfl rfl rfl (by decide +kernel) ⟨Nat.le_of_ble_eq_true rfl, Nat.le_of_ble_eq_true rfl⟩) rfl rfl rfl rfl rfl (by decide) rfl rfl (Nat.le_of_ble_eq_true rfl) rfl rfl ⟨Nat.le_trans (Nat.le_add_right _ _) hk9, Nat.le_trans (Nat.le_add_right _ _) hn9⟩ dL_law_524 ?_
  rintro z5 _ ⟨f', γ', rfl, rfl, hf⟩
  refine z_wsub (ws' := ((a3, lo cJ f') :: (cw cI h (sU (sU σ 3 w.toNat (12 * y + x)) 4 2 (σ 4 2 + dS nbN (frB σ LT) (σ 3 w.toNat).toNat (12 * y + x).toNat)) LT γ' φ ++ mx cI g σ LI BR γ2 φ2 θ))) [9, 10, 11, 12, 13, 14, 15, 16, 17, 18, 0, 1, 2, 3, 4, 5, 6, 7, 8] rfl rfl rfl ?_
  refine z_istore C [(5, vI 0), (0, .ref b), (1, .ref (h 0)), (2, .ref (g 0)), (3, .ref a3), (4, vI (i : Int))] dL_law_527 (by decide) rfl ?_
  refine z_aload_n C 3 dL_law_529 rfl ?_
  refine z_aload_n C 1 dL_law_530 rfl ?_
  refine z_iload C 5 dL_law_531 rfl ?_
  refine z_iconst C dL_law_533 ?_
  refine z_iadd C dL_law_534 ?_
  refine z_sldv C hX9 hbl (Nat.not_le.mpr hbl) hL2 (by omega) e1 dL_law_535 ?_
  refine z_aload_n C 1 dL_law_536 rfl ?_
  refine z_iload C 5 dL_law_537 rfl ?_
  refine z_iconst C dL_law_539 ?_
  refine z_iadd C dL_law_540 ?_
  refine z_sldv C hX9 hbl (Nat.not_le.mpr hbl) hL2 (by omega) e2 dL_law_541 ?_
  refine z_aload_n C 1 dL_law_542 rfl ?_
  refine z_iload C 5 dL_law_543 rfl ?_
  refine z_iconst C dL_law_545 ?_
  refine z_iadd C dL_law_546 ?_
  refine z_sldv C hX9 hbl (Nat.not_le.mpr hbl) hL2 (by omega) e3 dL_law_547 ?_
  refine z_callVi C (As := [vI w, vI x, vI y]) (st := []) (y := yX2_creep) (w := wsX2_creep) (rm := rm_X2_creep) (wr := ((a3, lo cJ f') :: cw cI h (sU (sU σ 3 w.toNat (12 * y + x)) 4 2 (σ 4 2 + dS nbN (frB σ LT) (σ 3 w.toNat).toNat (12 * y + x).toNat)) LT γ' φ)) (k' := k) (n' := n) [10, 11, 12, 13, 14, 15, 16, 17, 18] [0, 1, 2, 3, 4, 5, 6, 7, 8, 9] 10 (c_X2_creep l D cI cJ g σ LI BR γ2 φ2 θ w x y hw hx hy (by rw [hq]; exact hv) hO hI) (cwV 3 C.1.2.2.2.2 gL_law_X2_creep rfl rfl rfl (by decide +kernel) ⟨Nat.le_of_ble_eq_true rfl, Nat.le_of_ble_eq_true rfl⟩) rfl rfl rfl rfl rfl (by decide) rfl rfl rfl rfl (Nat.le_of_ble_eq_true rfl) rfl rfl ⟨Nat.le_trans (Nat.le_add_right _ _) hk9, Nat.le_trans (Nat.le_add_right _ _) hn9⟩ dL_law_548 ?_
  rintro z6 _ ⟨φ'', γ'', rfl, hz6⟩
  refine z_ws (ws' := ((a3, lo cJ f') :: (cw cI h (sU (sU σ 3 w.toNat (12 * y + x)) 4 2 (σ 4 2 + dS nbN (frB σ LT) (σ 3 w.toNat).toNat (12 * y + x).toNat)) LT γ' φ ++ mx cI g (sU (sU σ 3 w.toNat (12 * y + x)) 4 2 (σ 4 2 + dS besN (frB σ (lkF (lgV σ) LI 144)) (σ 3 w.toNat).toNat (12 * y + x).toNat)) (lkF (lgV σ) LI 144) (lkF (brV σ) BR 144) γ'' φ'' 0))) rfl ?_
  refine z_istore C [(6, vI z6), (5, vI 0), (0, .ref b), (1, .ref (h 0)), (2, .ref (g 0)), (3, .ref a3), (4, vI (i : Int))] dL_law_551 (by decide) rfl ?_
  refine z_aload_n C 4 dL_law_553 rfl ?_
  refine z_callVi C (As := []) (st := []) (y := yX2_thrown) (w := wsX2_thrown) (rm := rm_X2_thrown) (wr := ((a3, lo cJ f') :: cw cI h (sU (sU σ 3 w.toNat (12 * y + x)) 4 2 (σ 4 2 + dS nbN (frB σ LT) (σ 3 w.toNat).toNat (12 * y + x).toNat)) LT γ' φ)) (k' := k) (n' := n) [10, 11, 12, 13, 14, 15, 16, 17, 18] [0, 1, 2, 3, 4, 5, 6, 7, 8, 9] 10 (c_X2_thrown l D cI cJ g (sU (sU σ 3 w.toNat (12 * y + x)) 4 2 (σ 4 2 + dS besN (frB σ (lkF (lgV σ) LI 144)) (σ 3 w.toNat).toNat (12 * y + x).toNat)) (lkF (lgV σ) LI 144) (lkF (brV σ) BR 144) γ'' φ'' 0) (cwV 0 C.1.2.2.2.2 gL_law_X2_thrown rfl rfl rfl (by decide +kernel) ⟨Nat.le_of_ble_eq_true rfl, Nat.le_of_ble_eq_true rfl⟩) rfl rfl rfl rfl rfl (by decide) rfl rfl rfl rfl (Nat.le_of_ble_eq_true rfl) rfl rfl ⟨Nat.le_trans (Nat.le_add_right _ _) hk9, Nat.le_trans (Nat.le_add_right _ _) hn9⟩ dL_law_554 ?_
  rintro z7 _ ⟨rfl, rfl⟩
  refine z_ws (ws' := ((a3, lo cJ f') :: (cw cI h (sU (sU σ 3 w.toNat (12 * y + x)) 4 2 (σ 4 2 + dS nbN (frB σ LT) (σ 3 w.toNat).toNat (12 * y + x).toNat)) LT γ' φ ++ mx cI g (sU (sU σ 3 w.toNat (12 * y + x)) 4 2 (σ 4 2 + dS besN (frB σ (lkF (lgV σ) LI 144)) (σ 3 w.toNat).toNat (12 * y + x).toNat)) (lkF (lgV σ) LI 144) (lkF (brV σ) BR 144) γ'' φ'' 0))) rfl ?_
  refine z_iload C 1 dL_law_557 rfl ?_
  refine z_icmp_eq C (tgt := 564) dL_law_559 (by decide) (by omega) (by omega) (fun _ => ?_) (fun c9 => absurd rfl c9)
  refine z_iload C 1 dL_law_564 rfl ?_
  refine z_if_ne C (tgt := 581) dL_law_566 (by decide) (by omega) (fun c9 => absurd rfl c9) (fun _ => ?_)
  refine z_aload_n C 5 dL_law_569 rfl ?_
  refine z_iconst C dL_law_570 ?_
  refine z_lald C 0 1 rfl rfl dL_law_571 ?_
  refine z_iload C 0 dL_law_572 rfl ?_
  refine z_i2l C dL_law_574 ?_
  refine z_lcmpE C (show f' 0 = (iI z6).toInt64 from (by rw [hf, hz6, hq])) dL_law_575 ?_
  refine z_if_eq C (tgt := 581) dL_law_576 (by decide) (by omega) (fun _ => ?_) (fun c9 => absurd rfl c9)
  refine z_goto C (tgt := 1351) dL_law_581 (by decide) ?_
  rw [hq]
  refine z_sub (lv' := lwL b h g a3 i) [2, 3, 4, 5, 6] rfl ?_
  refine z_widen (k' := k + 1) (n' := n + 6) (Nat.le_add_right _ _) (Nat.le_add_right _ _) ?_
  exact kk _ _ _ _ _ _ _ _ _ _ (Ok_creep hO (by omega)) hL (LOk_same hK rfl rfl rfl rfl) (lkL_r hO hI 144) (lkB_r hO hB (Nat.le_refl _))

set_option maxHeartbeats 4000000 in
set_option maxRecDepth 100000 in
theorem o1_creep {p : Program} {l : Launch} {e : Env} {s : State} {m : MethodId} {args : Array Value} {below : List Frame} {meth : Method} {c : Code} {Q : State → Prop} {D : va_G} {cI cJ : ClassId} (C : Zc p s m args meth c (Av s) D [(cI, .int), (cJ, .long)] 9 cL_law RL wsL_law (some .boolean)) (hX : ZX l s (Av s)) (hW9 : WX s) {b L : Nat} {xs : Nat → Int32} (hX9 : va_X b L xs s s.heap) (hbl : b < s.heap.size) (hL2 : L ≤ 2048) {h g : Nat → Nat} {a3 i : Nat} (hi : i + 4 ≤ L) {o : Nat → Int64} {σ : YS} {LT : Nat → Int} {γ : YS} {φ : Nat → Int} {LI BR : Nat → Int} {γ2 : YS} {φ2 : Nat → Int} {θ : Int} (hO : Ok σ) (hL : LR LT) (hK : LOk σ LT) (hI : LI4 LI) (hB : BR9 BR) {k n : Nat} (hk9 : k + 1 ≤ room_1.cells) (hn9 : n + 6 ≤ room_1.slots) {w : Int} (e1 : (xs ((i : Int) + 1).toNat).toInt = w) (r1 : rng w) {x : Int} (e2 : (xs ((i : Int) + 2).toNat).toInt = x) (r2 : rng x) {y : Int} (e3 : (xs ((i : Int) + 3).toNat).toInt = y) (r3 : rng y) (hb : ¬ (0 ≤ w ∧ w < σ 4 1)) (kk : KK p l e s m args below meth c Q D cI cJ b h g a3 i (k + 1) (n + 6)) : Zs p l e room_1 s m args below meth c Q (Av s) D 9 504 (lwL b h g a3 i) [] (lwW cI cJ h g a3 o σ LT γ φ LI BR γ2 φ2 θ) k n := by
  refine z_aload_n C 1 dL_law_504 rfl ?_
  refine z_aload_n C 0 dL_law_505 rfl ?_
  refine z_iload C 4 dL_law_506 rfl ?_
  refine z_iconst C dL_law_508 ?_
  refine z_iadd C dL_law_509 ?_
  refine z_sldv C hX9 hbl (Nat.not_le.mpr hbl) hL2 (by omega) e1 dL_law_510 ?_
  refine z_aload_n C 0 dL_law_511 rfl ?_
  refine z_iload C 4 dL_law_512 rfl ?_
  refine z_iconst C dL_law_514 ?_
  refine z_iadd C dL_law_515 ?_
  refine z_sldv C hX9 hbl (Nat.not_le.mpr hbl) hL2 (by omega) e2 dL_law_516 ?_
  refine z_aload_n C 0 dL_law_517 rfl ?_
  refine z_iload C 4 dL_law_518 rfl ?_
  refine z_iconst C dL_law_520 ?_
  refine z_iadd C dL_law_521 ?_
  refine z_sldv C hX9 hbl (Nat.not_le.mpr hbl) hL2 (by omega) e3 dL_law_522 ?_
  refine z_aload_n C 3 dL_law_523 rfl ?_
  refine z_callW C hX hW9 (As := [.ref (h 0), vI w, vI x, vI y, .ref a3]) (st := []) (y := yL_creep) (w := wsL_creep) (rm := rxL_creep) (wr := mx cI g σ LI BR γ2 φ2 θ) (k' := (k + 1)) (n' := (n + 6)) [0, 1, 2, 3, 4, 5, 6, 7, 8, 9] [10, 11, 12, 13, 14, 15, 16, 17, 18] (wx_L_creep l D cI cJ h σ LT γ φ w x y ⟨r1, r2, r3⟩ hO hb a3 o) (vx_cwSW 5 C.1.2.2.2.2 gL_law_L_creep rfl rfl rfl (by decide +kernel) ⟨Nat.le_of_ble_eq_true rfl, Nat.le_of_ble_eq_true rfl⟩) rfl rfl rfl rfl rfl (by decide) rfl rfl (Nat.le_of_ble_eq_true rfl) rfl rfl ⟨hk9, hn9⟩ dL_law_524 ?_
  rintro z5 _ ⟨rfl, rfl⟩
  refine z_wsub (ws' := (lwW cI cJ h g a3 o σ LT γ φ LI BR γ2 φ2 θ)) [9, 10, 11, 12, 13, 14, 15, 16, 17, 18, 0, 1, 2, 3, 4, 5, 6, 7, 8] rfl rfl rfl ?_
  refine z_istore C [(5, vI 1), (0, .ref b), (1, .ref (h 0)), (2, .ref (g 0)), (3, .ref a3), (4, vI (i : Int))] dL_law_527 (by decide) rfl ?_
  refine z_aload_n C 3 dL_law_529 rfl ?_
  refine z_aload_n C 1 dL_law_530 rfl ?_
  refine z_iload C 5 dL_law_531 rfl ?_
  refine z_iconst C dL_law_533 ?_
  refine z_iadd C dL_law_534 ?_
  refine z_sldv C hX9 hbl (Nat.not_le.mpr hbl) hL2 (by omega) e1 dL_law_535 ?_
  refine z_aload_n C 1 dL_law_536 rfl ?_
  refine z_iload C 5 dL_law_537 rfl ?_
  refine z_iconst C dL_law_539 ?_
  refine z_iadd C dL_law_540 ?_
  refine z_sldv C hX9 hbl (Nat.not_le.mpr hbl) hL2 (by omega) e2 dL_law_541 ?_
  refine z_aload_n C 1 dL_law_542 rfl ?_
  refine z_iload C 5 dL_law_543 rfl ?_
  refine z_iconst C dL_law_545 ?_
  refine z_iadd C dL_law_546 ?_
  refine z_sldv C hX9 hbl (Nat.not_le.mpr hbl) hL2 (by omega) e3 dL_law_547 ?_
  refine z_callVi C (As := [vI w, vI x, vI y]) (st := []) (y := yX2_creep) (w := wsX2_creep) (rm := rm_X2_creep) (wr := ((a3, lo cJ o) :: cw cI h σ LT γ φ)) (k' := (k + 1)) (n' := (n + 6)) [10, 11, 12, 13, 14, 15, 16, 17, 18] [0, 1, 2, 3, 4, 5, 6, 7, 8, 9] 10 (b1_X2_creep l D cI cJ g σ LI BR γ2 φ2 θ w x y ⟨r1, r2, r3⟩ hO (fun q => hb q.1)) (cwV 3 C.1.2.2.2.2 gL_law_X2_creep rfl rfl rfl (by decide +kernel) ⟨Nat.le_of_ble_eq_true rfl, Nat.le_of_ble_eq_true rfl⟩) rfl rfl rfl rfl rfl (by decide) rfl rfl rfl rfl (Nat.le_of_ble_eq_true rfl) rfl rfl ⟨hk9, hn9⟩ dL_law_548 ?_
  rintro z6 _ ⟨rfl, hz6⟩
  refine z_ws (ws' := (lwW cI cJ h g a3 o σ LT γ φ LI BR γ2 φ2 1)) rfl ?_
  have q6 : rng z6 := by rw [hz6]; decide
  refine z_istore C [(6, vI z6), (5, vI 1), (0, .ref b), (1, .ref (h 0)), (2, .ref (g 0)), (3, .ref a3), (4, vI (i : Int))] dL_law_551 (by decide) rfl ?_
  refine z_aload_n C 4 dL_law_553 rfl ?_
  refine z_callVi C (As := []) (st := []) (y := yX2_thrown) (w := wsX2_thrown) (rm := rm_X2_thrown) (wr := ((a3, lo cJ o) :: cw cI h σ LT γ φ)) (k' := (k + 1)) (n' := (n + 6)) [10, 11, 12, 13, 14, 15, 16, 17, 18] [0, 1, 2, 3, 4, 5, 6, 7, 8, 9] 10 (c_X2_thrown l D cI cJ g σ LI BR γ2 φ2 1) (cwV 0 C.1.2.2.2.2 gL_law_X2_thrown rfl rfl rfl (by decide +kernel) ⟨Nat.le_of_ble_eq_true rfl, Nat.le_of_ble_eq_true rfl⟩) rfl rfl rfl rfl rfl (by decide) rfl rfl rfl rfl (Nat.le_of_ble_eq_true rfl) rfl rfl ⟨hk9, hn9⟩ dL_law_554 ?_
  rintro z7 _ ⟨rfl, rfl⟩
  refine z_ws (ws' := (lwW cI cJ h g a3 o σ LT γ φ LI BR γ2 φ2 1)) rfl ?_
  refine z_iload C 1 dL_law_557 rfl ?_
  refine z_icmp_eq C (tgt := 564) dL_law_559 (by decide) (by omega) (by omega) (fun _ => ?_) (fun c9 => absurd rfl c9)
  refine z_iload C 1 dL_law_564 rfl ?_
  refine z_if_ne C (tgt := 581) dL_law_566 (by decide) (by omega) (fun _ => ?_) (fun c9 => absurd c9 (by decide))
  refine z_goto C (tgt := 1351) dL_law_581 (by decide) ?_
  refine z_sub (lv' := lwL b h g a3 i) [2, 3, 4, 5, 6] rfl ?_
  exact kk _ _ _ _ _ _ _ _ _ _ hO hL hK hI hB

set_option maxHeartbeats 4000000 in
set_option maxRecDepth 100000 in
theorem o2_creep {p : Program} {l : Launch} {e : Env} {s : State} {m : MethodId} {args : Array Value} {below : List Frame} {meth : Method} {c : Code} {Q : State → Prop} {D : va_G} {cI cJ : ClassId} (C : Zc p s m args meth c (Av s) D [(cI, .int), (cJ, .long)] 9 cL_law RL wsL_law (some .boolean)) (hX : ZX l s (Av s)) (hW9 : WX s) {b L : Nat} {xs : Nat → Int32} (hX9 : va_X b L xs s s.heap) (hbl : b < s.heap.size) (hL2 : L ≤ 2048) {h g : Nat → Nat} {a3 i : Nat} (hi : i + 4 ≤ L) {o : Nat → Int64} {σ : YS} {LT : Nat → Int} {γ : YS} {φ : Nat → Int} {LI BR : Nat → Int} {γ2 : YS} {φ2 : Nat → Int} {θ : Int} (hO : Ok σ) (hL : LR LT) (hK : LOk σ LT) (hI : LI4 LI) (hB : BR9 BR) {k n : Nat} (hk9 : k + 1 ≤ room_1.cells) (hn9 : n + 6 ≤ room_1.slots) {w : Int} (e1 : (xs ((i : Int) + 1).toNat).toInt = w) (r1 : rng w) {x : Int} (e2 : (xs ((i : Int) + 2).toNat).toInt = x) (r2 : rng x) {y : Int} (e3 : (xs ((i : Int) + 3).toNat).toInt = y) (r3 : rng y) (hw : 0 ≤ w ∧ w < σ 4 1) (hb : ¬ ((0 ≤ x ∧ x < 12) ∧ 0 ≤ y ∧ y < 12)) (kk : KK p l e s m args below meth c Q D cI cJ b h g a3 i (k + 1) (n + 6)) : Zs p l e room_1 s m args below meth c Q (Av s) D 9 504 (lwL b h g a3 i) [] (lwW cI cJ h g a3 o σ LT γ φ LI BR γ2 φ2 θ) k n := by
  refine z_aload_n C 1 dL_law_504 rfl ?_
  refine z_aload_n C 0 dL_law_505 rfl ?_
  refine z_iload C 4 dL_law_506 rfl ?_
  refine z_iconst C dL_law_508 ?_
  refine z_iadd C dL_law_509 ?_
  refine z_sldv C hX9 hbl (Nat.not_le.mpr hbl) hL2 (by omega) e1 dL_law_510 ?_
  refine z_aload_n C 0 dL_law_511 rfl ?_
  refine z_iload C 4 dL_law_512 rfl ?_
  refine z_iconst C dL_law_514 ?_
  refine z_iadd C dL_law_515 ?_
  refine z_sldv C hX9 hbl (Nat.not_le.mpr hbl) hL2 (by omega) e2 dL_law_516 ?_
  refine z_aload_n C 0 dL_law_517 rfl ?_
  refine z_iload C 4 dL_law_518 rfl ?_
  refine z_iconst C dL_law_520 ?_
  refine z_iadd C dL_law_521 ?_
  refine z_sldv C hX9 hbl (Nat.not_le.mpr hbl) hL2 (by omega) e3 dL_law_522 ?_
  refine z_aload_n C 3 dL_law_523 rfl ?_
  refine z_callW C hX hW9 (As := [.ref (h 0), vI w, vI x, vI y, .ref a3]) (st := []) (y := yL_creep) (w := wsL_creep) (rm := rxL_creep) (wr := mx cI g σ LI BR γ2 φ2 θ) (k' := (k + 1)) (n' := (n + 6)) [0, 1, 2, 3, 4, 5, 6, 7, 8, 9] [10, 11, 12, 13, 14, 15, 16, 17, 18] (wbx_L_creep l D cI cJ h σ LT γ φ w x y ⟨r1, r2, r3⟩ hO hw hb a3 o) (vx_cwSW 5 C.1.2.2.2.2 gL_law_L_creep rfl rfl rfl (by decide +kernel) ⟨Nat.le_of_ble_eq_true rfl, Nat.le_of_ble_eq_true rfl⟩) rfl rfl rfl rfl rfl (by decide) rfl rfl (Nat.le_of_ble_eq_true rfl) rfl rfl ⟨hk9, hn9⟩ dL_law_524 ?_
  rintro z5 _ ⟨rfl, rfl⟩
  refine z_wsub (ws' := (lwW cI cJ h g a3 o σ LT γ φ LI BR γ2 φ2 θ)) [9, 10, 11, 12, 13, 14, 15, 16, 17, 18, 0, 1, 2, 3, 4, 5, 6, 7, 8] rfl rfl rfl ?_
  refine z_istore C [(5, vI 1), (0, .ref b), (1, .ref (h 0)), (2, .ref (g 0)), (3, .ref a3), (4, vI (i : Int))] dL_law_527 (by decide) rfl ?_
  refine z_aload_n C 3 dL_law_529 rfl ?_
  refine z_aload_n C 1 dL_law_530 rfl ?_
  refine z_iload C 5 dL_law_531 rfl ?_
  refine z_iconst C dL_law_533 ?_
  refine z_iadd C dL_law_534 ?_
  refine z_sldv C hX9 hbl (Nat.not_le.mpr hbl) hL2 (by omega) e1 dL_law_535 ?_
  refine z_aload_n C 1 dL_law_536 rfl ?_
  refine z_iload C 5 dL_law_537 rfl ?_
  refine z_iconst C dL_law_539 ?_
  refine z_iadd C dL_law_540 ?_
  refine z_sldv C hX9 hbl (Nat.not_le.mpr hbl) hL2 (by omega) e2 dL_law_541 ?_
  refine z_aload_n C 1 dL_law_542 rfl ?_
  refine z_iload C 5 dL_law_543 rfl ?_
  refine z_iconst C dL_law_545 ?_
  refine z_iadd C dL_law_546 ?_
  refine z_sldv C hX9 hbl (Nat.not_le.mpr hbl) hL2 (by omega) e3 dL_law_547 ?_
  refine z_callVi C (As := [vI w, vI x, vI y]) (st := []) (y := yX2_creep) (w := wsX2_creep) (rm := rm_X2_creep) (wr := ((a3, lo cJ o) :: cw cI h σ LT γ φ)) (k' := (k + 1)) (n' := (n + 6)) [10, 11, 12, 13, 14, 15, 16, 17, 18] [0, 1, 2, 3, 4, 5, 6, 7, 8, 9] 10 (b1_X2_creep l D cI cJ g σ LI BR γ2 φ2 θ w x y ⟨r1, r2, r3⟩ hO (fun q => hb q.2)) (cwV 3 C.1.2.2.2.2 gL_law_X2_creep rfl rfl rfl (by decide +kernel) ⟨Nat.le_of_ble_eq_true rfl, Nat.le_of_ble_eq_true rfl⟩) rfl rfl rfl rfl rfl (by decide) rfl rfl rfl rfl (Nat.le_of_ble_eq_true rfl) rfl rfl ⟨hk9, hn9⟩ dL_law_548 ?_
  rintro z6 _ ⟨rfl, hz6⟩
  refine z_ws (ws' := (lwW cI cJ h g a3 o σ LT γ φ LI BR γ2 φ2 1)) rfl ?_
  have q6 : rng z6 := by rw [hz6]; decide
  refine z_istore C [(6, vI z6), (5, vI 1), (0, .ref b), (1, .ref (h 0)), (2, .ref (g 0)), (3, .ref a3), (4, vI (i : Int))] dL_law_551 (by decide) rfl ?_
  refine z_aload_n C 4 dL_law_553 rfl ?_
  refine z_callVi C (As := []) (st := []) (y := yX2_thrown) (w := wsX2_thrown) (rm := rm_X2_thrown) (wr := ((a3, lo cJ o) :: cw cI h σ LT γ φ)) (k' := (k + 1)) (n' := (n + 6)) [10, 11, 12, 13, 14, 15, 16, 17, 18] [0, 1, 2, 3, 4, 5, 6, 7, 8, 9] 10 (c_X2_thrown l D cI cJ g σ LI BR γ2 φ2 1) (cwV 0 C.1.2.2.2.2 gL_law_X2_thrown rfl rfl rfl (by decide +kernel) ⟨Nat.le_of_ble_eq_true rfl, Nat.le_of_ble_eq_true rfl⟩) rfl rfl rfl rfl rfl (by decide) rfl rfl rfl rfl (Nat.le_of_ble_eq_true rfl) rfl rfl ⟨hk9, hn9⟩ dL_law_554 ?_
  rintro z7 _ ⟨rfl, rfl⟩
  refine z_ws (ws' := (lwW cI cJ h g a3 o σ LT γ φ LI BR γ2 φ2 1)) rfl ?_
  refine z_iload C 1 dL_law_557 rfl ?_
  refine z_icmp_eq C (tgt := 564) dL_law_559 (by decide) (by omega) (by omega) (fun _ => ?_) (fun c9 => absurd rfl c9)
  refine z_iload C 1 dL_law_564 rfl ?_
  refine z_if_ne C (tgt := 581) dL_law_566 (by decide) (by omega) (fun _ => ?_) (fun c9 => absurd c9 (by decide))
  refine z_goto C (tgt := 1351) dL_law_581 (by decide) ?_
  refine z_sub (lv' := lwL b h g a3 i) [2, 3, 4, 5, 6] rfl ?_
  exact kk _ _ _ _ _ _ _ _ _ _ hO hL hK hI hB

set_option maxHeartbeats 4000000 in
set_option maxRecDepth 100000 in
theorem o3_creep {p : Program} {l : Launch} {e : Env} {s : State} {m : MethodId} {args : Array Value} {below : List Frame} {meth : Method} {c : Code} {Q : State → Prop} {D : va_G} {cI cJ : ClassId} (C : Zc p s m args meth c (Av s) D [(cI, .int), (cJ, .long)] 9 cL_law RL wsL_law (some .boolean)) (hX : ZX l s (Av s)) (hW9 : WX s) {b L : Nat} {xs : Nat → Int32} (hX9 : va_X b L xs s s.heap) (hbl : b < s.heap.size) (hL2 : L ≤ 2048) {h g : Nat → Nat} {a3 i : Nat} (hi : i + 4 ≤ L) {o : Nat → Int64} {σ : YS} {LT : Nat → Int} {γ : YS} {φ : Nat → Int} {LI BR : Nat → Int} {γ2 : YS} {φ2 : Nat → Int} {θ : Int} (hO : Ok σ) (hL : LR LT) (hK : LOk σ LT) (hI : LI4 LI) (hB : BR9 BR) {k n : Nat} (hk9 : k + 1 ≤ room_1.cells) (hn9 : n + 6 ≤ room_1.slots) {w : Int} (e1 : (xs ((i : Int) + 1).toNat).toInt = w) (r1 : rng w) {x : Int} (e2 : (xs ((i : Int) + 2).toNat).toInt = x) (r2 : rng x) {y : Int} (e3 : (xs ((i : Int) + 3).toNat).toInt = y) (r3 : rng y) (hw : 0 ≤ w ∧ w < σ 4 1) (hx : 0 ≤ x ∧ x < 12) (hy : 0 ≤ y ∧ y < 12) (hq : dS besN (frB σ (lkF (lgV σ) LI 144)) (σ 3 w.toNat).toNat (12 * y + x).toNat = dS nbN (frB σ LT) (σ 3 w.toNat).toNat (12 * y + x).toNat) (hb : dS nbN (frB σ LT) (σ 3 w.toNat).toNat (12 * y + x).toNat = -1) (kk : KK p l e s m args below meth c Q D cI cJ b h g a3 i (k + 1) (n + 6)) : Zs p l e room_1 s m args below meth c Q (Av s) D 9 504 (lwL b h g a3 i) [] (lwW cI cJ h g a3 o σ LT γ φ LI BR γ2 φ2 θ) k n := by
  refine z_aload_n C 1 dL_law_504 rfl ?_
  refine z_aload_n C 0 dL_law_505 rfl ?_
  refine z_iload C 4 dL_law_506 rfl ?_
  refine z_iconst C dL_law_508 ?_
  refine z_iadd C dL_law_509 ?_
  refine z_sldv C hX9 hbl (Nat.not_le.mpr hbl) hL2 (by omega) e1 dL_law_510 ?_
  refine z_aload_n C 0 dL_law_511 rfl ?_
  refine z_iload C 4 dL_law_512 rfl ?_
  refine z_iconst C dL_law_514 ?_
  refine z_iadd C dL_law_515 ?_
  refine z_sldv C hX9 hbl (Nat.not_le.mpr hbl) hL2 (by omega) e2 dL_law_516 ?_
  refine z_aload_n C 0 dL_law_517 rfl ?_
  refine z_iload C 4 dL_law_518 rfl ?_
  refine z_iconst C dL_law_520 ?_
  refine z_iadd C dL_law_521 ?_
  refine z_sldv C hX9 hbl (Nat.not_le.mpr hbl) hL2 (by omega) e3 dL_law_522 ?_
  refine z_aload_n C 3 dL_law_523 rfl ?_
  refine z_callW C hX hW9 (As := [.ref (h 0), vI w, vI x, vI y, .ref a3]) (st := []) (y := yL_creep) (w := wsL_creep) (rm := rxL_creep) (wr := mx cI g σ LI BR γ2 φ2 θ) (k' := (k + 1)) (n' := (n + 6)) [0, 1, 2, 3, 4, 5, 6, 7, 8, 9] [10, 11, 12, 13, 14, 15, 16, 17, 18] (wcx_L_creep l D cI cJ h σ LT γ φ w x y ⟨r1, r2, r3⟩ hO hw ⟨hx, hy⟩ hL hb a3 o) (vx_cwSW 5 C.1.2.2.2.2 gL_law_L_creep rfl rfl rfl (by decide +kernel) ⟨Nat.le_of_ble_eq_true rfl, Nat.le_of_ble_eq_true rfl⟩) rfl rfl rfl rfl rfl (by decide) rfl rfl (Nat.le_of_ble_eq_true rfl) rfl rfl ⟨hk9, hn9⟩ dL_law_524 ?_
  rintro z5 _ ⟨γ', rfl, rfl⟩
  refine z_wsub (ws' := (lwW cI cJ h g a3 o σ LT γ' φ LI BR γ2 φ2 θ)) [9, 10, 11, 12, 13, 14, 15, 16, 17, 18, 0, 1, 2, 3, 4, 5, 6, 7, 8] rfl rfl rfl ?_
  refine z_istore C [(5, vI 2), (0, .ref b), (1, .ref (h 0)), (2, .ref (g 0)), (3, .ref a3), (4, vI (i : Int))] dL_law_527 (by decide) rfl ?_
  refine z_aload_n C 3 dL_law_529 rfl ?_
  refine z_aload_n C 1 dL_law_530 rfl ?_
  refine z_iload C 5 dL_law_531 rfl ?_
  refine z_iconst C dL_law_533 ?_
  refine z_iadd C dL_law_534 ?_
  refine z_sldv C hX9 hbl (Nat.not_le.mpr hbl) hL2 (by omega) e1 dL_law_535 ?_
  refine z_aload_n C 1 dL_law_536 rfl ?_
  refine z_iload C 5 dL_law_537 rfl ?_
  refine z_iconst C dL_law_539 ?_
  refine z_iadd C dL_law_540 ?_
  refine z_sldv C hX9 hbl (Nat.not_le.mpr hbl) hL2 (by omega) e2 dL_law_541 ?_
  refine z_aload_n C 1 dL_law_542 rfl ?_
  refine z_iload C 5 dL_law_543 rfl ?_
  refine z_iconst C dL_law_545 ?_
  refine z_iadd C dL_law_546 ?_
  refine z_sldv C hX9 hbl (Nat.not_le.mpr hbl) hL2 (by omega) e3 dL_law_547 ?_
  refine z_callVi C (As := [vI w, vI x, vI y]) (st := []) (y := yX2_creep) (w := wsX2_creep) (rm := rm_X2_creep) (wr := ((a3, lo cJ o) :: cw cI h σ LT γ' φ)) (k' := (k + 1)) (n' := (n + 6)) [10, 11, 12, 13, 14, 15, 16, 17, 18] [0, 1, 2, 3, 4, 5, 6, 7, 8, 9] 10 (b2_X2_creep l D cI cJ g σ LI BR γ2 φ2 θ w x y hw hx hy (by rw [hq]; exact hb) hO hI) (cwV 3 C.1.2.2.2.2 gL_law_X2_creep rfl rfl rfl (by decide +kernel) ⟨Nat.le_of_ble_eq_true rfl, Nat.le_of_ble_eq_true rfl⟩) rfl rfl rfl rfl rfl (by decide) rfl rfl rfl rfl (Nat.le_of_ble_eq_true rfl) rfl rfl ⟨hk9, hn9⟩ dL_law_548 ?_
  rintro z6 _ ⟨φ'', γ'', rfl, hz6⟩
  refine z_ws (ws' := (lwW cI cJ h g a3 o σ LT γ' φ (lkF (lgV σ) LI 144) (lkF (brV σ) BR 144) γ'' φ'' 2)) rfl ?_
  have q6 : rng z6 := by rw [hz6]; decide
  refine z_istore C [(6, vI z6), (5, vI 2), (0, .ref b), (1, .ref (h 0)), (2, .ref (g 0)), (3, .ref a3), (4, vI (i : Int))] dL_law_551 (by decide) rfl ?_
  refine z_aload_n C 4 dL_law_553 rfl ?_
  refine z_callVi C (As := []) (st := []) (y := yX2_thrown) (w := wsX2_thrown) (rm := rm_X2_thrown) (wr := ((a3, lo cJ o) :: cw cI h σ LT γ' φ)) (k' := (k + 1)) (n' := (n + 6)) [10, 11, 12, 13, 14, 15, 16, 17, 18] [0, 1, 2, 3, 4, 5, 6, 7, 8, 9] 10 (c_X2_thrown l D cI cJ g σ (lkF (lgV σ) LI 144) (lkF (brV σ) BR 144) γ'' φ'' 2) (cwV 0 C.1.2.2.2.2 gL_law_X2_thrown rfl rfl rfl (by decide +kernel) ⟨Nat.le_of_ble_eq_true rfl, Nat.le_of_ble_eq_true rfl⟩) rfl rfl rfl rfl rfl (by decide) rfl rfl rfl rfl (Nat.le_of_ble_eq_true rfl) rfl rfl ⟨hk9, hn9⟩ dL_law_554 ?_
  rintro z7 _ ⟨rfl, rfl⟩
  refine z_ws (ws' := (lwW cI cJ h g a3 o σ LT γ' φ (lkF (lgV σ) LI 144) (lkF (brV σ) BR 144) γ'' φ'' 2)) rfl ?_
  refine z_iload C 1 dL_law_557 rfl ?_
  refine z_icmp_eq C (tgt := 564) dL_law_559 (by decide) (by omega) (by omega) (fun _ => ?_) (fun c9 => absurd rfl c9)
  refine z_iload C 1 dL_law_564 rfl ?_
  refine z_if_ne C (tgt := 581) dL_law_566 (by decide) (by omega) (fun _ => ?_) (fun c9 => absurd c9 (by decide))
  refine z_goto C (tgt := 1351) dL_law_581 (by decide) ?_
  refine z_sub (lv' := lwL b h g a3 i) [2, 3, 4, 5, 6] rfl ?_
  exact kk _ _ _ _ _ _ _ _ _ _ hO hL hK (lkL_r hO hI 144) (lkB_r hO hB (Nat.le_refl _))

set_option maxHeartbeats 4000000 in
set_option maxRecDepth 100000 in
theorem o0_told {p : Program} {l : Launch} {e : Env} {s : State} {m : MethodId} {args : Array Value} {below : List Frame} {meth : Method} {c : Code} {Q : State → Prop} {D : va_G} {cI cJ : ClassId} (C : Zc p s m args meth c (Av s) D [(cI, .int), (cJ, .long)] 9 cL_law RL wsL_law (some .boolean)) (hX : ZX l s (Av s)) (hW9 : WX s) {b L : Nat} {xs : Nat → Int32} (hX9 : va_X b L xs s s.heap) (hbl : b < s.heap.size) (hL2 : L ≤ 2048) {h g : Nat → Nat} {a3 i : Nat} (hi : i + 4 ≤ L) {o : Nat → Int64} {σ : YS} {LT : Nat → Int} {γ : YS} {φ : Nat → Int} {LI BR : Nat → Int} {γ2 : YS} {φ2 : Nat → Int} {θ : Int} (hO : Ok σ) (hL : LR LT) (hK : LOk σ LT) (hI : LI4 LI) (hB : BR9 BR) {k n : Nat} (hk9 : k + 1 ≤ room_1.cells) (hn9 : n + 6 ≤ room_1.slots) {x : Int} (e1 : (xs ((i : Int) + 1).toNat).toInt = x) (r1 : rng x) {y : Int} (e2 : (xs ((i : Int) + 2).toNat).toInt = y) (r2 : rng y) {wh : Int} (e3 : (xs ((i : Int) + 3).toNat).toInt = wh) (r3 : rng wh) (hx : 0 ≤ x ∧ x < 12) (hy : 0 ≤ y ∧ y < 12) (hwh : 0 ≤ wh ∧ wh < 5) (kk : KK p l e s m args below meth c Q D cI cJ b h g a3 i (k + 1) (n + 6)) : Zs p l e room_1 s m args below meth c Q (Av s) D 9 584 (lwL b h g a3 i) [] (lwW cI cJ h g a3 o σ LT γ φ LI BR γ2 φ2 θ) k n := by
  refine z_aload_n C 1 dL_law_584 rfl ?_
  refine z_aload_n C 0 dL_law_585 rfl ?_
  refine z_iload C 4 dL_law_586 rfl ?_
  refine z_iconst C dL_law_588 ?_
  refine z_iadd C dL_law_589 ?_
  refine z_sldv C hX9 hbl (Nat.not_le.mpr hbl) hL2 (by omega) e1 dL_law_590 ?_
  refine z_aload_n C 0 dL_law_591 rfl ?_
  refine z_iload C 4 dL_law_592 rfl ?_
  refine z_iconst C dL_law_594 ?_
  refine z_iadd C dL_law_595 ?_
  refine z_sldv C hX9 hbl (Nat.not_le.mpr hbl) hL2 (by omega) e2 dL_law_596 ?_
  refine z_aload_n C 0 dL_law_597 rfl ?_
  refine z_iload C 4 dL_law_598 rfl ?_
  refine z_iconst C dL_law_600 ?_
  refine z_iadd C dL_law_601 ?_
  refine z_sldv C hX9 hbl (Nat.not_le.mpr hbl) hL2 (by omega) e3 dL_law_602 ?_
  refine z_aload_n C 3 dL_law_603 rfl ?_
  refine z_callW C hX hW9 (As := [.ref (h 0), vI x, vI y, vI wh, .ref a3]) (st := []) (y := yL_told) (w := wsL_told) (rm := rmL_told) (wr := mx cI g σ LI BR γ2 φ2 θ) (k' := k) (n' := n) [0, 1, 2, 3, 4, 5, 6, 7, 8, 9] [10, 11, 12, 13, 14, 15, 16, 17, 18] (w_L_told l D cI cJ h σ LT γ φ x y wh hx hy hwh hO hL a3 o) (vx_cwSW 5 C.1.2.2.2.2 gL_law_L_told rfl rfl rfl (by decide +kernel) ⟨Nat.le_of_ble_eq_true rfl, Nat.le_of_ble_eq_true rfl⟩) rfl rfl rfl rfl rfl (by decide) rfl rfl (Nat.le_of_ble_eq_true rfl) rfl rfl ⟨Nat.le_trans (Nat.le_add_right _ _) hk9, Nat.le_trans (Nat.le_add_right _ _) hn9⟩ dL_law_604 ?_
  rintro z5 _ ⟨f', φ', rfl, rfl, hf⟩
  refine z_wsub (ws' := (lwW cI cJ h g a3 f' σ LT γ φ' LI BR γ2 φ2 θ)) [9, 10, 11, 12, 13, 14, 15, 16, 17, 18, 0, 1, 2, 3, 4, 5, 6, 7, 8] rfl rfl rfl ?_
  refine z_istore C [(5, vI 0), (0, .ref b), (1, .ref (h 0)), (2, .ref (g 0)), (3, .ref a3), (4, vI (i : Int))] dL_law_607 (by decide) rfl ?_
  refine z_aload_n C 3 dL_law_609 rfl ?_
  refine z_aload_n C 1 dL_law_610 rfl ?_
  refine z_iload C 5 dL_law_611 rfl ?_
  refine z_iconst C dL_law_613 ?_
  refine z_iadd C dL_law_614 ?_
  refine z_sldv C hX9 hbl (Nat.not_le.mpr hbl) hL2 (by omega) e1 dL_law_615 ?_
  refine z_aload_n C 1 dL_law_616 rfl ?_
  refine z_iload C 5 dL_law_617 rfl ?_
  refine z_iconst C dL_law_619 ?_
  refine z_iadd C dL_law_620 ?_
  refine z_sldv C hX9 hbl (Nat.not_le.mpr hbl) hL2 (by omega) e2 dL_law_621 ?_
  refine z_aload_n C 1 dL_law_622 rfl ?_
  refine z_iload C 5 dL_law_623 rfl ?_
  refine z_iconst C dL_law_625 ?_
  refine z_iadd C dL_law_626 ?_
  refine z_sldv C hX9 hbl (Nat.not_le.mpr hbl) hL2 (by omega) e3 dL_law_627 ?_
  refine z_callVi C (As := [vI x, vI y, vI wh]) (st := []) (y := yX2_told) (w := wsX2_told) (rm := rm_X2_told) (wr := ((a3, lo cJ f') :: cw cI h σ LT γ φ')) (k' := k) (n' := n) [10, 11, 12, 13, 14, 15, 16, 17, 18] [0, 1, 2, 3, 4, 5, 6, 7, 8, 9] 10 (c_X2_told l D cI cJ g σ LI BR γ2 φ2 θ x y wh hx hy hwh hO hI) (cwV 3 C.1.2.2.2.2 gL_law_X2_told rfl rfl rfl (by decide +kernel) ⟨Nat.le_of_ble_eq_true rfl, Nat.le_of_ble_eq_true rfl⟩) rfl rfl rfl rfl rfl (by decide) rfl rfl rfl rfl (Nat.le_of_ble_eq_true rfl) rfl rfl ⟨Nat.le_trans (Nat.le_add_right _ _) hk9, Nat.le_trans (Nat.le_add_right _ _) hn9⟩ dL_law_628 ?_
  rintro z6 _ ⟨φ'', rfl, hz6⟩
  refine z_ws (ws' := (lwW cI cJ h g a3 f' σ LT γ φ' (lkF (lgV σ) LI 144) (lkF (brV σ) BR 144) γ2 φ'' 0)) rfl ?_
  refine z_istore C [(6, vI z6), (5, vI 0), (0, .ref b), (1, .ref (h 0)), (2, .ref (g 0)), (3, .ref a3), (4, vI (i : Int))] dL_law_631 (by decide) rfl ?_
  refine z_aload_n C 4 dL_law_633 rfl ?_
  refine z_callVi C (As := []) (st := []) (y := yX2_thrown) (w := wsX2_thrown) (rm := rm_X2_thrown) (wr := ((a3, lo cJ f') :: cw cI h σ LT γ φ')) (k' := k) (n' := n) [10, 11, 12, 13, 14, 15, 16, 17, 18] [0, 1, 2, 3, 4, 5, 6, 7, 8, 9] 10 (c_X2_thrown l D cI cJ g σ (lkF (lgV σ) LI 144) (lkF (brV σ) BR 144) γ2 φ'' 0) (cwV 0 C.1.2.2.2.2 gL_law_X2_thrown rfl rfl rfl (by decide +kernel) ⟨Nat.le_of_ble_eq_true rfl, Nat.le_of_ble_eq_true rfl⟩) rfl rfl rfl rfl rfl (by decide) rfl rfl rfl rfl (Nat.le_of_ble_eq_true rfl) rfl rfl ⟨Nat.le_trans (Nat.le_add_right _ _) hk9, Nat.le_trans (Nat.le_add_right _ _) hn9⟩ dL_law_634 ?_
  rintro z7 _ ⟨rfl, rfl⟩
  refine z_ws (ws' := (lwW cI cJ h g a3 f' σ LT γ φ' (lkF (lgV σ) LI 144) (lkF (brV σ) BR 144) γ2 φ'' 0)) rfl ?_
  refine z_iload C 1 dL_law_637 rfl ?_
  refine z_icmp_eq C (tgt := 644) dL_law_639 (by decide) (by omega) (by omega) (fun _ => ?_) (fun c9 => absurd rfl c9)
  refine z_iload C 1 dL_law_644 rfl ?_
  refine z_if_ne C (tgt := 661) dL_law_646 (by decide) (by omega) (fun c9 => absurd rfl c9) (fun _ => ?_)
  refine z_aload_n C 5 dL_law_649 rfl ?_
  refine z_iconst C dL_law_650 ?_
  refine z_lald C 0 1 rfl rfl dL_law_651 ?_
  refine z_iload C 0 dL_law_652 rfl ?_
  refine z_i2l C dL_law_654 ?_
  refine z_lcmpE C (show f' 0 = (iI z6).toInt64 from (by rw [hf, hz6, tol_e LI BR hO hL hK (show (12 * y + x).toNat < 144 by omega) wh])) dL_law_655 ?_
  refine z_if_eq C (tgt := 661) dL_law_656 (by decide) (by omega) (fun _ => ?_) (fun c9 => absurd rfl c9)
  refine z_goto C (tgt := 1351) dL_law_661 (by decide) ?_
  refine z_sub (lv' := lwL b h g a3 i) [2, 3, 4, 5, 6] rfl ?_
  refine z_widen (k' := k + 1) (n' := n + 6) (Nat.le_add_right _ _) (Nat.le_add_right _ _) ?_
  exact kk _ _ _ _ _ _ _ _ _ _ hO hL hK (lkL_r hO hI 144) (lkB_r hO hB (Nat.le_refl _))

set_option maxHeartbeats 4000000 in
set_option maxRecDepth 100000 in
theorem o1_told {p : Program} {l : Launch} {e : Env} {s : State} {m : MethodId} {args : Array Value} {below : List Frame} {meth : Method} {c : Code} {Q : State → Prop} {D : va_G} {cI cJ : ClassId} (C : Zc p s m args meth c (Av s) D [(cI, .int), (cJ, .long)] 9 cL_law RL wsL_law (some .boolean)) (hX : ZX l s (Av s)) (hW9 : WX s) {b L : Nat} {xs : Nat → Int32} (hX9 : va_X b L xs s s.heap) (hbl : b < s.heap.size) (hL2 : L ≤ 2048) {h g : Nat → Nat} {a3 i : Nat} (hi : i + 4 ≤ L) {o : Nat → Int64} {σ : YS} {LT : Nat → Int} {γ : YS} {φ : Nat → Int} {LI BR : Nat → Int} {γ2 : YS} {φ2 : Nat → Int} {θ : Int} (hO : Ok σ) (hL : LR LT) (hK : LOk σ LT) (hI : LI4 LI) (hB : BR9 BR) {k n : Nat} (hk9 : k + 1 ≤ room_1.cells) (hn9 : n + 6 ≤ room_1.slots) {x : Int} (e1 : (xs ((i : Int) + 1).toNat).toInt = x) (r1 : rng x) {y : Int} (e2 : (xs ((i : Int) + 2).toNat).toInt = y) (r2 : rng y) {wh : Int} (e3 : (xs ((i : Int) + 3).toNat).toInt = wh) (r3 : rng wh) (hb : ¬ ((0 ≤ x ∧ x < 12) ∧ 0 ≤ y ∧ y < 12)) (kk : KK p l e s m args below meth c Q D cI cJ b h g a3 i (k + 1) (n + 6)) : Zs p l e room_1 s m args below meth c Q (Av s) D 9 584 (lwL b h g a3 i) [] (lwW cI cJ h g a3 o σ LT γ φ LI BR γ2 φ2 θ) k n := by
  refine z_aload_n C 1 dL_law_584 rfl ?_
  refine z_aload_n C 0 dL_law_585 rfl ?_
  refine z_iload C 4 dL_law_586 rfl ?_
  refine z_iconst C dL_law_588 ?_
  refine z_iadd C dL_law_589 ?_
  refine z_sldv C hX9 hbl (Nat.not_le.mpr hbl) hL2 (by omega) e1 dL_law_590 ?_
  refine z_aload_n C 0 dL_law_591 rfl ?_
  refine z_iload C 4 dL_law_592 rfl ?_
  refine z_iconst C dL_law_594 ?_
  refine z_iadd C dL_law_595 ?_
  refine z_sldv C hX9 hbl (Nat.not_le.mpr hbl) hL2 (by omega) e2 dL_law_596 ?_
  refine z_aload_n C 0 dL_law_597 rfl ?_
  refine z_iload C 4 dL_law_598 rfl ?_
  refine z_iconst C dL_law_600 ?_
  refine z_iadd C dL_law_601 ?_
  refine z_sldv C hX9 hbl (Nat.not_le.mpr hbl) hL2 (by omega) e3 dL_law_602 ?_
  refine z_aload_n C 3 dL_law_603 rfl ?_
  refine z_callW C hX hW9 (As := [.ref (h 0), vI x, vI y, vI wh, .ref a3]) (st := []) (y := yL_told) (w := wsL_told) (rm := rxL_told) (wr := mx cI g σ LI BR γ2 φ2 θ) (k' := (k + 1)) (n' := (n + 6)) [0, 1, 2, 3, 4, 5, 6, 7, 8, 9] [10, 11, 12, 13, 14, 15, 16, 17, 18] (wx_L_told l D cI cJ h σ LT γ φ x y wh ⟨r1, r2, r3⟩ hb a3 o) (vx_cwSW 5 C.1.2.2.2.2 gL_law_L_told rfl rfl rfl (by decide +kernel) ⟨Nat.le_of_ble_eq_true rfl, Nat.le_of_ble_eq_true rfl⟩) rfl rfl rfl rfl rfl (by decide) rfl rfl (Nat.le_of_ble_eq_true rfl) rfl rfl ⟨hk9, hn9⟩ dL_law_604 ?_
  rintro z5 _ ⟨rfl, rfl⟩
  refine z_wsub (ws' := (lwW cI cJ h g a3 o σ LT γ φ LI BR γ2 φ2 θ)) [9, 10, 11, 12, 13, 14, 15, 16, 17, 18, 0, 1, 2, 3, 4, 5, 6, 7, 8] rfl rfl rfl ?_
  refine z_istore C [(5, vI 1), (0, .ref b), (1, .ref (h 0)), (2, .ref (g 0)), (3, .ref a3), (4, vI (i : Int))] dL_law_607 (by decide) rfl ?_
  refine z_aload_n C 3 dL_law_609 rfl ?_
  refine z_aload_n C 1 dL_law_610 rfl ?_
  refine z_iload C 5 dL_law_611 rfl ?_
  refine z_iconst C dL_law_613 ?_
  refine z_iadd C dL_law_614 ?_
  refine z_sldv C hX9 hbl (Nat.not_le.mpr hbl) hL2 (by omega) e1 dL_law_615 ?_
  refine z_aload_n C 1 dL_law_616 rfl ?_
  refine z_iload C 5 dL_law_617 rfl ?_
  refine z_iconst C dL_law_619 ?_
  refine z_iadd C dL_law_620 ?_
  refine z_sldv C hX9 hbl (Nat.not_le.mpr hbl) hL2 (by omega) e2 dL_law_621 ?_
  refine z_aload_n C 1 dL_law_622 rfl ?_
  refine z_iload C 5 dL_law_623 rfl ?_
  refine z_iconst C dL_law_625 ?_
  refine z_iadd C dL_law_626 ?_
  refine z_sldv C hX9 hbl (Nat.not_le.mpr hbl) hL2 (by omega) e3 dL_law_627 ?_
  refine z_callVi C (As := [vI x, vI y, vI wh]) (st := []) (y := yX2_told) (w := wsX2_told) (rm := rm_X2_told) (wr := ((a3, lo cJ o) :: cw cI h σ LT γ φ)) (k' := (k + 1)) (n' := (n + 6)) [10, 11, 12, 13, 14, 15, 16, 17, 18] [0, 1, 2, 3, 4, 5, 6, 7, 8, 9] 10 (b1_X2_told l D cI cJ g σ LI BR γ2 φ2 θ x y wh ⟨r1, r2, r3⟩ hO (fun q => hb q.1)) (cwV 3 C.1.2.2.2.2 gL_law_X2_told rfl rfl rfl (by decide +kernel) ⟨Nat.le_of_ble_eq_true rfl, Nat.le_of_ble_eq_true rfl⟩) rfl rfl rfl rfl rfl (by decide) rfl rfl rfl rfl (Nat.le_of_ble_eq_true rfl) rfl rfl ⟨hk9, hn9⟩ dL_law_628 ?_
  rintro z6 _ ⟨rfl, hz6⟩
  refine z_ws (ws' := (lwW cI cJ h g a3 o σ LT γ φ LI BR γ2 φ2 1)) rfl ?_
  have q6 : rng z6 := by rw [hz6]; decide
  refine z_istore C [(6, vI z6), (5, vI 1), (0, .ref b), (1, .ref (h 0)), (2, .ref (g 0)), (3, .ref a3), (4, vI (i : Int))] dL_law_631 (by decide) rfl ?_
  refine z_aload_n C 4 dL_law_633 rfl ?_
  refine z_callVi C (As := []) (st := []) (y := yX2_thrown) (w := wsX2_thrown) (rm := rm_X2_thrown) (wr := ((a3, lo cJ o) :: cw cI h σ LT γ φ)) (k' := (k + 1)) (n' := (n + 6)) [10, 11, 12, 13, 14, 15, 16, 17, 18] [0, 1, 2, 3, 4, 5, 6, 7, 8, 9] 10 (c_X2_thrown l D cI cJ g σ LI BR γ2 φ2 1) (cwV 0 C.1.2.2.2.2 gL_law_X2_thrown rfl rfl rfl (by decide +kernel) ⟨Nat.le_of_ble_eq_true rfl, Nat.le_of_ble_eq_true rfl⟩) rfl rfl rfl rfl rfl (by decide) rfl rfl rfl rfl (Nat.le_of_ble_eq_true rfl) rfl rfl ⟨hk9, hn9⟩ dL_law_634 ?_
  rintro z7 _ ⟨rfl, rfl⟩
  refine z_ws (ws' := (lwW cI cJ h g a3 o σ LT γ φ LI BR γ2 φ2 1)) rfl ?_
  refine z_iload C 1 dL_law_637 rfl ?_
  refine z_icmp_eq C (tgt := 644) dL_law_639 (by decide) (by omega) (by omega) (fun _ => ?_) (fun c9 => absurd rfl c9)
  refine z_iload C 1 dL_law_644 rfl ?_
  refine z_if_ne C (tgt := 661) dL_law_646 (by decide) (by omega) (fun _ => ?_) (fun c9 => absurd c9 (by decide))
  refine z_goto C (tgt := 1351) dL_law_661 (by decide) ?_
  refine z_sub (lv' := lwL b h g a3 i) [2, 3, 4, 5, 6] rfl ?_
  exact kk _ _ _ _ _ _ _ _ _ _ hO hL hK hI hB

set_option maxHeartbeats 4000000 in
set_option maxRecDepth 100000 in
theorem o2_told {p : Program} {l : Launch} {e : Env} {s : State} {m : MethodId} {args : Array Value} {below : List Frame} {meth : Method} {c : Code} {Q : State → Prop} {D : va_G} {cI cJ : ClassId} (C : Zc p s m args meth c (Av s) D [(cI, .int), (cJ, .long)] 9 cL_law RL wsL_law (some .boolean)) (hX : ZX l s (Av s)) (hW9 : WX s) {b L : Nat} {xs : Nat → Int32} (hX9 : va_X b L xs s s.heap) (hbl : b < s.heap.size) (hL2 : L ≤ 2048) {h g : Nat → Nat} {a3 i : Nat} (hi : i + 4 ≤ L) {o : Nat → Int64} {σ : YS} {LT : Nat → Int} {γ : YS} {φ : Nat → Int} {LI BR : Nat → Int} {γ2 : YS} {φ2 : Nat → Int} {θ : Int} (hO : Ok σ) (hL : LR LT) (hK : LOk σ LT) (hI : LI4 LI) (hB : BR9 BR) {k n : Nat} (hk9 : k + 1 ≤ room_1.cells) (hn9 : n + 6 ≤ room_1.slots) {x : Int} (e1 : (xs ((i : Int) + 1).toNat).toInt = x) (r1 : rng x) {y : Int} (e2 : (xs ((i : Int) + 2).toNat).toInt = y) (r2 : rng y) {wh : Int} (e3 : (xs ((i : Int) + 3).toNat).toInt = wh) (r3 : rng wh) (hp : ((0 ≤ x ∧ x < 12) ∧ 0 ≤ y ∧ y < 12)) (hb : ¬ (0 ≤ wh ∧ wh < 5)) (kk : KK p l e s m args below meth c Q D cI cJ b h g a3 i (k + 1) (n + 6)) : Zs p l e room_1 s m args below meth c Q (Av s) D 9 584 (lwL b h g a3 i) [] (lwW cI cJ h g a3 o σ LT γ φ LI BR γ2 φ2 θ) k n := by
  refine z_aload_n C 1 dL_law_584 rfl ?_
  refine z_aload_n C 0 dL_law_585 rfl ?_
  refine z_iload C 4 dL_law_586 rfl ?_
  refine z_iconst C dL_law_588 ?_
  refine z_iadd C dL_law_589 ?_
  refine z_sldv C hX9 hbl (Nat.not_le.mpr hbl) hL2 (by omega) e1 dL_law_590 ?_
  refine z_aload_n C 0 dL_law_591 rfl ?_
  refine z_iload C 4 dL_law_592 rfl ?_
  refine z_iconst C dL_law_594 ?_
  refine z_iadd C dL_law_595 ?_
  refine z_sldv C hX9 hbl (Nat.not_le.mpr hbl) hL2 (by omega) e2 dL_law_596 ?_
  refine z_aload_n C 0 dL_law_597 rfl ?_
  refine z_iload C 4 dL_law_598 rfl ?_
  refine z_iconst C dL_law_600 ?_
  refine z_iadd C dL_law_601 ?_
  refine z_sldv C hX9 hbl (Nat.not_le.mpr hbl) hL2 (by omega) e3 dL_law_602 ?_
  refine z_aload_n C 3 dL_law_603 rfl ?_
  refine z_callW C hX hW9 (As := [.ref (h 0), vI x, vI y, vI wh, .ref a3]) (st := []) (y := yL_told) (w := wsL_told) (rm := rxL_told) (wr := mx cI g σ LI BR γ2 φ2 θ) (k' := (k + 1)) (n' := (n + 6)) [0, 1, 2, 3, 4, 5, 6, 7, 8, 9] [10, 11, 12, 13, 14, 15, 16, 17, 18] (wbx_L_told l D cI cJ h σ LT γ φ x y wh ⟨r1, r2, r3⟩ hp hb a3 o) (vx_cwSW 5 C.1.2.2.2.2 gL_law_L_told rfl rfl rfl (by decide +kernel) ⟨Nat.le_of_ble_eq_true rfl, Nat.le_of_ble_eq_true rfl⟩) rfl rfl rfl rfl rfl (by decide) rfl rfl (Nat.le_of_ble_eq_true rfl) rfl rfl ⟨hk9, hn9⟩ dL_law_604 ?_
  rintro z5 _ ⟨rfl, rfl⟩
  refine z_wsub (ws' := (lwW cI cJ h g a3 o σ LT γ φ LI BR γ2 φ2 θ)) [9, 10, 11, 12, 13, 14, 15, 16, 17, 18, 0, 1, 2, 3, 4, 5, 6, 7, 8] rfl rfl rfl ?_
  refine z_istore C [(5, vI 1), (0, .ref b), (1, .ref (h 0)), (2, .ref (g 0)), (3, .ref a3), (4, vI (i : Int))] dL_law_607 (by decide) rfl ?_
  refine z_aload_n C 3 dL_law_609 rfl ?_
  refine z_aload_n C 1 dL_law_610 rfl ?_
  refine z_iload C 5 dL_law_611 rfl ?_
  refine z_iconst C dL_law_613 ?_
  refine z_iadd C dL_law_614 ?_
  refine z_sldv C hX9 hbl (Nat.not_le.mpr hbl) hL2 (by omega) e1 dL_law_615 ?_
  refine z_aload_n C 1 dL_law_616 rfl ?_
  refine z_iload C 5 dL_law_617 rfl ?_
  refine z_iconst C dL_law_619 ?_
  refine z_iadd C dL_law_620 ?_
  refine z_sldv C hX9 hbl (Nat.not_le.mpr hbl) hL2 (by omega) e2 dL_law_621 ?_
  refine z_aload_n C 1 dL_law_622 rfl ?_
  refine z_iload C 5 dL_law_623 rfl ?_
  refine z_iconst C dL_law_625 ?_
  refine z_iadd C dL_law_626 ?_
  refine z_sldv C hX9 hbl (Nat.not_le.mpr hbl) hL2 (by omega) e3 dL_law_627 ?_
  refine z_callVi C (As := [vI x, vI y, vI wh]) (st := []) (y := yX2_told) (w := wsX2_told) (rm := rm_X2_told) (wr := ((a3, lo cJ o) :: cw cI h σ LT γ φ)) (k' := (k + 1)) (n' := (n + 6)) [10, 11, 12, 13, 14, 15, 16, 17, 18] [0, 1, 2, 3, 4, 5, 6, 7, 8, 9] 10 (b1_X2_told l D cI cJ g σ LI BR γ2 φ2 θ x y wh ⟨r1, r2, r3⟩ hO (fun q => hb q.2)) (cwV 3 C.1.2.2.2.2 gL_law_X2_told rfl rfl rfl (by decide +kernel) ⟨Nat.le_of_ble_eq_true rfl, Nat.le_of_ble_eq_true rfl⟩) rfl rfl rfl rfl rfl (by decide) rfl rfl rfl rfl (Nat.le_of_ble_eq_true rfl) rfl rfl ⟨hk9, hn9⟩ dL_law_628 ?_
  rintro z6 _ ⟨rfl, hz6⟩
  refine z_ws (ws' := (lwW cI cJ h g a3 o σ LT γ φ LI BR γ2 φ2 1)) rfl ?_
  have q6 : rng z6 := by rw [hz6]; decide
  refine z_istore C [(6, vI z6), (5, vI 1), (0, .ref b), (1, .ref (h 0)), (2, .ref (g 0)), (3, .ref a3), (4, vI (i : Int))] dL_law_631 (by decide) rfl ?_
  refine z_aload_n C 4 dL_law_633 rfl ?_
  refine z_callVi C (As := []) (st := []) (y := yX2_thrown) (w := wsX2_thrown) (rm := rm_X2_thrown) (wr := ((a3, lo cJ o) :: cw cI h σ LT γ φ)) (k' := (k + 1)) (n' := (n + 6)) [10, 11, 12, 13, 14, 15, 16, 17, 18] [0, 1, 2, 3, 4, 5, 6, 7, 8, 9] 10 (c_X2_thrown l D cI cJ g σ LI BR γ2 φ2 1) (cwV 0 C.1.2.2.2.2 gL_law_X2_thrown rfl rfl rfl (by decide +kernel) ⟨Nat.le_of_ble_eq_true rfl, Nat.le_of_ble_eq_true rfl⟩) rfl rfl rfl rfl rfl (by decide) rfl rfl rfl rfl (Nat.le_of_ble_eq_true rfl) rfl rfl ⟨hk9, hn9⟩ dL_law_634 ?_
  rintro z7 _ ⟨rfl, rfl⟩
  refine z_ws (ws' := (lwW cI cJ h g a3 o σ LT γ φ LI BR γ2 φ2 1)) rfl ?_
  refine z_iload C 1 dL_law_637 rfl ?_
  refine z_icmp_eq C (tgt := 644) dL_law_639 (by decide) (by omega) (by omega) (fun _ => ?_) (fun c9 => absurd rfl c9)
  refine z_iload C 1 dL_law_644 rfl ?_
  refine z_if_ne C (tgt := 661) dL_law_646 (by decide) (by omega) (fun _ => ?_) (fun c9 => absurd c9 (by decide))
  refine z_goto C (tgt := 1351) dL_law_661 (by decide) ?_
  refine z_sub (lv' := lwL b h g a3 i) [2, 3, 4, 5, 6] rfl ?_
  exact kk _ _ _ _ _ _ _ _ _ _ hO hL hK hI hB

set_option maxHeartbeats 4000000 in
set_option maxRecDepth 100000 in
theorem o0_about {p : Program} {l : Launch} {e : Env} {s : State} {m : MethodId} {args : Array Value} {below : List Frame} {meth : Method} {c : Code} {Q : State → Prop} {D : va_G} {cI cJ : ClassId} (C : Zc p s m args meth c (Av s) D [(cI, .int), (cJ, .long)] 9 cL_law RL wsL_law (some .boolean)) (hX : ZX l s (Av s)) (hW9 : WX s) {b L : Nat} {xs : Nat → Int32} (hX9 : va_X b L xs s s.heap) (hbl : b < s.heap.size) (hL2 : L ≤ 2048) {h g : Nat → Nat} {a3 i : Nat} (hi : i + 4 ≤ L) {o : Nat → Int64} {σ : YS} {LT : Nat → Int} {γ : YS} {φ : Nat → Int} {LI BR : Nat → Int} {γ2 : YS} {φ2 : Nat → Int} {θ : Int} (hO : Ok σ) (hL : LR LT) (hK : LOk σ LT) (hI : LI4 LI) (hB : BR9 BR) {k n : Nat} (hk9 : k + 1 ≤ room_1.cells) (hn9 : n + 6 ≤ room_1.slots) {kl : Int} (e1 : (xs ((i : Int) + 1).toNat).toInt = kl) (r1 : rng kl) {wh : Int} (e2 : (xs ((i : Int) + 2).toNat).toInt = wh) (r2 : rng wh) (ha : 0 ≤ kl ∧ kl < σ 4 0) (hc : 0 ≤ wh ∧ wh < 4) (kk : KK p l e s m args below meth c Q D cI cJ b h g a3 i (k + 1) (n + 6)) : Zs p l e room_1 s m args below meth c Q (Av s) D 9 664 (lwL b h g a3 i) [] (lwW cI cJ h g a3 o σ LT γ φ LI BR γ2 φ2 θ) k n := by
  refine z_aload_n C 1 dL_law_664 rfl ?_
  refine z_aload_n C 0 dL_law_665 rfl ?_
  refine z_iload C 4 dL_law_666 rfl ?_
  refine z_iconst C dL_law_668 ?_
  refine z_iadd C dL_law_669 ?_
  refine z_sldv C hX9 hbl (Nat.not_le.mpr hbl) hL2 (by omega) e1 dL_law_670 ?_
  refine z_aload_n C 0 dL_law_671 rfl ?_
  refine z_iload C 4 dL_law_672 rfl ?_
  refine z_iconst C dL_law_674 ?_
  refine z_iadd C dL_law_675 ?_
  refine z_sldv C hX9 hbl (Nat.not_le.mpr hbl) hL2 (by omega) e2 dL_law_676 ?_
  refine z_aload_n C 3 dL_law_677 rfl ?_
  refine z_callW C hX hW9 (As := [.ref (h 0), vI kl, vI wh, .ref a3]) (st := []) (y := yL_about) (w := wsL_about) (rm := rmL_about) (wr := mx cI g σ LI BR γ2 φ2 θ) (k' := k) (n' := n) [0, 1, 2, 3, 4, 5, 6, 7, 8, 9] [10, 11, 12, 13, 14, 15, 16, 17, 18] (w_L_about l D cI cJ h σ LT γ φ kl wh ha hc hO hL a3 o) (vx_cwSW 4 C.1.2.2.2.2 gL_law_L_about rfl rfl rfl (by decide +kernel) ⟨Nat.le_of_ble_eq_true rfl, Nat.le_of_ble_eq_true rfl⟩) rfl rfl rfl rfl rfl (by decide) rfl rfl (Nat.le_of_ble_eq_true rfl) rfl rfl ⟨Nat.le_trans (Nat.le_add_right _ _) hk9, Nat.le_trans (Nat.le_add_right _ _) hn9⟩ dL_law_678 ?_
  rintro z5 _ ⟨f', rfl, rfl, hf⟩
  refine z_wsub (ws' := (lwW cI cJ h g a3 f' σ LT γ φ LI BR γ2 φ2 θ)) [9, 10, 11, 12, 13, 14, 15, 16, 17, 18, 0, 1, 2, 3, 4, 5, 6, 7, 8] rfl rfl rfl ?_
  refine z_istore C [(5, vI 0), (0, .ref b), (1, .ref (h 0)), (2, .ref (g 0)), (3, .ref a3), (4, vI (i : Int))] dL_law_681 (by decide) rfl ?_
  refine z_aload_n C 3 dL_law_683 rfl ?_
  refine z_aload_n C 1 dL_law_684 rfl ?_
  refine z_iload C 5 dL_law_685 rfl ?_
  refine z_iconst C dL_law_687 ?_
  refine z_iadd C dL_law_688 ?_
  refine z_sldv C hX9 hbl (Nat.not_le.mpr hbl) hL2 (by omega) e1 dL_law_689 ?_
  refine z_aload_n C 1 dL_law_690 rfl ?_
  refine z_iload C 5 dL_law_691 rfl ?_
  refine z_iconst C dL_law_693 ?_
  refine z_iadd C dL_law_694 ?_
  refine z_sldv C hX9 hbl (Nat.not_le.mpr hbl) hL2 (by omega) e2 dL_law_695 ?_
  refine z_callVi C (As := [vI kl, vI wh]) (st := []) (y := yX2_about) (w := wsX2_about) (rm := rm_X2_about) (wr := ((a3, lo cJ f') :: cw cI h σ LT γ φ)) (k' := k) (n' := n) [10, 11, 12, 13, 14, 15, 16, 17, 18] [0, 1, 2, 3, 4, 5, 6, 7, 8, 9] 10 (c_X2_about l D cI cJ g σ LI BR γ2 φ2 θ kl wh ha hc hO hI) (cwV 2 C.1.2.2.2.2 gL_law_X2_about rfl rfl rfl (by decide +kernel) ⟨Nat.le_of_ble_eq_true rfl, Nat.le_of_ble_eq_true rfl⟩) rfl rfl rfl rfl rfl (by decide) rfl rfl rfl rfl (Nat.le_of_ble_eq_true rfl) rfl rfl ⟨Nat.le_trans (Nat.le_add_right _ _) hk9, Nat.le_trans (Nat.le_add_right _ _) hn9⟩ dL_law_696 ?_
  rintro z6 _ ⟨φ'', rfl, hz6⟩
  refine z_ws (ws' := (lwW cI cJ h g a3 f' σ LT γ φ (lkF (lgV σ) LI 144) (lkF (brV σ) BR 144) γ2 φ'' 0)) rfl ?_
  refine z_istore C [(6, vI z6), (5, vI 0), (0, .ref b), (1, .ref (h 0)), (2, .ref (g 0)), (3, .ref a3), (4, vI (i : Int))] dL_law_699 (by decide) rfl ?_
  refine z_aload_n C 4 dL_law_701 rfl ?_
  refine z_callVi C (As := []) (st := []) (y := yX2_thrown) (w := wsX2_thrown) (rm := rm_X2_thrown) (wr := ((a3, lo cJ f') :: cw cI h σ LT γ φ)) (k' := k) (n' := n) [10, 11, 12, 13, 14, 15, 16, 17, 18] [0, 1, 2, 3, 4, 5, 6, 7, 8, 9] 10 (c_X2_thrown l D cI cJ g σ (lkF (lgV σ) LI 144) (lkF (brV σ) BR 144) γ2 φ'' 0) (cwV 0 C.1.2.2.2.2 gL_law_X2_thrown rfl rfl rfl (by decide +kernel) ⟨Nat.le_of_ble_eq_true rfl, Nat.le_of_ble_eq_true rfl⟩) rfl rfl rfl rfl rfl (by decide) rfl rfl rfl rfl (Nat.le_of_ble_eq_true rfl) rfl rfl ⟨Nat.le_trans (Nat.le_add_right _ _) hk9, Nat.le_trans (Nat.le_add_right _ _) hn9⟩ dL_law_702 ?_
  rintro z7 _ ⟨rfl, rfl⟩
  refine z_ws (ws' := (lwW cI cJ h g a3 f' σ LT γ φ (lkF (lgV σ) LI 144) (lkF (brV σ) BR 144) γ2 φ'' 0)) rfl ?_
  refine z_iload C 1 dL_law_705 rfl ?_
  refine z_icmp_eq C (tgt := 712) dL_law_707 (by decide) (by omega) (by omega) (fun _ => ?_) (fun c9 => absurd rfl c9)
  refine z_iload C 1 dL_law_712 rfl ?_
  refine z_if_ne C (tgt := 729) dL_law_714 (by decide) (by omega) (fun c9 => absurd rfl c9) (fun _ => ?_)
  refine z_aload_n C 5 dL_law_717 rfl ?_
  refine z_iconst C dL_law_718 ?_
  refine z_lald C 0 1 rfl rfl dL_law_719 ?_
  refine z_iload C 0 dL_law_720 rfl ?_
  refine z_i2l C dL_law_722 ?_
  refine z_lcmpE C (show f' 0 = (iI z6).toInt64 from (by rw [hf, hz6, abo_e LI hO hL hK (lt_la hO ha) wh])) dL_law_723 ?_
  refine z_if_eq C (tgt := 729) dL_law_724 (by decide) (by omega) (fun _ => ?_) (fun c9 => absurd rfl c9)
  refine z_goto C (tgt := 1351) dL_law_729 (by decide) ?_
  refine z_sub (lv' := lwL b h g a3 i) [2, 3, 4, 5, 6] rfl ?_
  refine z_widen (k' := k + 1) (n' := n + 6) (Nat.le_add_right _ _) (Nat.le_add_right _ _) ?_
  exact kk _ _ _ _ _ _ _ _ _ _ hO hL hK (lkL_r hO hI 144) (lkB_r hO hB (Nat.le_refl _))

set_option maxHeartbeats 4000000 in
set_option maxRecDepth 100000 in
theorem o1_about {p : Program} {l : Launch} {e : Env} {s : State} {m : MethodId} {args : Array Value} {below : List Frame} {meth : Method} {c : Code} {Q : State → Prop} {D : va_G} {cI cJ : ClassId} (C : Zc p s m args meth c (Av s) D [(cI, .int), (cJ, .long)] 9 cL_law RL wsL_law (some .boolean)) (hX : ZX l s (Av s)) (hW9 : WX s) {b L : Nat} {xs : Nat → Int32} (hX9 : va_X b L xs s s.heap) (hbl : b < s.heap.size) (hL2 : L ≤ 2048) {h g : Nat → Nat} {a3 i : Nat} (hi : i + 4 ≤ L) {o : Nat → Int64} {σ : YS} {LT : Nat → Int} {γ : YS} {φ : Nat → Int} {LI BR : Nat → Int} {γ2 : YS} {φ2 : Nat → Int} {θ : Int} (hO : Ok σ) (hL : LR LT) (hK : LOk σ LT) (hI : LI4 LI) (hB : BR9 BR) {k n : Nat} (hk9 : k + 1 ≤ room_1.cells) (hn9 : n + 6 ≤ room_1.slots) {kl : Int} (e1 : (xs ((i : Int) + 1).toNat).toInt = kl) (r1 : rng kl) {wh : Int} (e2 : (xs ((i : Int) + 2).toNat).toInt = wh) (r2 : rng wh) (hb : ¬ (0 ≤ kl ∧ kl < σ 4 0)) (kk : KK p l e s m args below meth c Q D cI cJ b h g a3 i (k + 1) (n + 6)) : Zs p l e room_1 s m args below meth c Q (Av s) D 9 664 (lwL b h g a3 i) [] (lwW cI cJ h g a3 o σ LT γ φ LI BR γ2 φ2 θ) k n := by
  refine z_aload_n C 1 dL_law_664 rfl ?_
  refine z_aload_n C 0 dL_law_665 rfl ?_
  refine z_iload C 4 dL_law_666 rfl ?_
  refine z_iconst C dL_law_668 ?_
  refine z_iadd C dL_law_669 ?_
  refine z_sldv C hX9 hbl (Nat.not_le.mpr hbl) hL2 (by omega) e1 dL_law_670 ?_
  refine z_aload_n C 0 dL_law_671 rfl ?_
  refine z_iload C 4 dL_law_672 rfl ?_
  refine z_iconst C dL_law_674 ?_
  refine z_iadd C dL_law_675 ?_
  refine z_sldv C hX9 hbl (Nat.not_le.mpr hbl) hL2 (by omega) e2 dL_law_676 ?_
  refine z_aload_n C 3 dL_law_677 rfl ?_
  refine z_callW C hX hW9 (As := [.ref (h 0), vI kl, vI wh, .ref a3]) (st := []) (y := yL_about) (w := wsL_about) (rm := rxL_about) (wr := mx cI g σ LI BR γ2 φ2 θ) (k' := (k + 1)) (n' := (n + 6)) [0, 1, 2, 3, 4, 5, 6, 7, 8, 9] [10, 11, 12, 13, 14, 15, 16, 17, 18] (wx_L_about l D cI cJ h σ LT γ φ kl wh ⟨r1, r2⟩ hO hb a3 o) (vx_cwSW 4 C.1.2.2.2.2 gL_law_L_about rfl rfl rfl (by decide +kernel) ⟨Nat.le_of_ble_eq_true rfl, Nat.le_of_ble_eq_true rfl⟩) rfl rfl rfl rfl rfl (by decide) rfl rfl (Nat.le_of_ble_eq_true rfl) rfl rfl ⟨hk9, hn9⟩ dL_law_678 ?_
  rintro z5 _ ⟨rfl, rfl⟩
  refine z_wsub (ws' := (lwW cI cJ h g a3 o σ LT γ φ LI BR γ2 φ2 θ)) [9, 10, 11, 12, 13, 14, 15, 16, 17, 18, 0, 1, 2, 3, 4, 5, 6, 7, 8] rfl rfl rfl ?_
  refine z_istore C [(5, vI 1), (0, .ref b), (1, .ref (h 0)), (2, .ref (g 0)), (3, .ref a3), (4, vI (i : Int))] dL_law_681 (by decide) rfl ?_
  refine z_aload_n C 3 dL_law_683 rfl ?_
  refine z_aload_n C 1 dL_law_684 rfl ?_
  refine z_iload C 5 dL_law_685 rfl ?_
  refine z_iconst C dL_law_687 ?_
  refine z_iadd C dL_law_688 ?_
  refine z_sldv C hX9 hbl (Nat.not_le.mpr hbl) hL2 (by omega) e1 dL_law_689 ?_
  refine z_aload_n C 1 dL_law_690 rfl ?_
  refine z_iload C 5 dL_law_691 rfl ?_
  refine z_iconst C dL_law_693 ?_
  refine z_iadd C dL_law_694 ?_
  refine z_sldv C hX9 hbl (Nat.not_le.mpr hbl) hL2 (by omega) e2 dL_law_695 ?_
  refine z_callVi C (As := [vI kl, vI wh]) (st := []) (y := yX2_about) (w := wsX2_about) (rm := rm_X2_about) (wr := ((a3, lo cJ o) :: cw cI h σ LT γ φ)) (k' := (k + 1)) (n' := (n + 6)) [10, 11, 12, 13, 14, 15, 16, 17, 18] [0, 1, 2, 3, 4, 5, 6, 7, 8, 9] 10 (b1_X2_about l D cI cJ g σ LI BR γ2 φ2 θ kl wh ⟨r1, r2⟩ hO (fun q => hb q.1)) (cwV 2 C.1.2.2.2.2 gL_law_X2_about rfl rfl rfl (by decide +kernel) ⟨Nat.le_of_ble_eq_true rfl, Nat.le_of_ble_eq_true rfl⟩) rfl rfl rfl rfl rfl (by decide) rfl rfl rfl rfl (Nat.le_of_ble_eq_true rfl) rfl rfl ⟨hk9, hn9⟩ dL_law_696 ?_
  rintro z6 _ ⟨rfl, hz6⟩
  refine z_ws (ws' := (lwW cI cJ h g a3 o σ LT γ φ LI BR γ2 φ2 1)) rfl ?_
  have q6 : rng z6 := by rw [hz6]; decide
  refine z_istore C [(6, vI z6), (5, vI 1), (0, .ref b), (1, .ref (h 0)), (2, .ref (g 0)), (3, .ref a3), (4, vI (i : Int))] dL_law_699 (by decide) rfl ?_
  refine z_aload_n C 4 dL_law_701 rfl ?_
  refine z_callVi C (As := []) (st := []) (y := yX2_thrown) (w := wsX2_thrown) (rm := rm_X2_thrown) (wr := ((a3, lo cJ o) :: cw cI h σ LT γ φ)) (k' := (k + 1)) (n' := (n + 6)) [10, 11, 12, 13, 14, 15, 16, 17, 18] [0, 1, 2, 3, 4, 5, 6, 7, 8, 9] 10 (c_X2_thrown l D cI cJ g σ LI BR γ2 φ2 1) (cwV 0 C.1.2.2.2.2 gL_law_X2_thrown rfl rfl rfl (by decide +kernel) ⟨Nat.le_of_ble_eq_true rfl, Nat.le_of_ble_eq_true rfl⟩) rfl rfl rfl rfl rfl (by decide) rfl rfl rfl rfl (Nat.le_of_ble_eq_true rfl) rfl rfl ⟨hk9, hn9⟩ dL_law_702 ?_
  rintro z7 _ ⟨rfl, rfl⟩
  refine z_ws (ws' := (lwW cI cJ h g a3 o σ LT γ φ LI BR γ2 φ2 1)) rfl ?_
  refine z_iload C 1 dL_law_705 rfl ?_
  refine z_icmp_eq C (tgt := 712) dL_law_707 (by decide) (by omega) (by omega) (fun _ => ?_) (fun c9 => absurd rfl c9)
  refine z_iload C 1 dL_law_712 rfl ?_
  refine z_if_ne C (tgt := 729) dL_law_714 (by decide) (by omega) (fun _ => ?_) (fun c9 => absurd c9 (by decide))
  refine z_goto C (tgt := 1351) dL_law_729 (by decide) ?_
  refine z_sub (lv' := lwL b h g a3 i) [2, 3, 4, 5, 6] rfl ?_
  exact kk _ _ _ _ _ _ _ _ _ _ hO hL hK hI hB

set_option maxHeartbeats 4000000 in
set_option maxRecDepth 100000 in
theorem o2_about {p : Program} {l : Launch} {e : Env} {s : State} {m : MethodId} {args : Array Value} {below : List Frame} {meth : Method} {c : Code} {Q : State → Prop} {D : va_G} {cI cJ : ClassId} (C : Zc p s m args meth c (Av s) D [(cI, .int), (cJ, .long)] 9 cL_law RL wsL_law (some .boolean)) (hX : ZX l s (Av s)) (hW9 : WX s) {b L : Nat} {xs : Nat → Int32} (hX9 : va_X b L xs s s.heap) (hbl : b < s.heap.size) (hL2 : L ≤ 2048) {h g : Nat → Nat} {a3 i : Nat} (hi : i + 4 ≤ L) {o : Nat → Int64} {σ : YS} {LT : Nat → Int} {γ : YS} {φ : Nat → Int} {LI BR : Nat → Int} {γ2 : YS} {φ2 : Nat → Int} {θ : Int} (hO : Ok σ) (hL : LR LT) (hK : LOk σ LT) (hI : LI4 LI) (hB : BR9 BR) {k n : Nat} (hk9 : k + 1 ≤ room_1.cells) (hn9 : n + 6 ≤ room_1.slots) {kl : Int} (e1 : (xs ((i : Int) + 1).toNat).toInt = kl) (r1 : rng kl) {wh : Int} (e2 : (xs ((i : Int) + 2).toNat).toInt = wh) (r2 : rng wh) (ha : 0 ≤ kl ∧ kl < σ 4 0) (hb : ¬ (0 ≤ wh ∧ wh < 4)) (kk : KK p l e s m args below meth c Q D cI cJ b h g a3 i (k + 1) (n + 6)) : Zs p l e room_1 s m args below meth c Q (Av s) D 9 664 (lwL b h g a3 i) [] (lwW cI cJ h g a3 o σ LT γ φ LI BR γ2 φ2 θ) k n := by
  refine z_aload_n C 1 dL_law_664 rfl ?_
  refine z_aload_n C 0 dL_law_665 rfl ?_
  refine z_iload C 4 dL_law_666 rfl ?_
  refine z_iconst C dL_law_668 ?_
  refine z_iadd C dL_law_669 ?_
  refine z_sldv C hX9 hbl (Nat.not_le.mpr hbl) hL2 (by omega) e1 dL_law_670 ?_
  refine z_aload_n C 0 dL_law_671 rfl ?_
  refine z_iload C 4 dL_law_672 rfl ?_
  refine z_iconst C dL_law_674 ?_
  refine z_iadd C dL_law_675 ?_
  refine z_sldv C hX9 hbl (Nat.not_le.mpr hbl) hL2 (by omega) e2 dL_law_676 ?_
  refine z_aload_n C 3 dL_law_677 rfl ?_
  refine z_callW C hX hW9 (As := [.ref (h 0), vI kl, vI wh, .ref a3]) (st := []) (y := yL_about) (w := wsL_about) (rm := rxL_about) (wr := mx cI g σ LI BR γ2 φ2 θ) (k' := (k + 1)) (n' := (n + 6)) [0, 1, 2, 3, 4, 5, 6, 7, 8, 9] [10, 11, 12, 13, 14, 15, 16, 17, 18] (wbx_L_about l D cI cJ h σ LT γ φ kl wh ⟨r1, r2⟩ hO ha hb a3 o) (vx_cwSW 4 C.1.2.2.2.2 gL_law_L_about rfl rfl rfl (by decide +kernel) ⟨Nat.le_of_ble_eq_true rfl, Nat.le_of_ble_eq_true rfl⟩) rfl rfl rfl rfl rfl (by decide) rfl rfl (Nat.le_of_ble_eq_true rfl) rfl rfl ⟨hk9, hn9⟩ dL_law_678 ?_
  rintro z5 _ ⟨rfl, rfl⟩
  refine z_wsub (ws' := (lwW cI cJ h g a3 o σ LT γ φ LI BR γ2 φ2 θ)) [9, 10, 11, 12, 13, 14, 15, 16, 17, 18, 0, 1, 2, 3, 4, 5, 6, 7, 8] rfl rfl rfl ?_
  refine z_istore C [(5, vI 1), (0, .ref b), (1, .ref (h 0)), (2, .ref (g 0)), (3, .ref a3), (4, vI (i : Int))] dL_law_681 (by decide) rfl ?_
  refine z_aload_n C 3 dL_law_683 rfl ?_
  refine z_aload_n C 1 dL_law_684 rfl ?_
  refine z_iload C 5 dL_law_685 rfl ?_
  refine z_iconst C dL_law_687 ?_
  refine z_iadd C dL_law_688 ?_
  refine z_sldv C hX9 hbl (Nat.not_le.mpr hbl) hL2 (by omega) e1 dL_law_689 ?_
  refine z_aload_n C 1 dL_law_690 rfl ?_
  refine z_iload C 5 dL_law_691 rfl ?_
  refine z_iconst C dL_law_693 ?_
  refine z_iadd C dL_law_694 ?_
  refine z_sldv C hX9 hbl (Nat.not_le.mpr hbl) hL2 (by omega) e2 dL_law_695 ?_
  refine z_callVi C (As := [vI kl, vI wh]) (st := []) (y := yX2_about) (w := wsX2_about) (rm := rm_X2_about) (wr := ((a3, lo cJ o) :: cw cI h σ LT γ φ)) (k' := (k + 1)) (n' := (n + 6)) [10, 11, 12, 13, 14, 15, 16, 17, 18] [0, 1, 2, 3, 4, 5, 6, 7, 8, 9] 10 (b1_X2_about l D cI cJ g σ LI BR γ2 φ2 θ kl wh ⟨r1, r2⟩ hO (fun q => hb q.2)) (cwV 2 C.1.2.2.2.2 gL_law_X2_about rfl rfl rfl (by decide +kernel) ⟨Nat.le_of_ble_eq_true rfl, Nat.le_of_ble_eq_true rfl⟩) rfl rfl rfl rfl rfl (by decide) rfl rfl rfl rfl (Nat.le_of_ble_eq_true rfl) rfl rfl ⟨hk9, hn9⟩ dL_law_696 ?_
  rintro z6 _ ⟨rfl, hz6⟩
  refine z_ws (ws' := (lwW cI cJ h g a3 o σ LT γ φ LI BR γ2 φ2 1)) rfl ?_
  have q6 : rng z6 := by rw [hz6]; decide
  refine z_istore C [(6, vI z6), (5, vI 1), (0, .ref b), (1, .ref (h 0)), (2, .ref (g 0)), (3, .ref a3), (4, vI (i : Int))] dL_law_699 (by decide) rfl ?_
  refine z_aload_n C 4 dL_law_701 rfl ?_
  refine z_callVi C (As := []) (st := []) (y := yX2_thrown) (w := wsX2_thrown) (rm := rm_X2_thrown) (wr := ((a3, lo cJ o) :: cw cI h σ LT γ φ)) (k' := (k + 1)) (n' := (n + 6)) [10, 11, 12, 13, 14, 15, 16, 17, 18] [0, 1, 2, 3, 4, 5, 6, 7, 8, 9] 10 (c_X2_thrown l D cI cJ g σ LI BR γ2 φ2 1) (cwV 0 C.1.2.2.2.2 gL_law_X2_thrown rfl rfl rfl (by decide +kernel) ⟨Nat.le_of_ble_eq_true rfl, Nat.le_of_ble_eq_true rfl⟩) rfl rfl rfl rfl rfl (by decide) rfl rfl rfl rfl (Nat.le_of_ble_eq_true rfl) rfl rfl ⟨hk9, hn9⟩ dL_law_702 ?_
  rintro z7 _ ⟨rfl, rfl⟩
  refine z_ws (ws' := (lwW cI cJ h g a3 o σ LT γ φ LI BR γ2 φ2 1)) rfl ?_
  refine z_iload C 1 dL_law_705 rfl ?_
  refine z_icmp_eq C (tgt := 712) dL_law_707 (by decide) (by omega) (by omega) (fun _ => ?_) (fun c9 => absurd rfl c9)
  refine z_iload C 1 dL_law_712 rfl ?_
  refine z_if_ne C (tgt := 729) dL_law_714 (by decide) (by omega) (fun _ => ?_) (fun c9 => absurd c9 (by decide))
  refine z_goto C (tgt := 1351) dL_law_729 (by decide) ?_
  refine z_sub (lv' := lwL b h g a3 i) [2, 3, 4, 5, 6] rfl ?_
  exact kk _ _ _ _ _ _ _ _ _ _ hO hL hK hI hB

set_option maxHeartbeats 4000000 in
set_option maxRecDepth 100000 in
theorem o0_seat {p : Program} {l : Launch} {e : Env} {s : State} {m : MethodId} {args : Array Value} {below : List Frame} {meth : Method} {c : Code} {Q : State → Prop} {D : va_G} {cI cJ : ClassId} (C : Zc p s m args meth c (Av s) D [(cI, .int), (cJ, .long)] 9 cL_law RL wsL_law (some .boolean)) (hX : ZX l s (Av s)) (hW9 : WX s) {b L : Nat} {xs : Nat → Int32} (hX9 : va_X b L xs s s.heap) (hbl : b < s.heap.size) (hL2 : L ≤ 2048) {h g : Nat → Nat} {a3 i : Nat} (hi : i + 4 ≤ L) {o : Nat → Int64} {σ : YS} {LT : Nat → Int} {γ : YS} {φ : Nat → Int} {LI BR : Nat → Int} {γ2 : YS} {φ2 : Nat → Int} {θ : Int} (hO : Ok σ) (hL : LR LT) (hK : LOk σ LT) (hI : LI4 LI) (hB : BR9 BR) {k n : Nat} (hk9 : k + 1 ≤ room_1.cells) (hn9 : n + 6 ≤ room_1.slots) {w : Int} (e1 : (xs ((i : Int) + 1).toNat).toInt = w) (r1 : rng w) {wh : Int} (e2 : (xs ((i : Int) + 2).toNat).toInt = wh) (r2 : rng wh) (ha : 0 ≤ w ∧ w < σ 4 1) (hc : 0 ≤ wh ∧ wh < 5) (kk : KK p l e s m args below meth c Q D cI cJ b h g a3 i (k + 1) (n + 6)) : Zs p l e room_1 s m args below meth c Q (Av s) D 9 732 (lwL b h g a3 i) [] (lwW cI cJ h g a3 o σ LT γ φ LI BR γ2 φ2 θ) k n := by
  refine z_aload_n C 1 dL_law_732 rfl ?_
  refine z_aload_n C 0 dL_law_733 rfl ?_
  refine z_iload C 4 dL_law_734 rfl ?_
  refine z_iconst C dL_law_736 ?_
  refine z_iadd C dL_law_737 ?_
  refine z_sldv C hX9 hbl (Nat.not_le.mpr hbl) hL2 (by omega) e1 dL_law_738 ?_
  refine z_aload_n C 0 dL_law_739 rfl ?_
  refine z_iload C 4 dL_law_740 rfl ?_
  refine z_iconst C dL_law_742 ?_
  refine z_iadd C dL_law_743 ?_
  refine z_sldv C hX9 hbl (Nat.not_le.mpr hbl) hL2 (by omega) e2 dL_law_744 ?_
  refine z_aload_n C 3 dL_law_745 rfl ?_
  refine z_callW C hX hW9 (As := [.ref (h 0), vI w, vI wh, .ref a3]) (st := []) (y := yL_seat) (w := wsL_seat) (rm := rmL_seat) (wr := mx cI g σ LI BR γ2 φ2 θ) (k' := k) (n' := n) [0, 1, 2, 3, 4, 5, 6, 7, 8, 9] [10, 11, 12, 13, 14, 15, 16, 17, 18] (w_L_seat l D cI cJ h σ LT γ φ w wh ha hc hO hL a3 o) (vx_cwSW 4 C.1.2.2.2.2 gL_law_L_seat rfl rfl rfl (by decide +kernel) ⟨Nat.le_of_ble_eq_true rfl, Nat.le_of_ble_eq_true rfl⟩) rfl rfl rfl rfl rfl (by decide) rfl rfl (Nat.le_of_ble_eq_true rfl) rfl rfl ⟨Nat.le_trans (Nat.le_add_right _ _) hk9, Nat.le_trans (Nat.le_add_right _ _) hn9⟩ dL_law_746 ?_
  rintro z5 _ ⟨f', φ', rfl, rfl, hf⟩
  refine z_wsub (ws' := (lwW cI cJ h g a3 f' σ LT γ φ' LI BR γ2 φ2 θ)) [9, 10, 11, 12, 13, 14, 15, 16, 17, 18, 0, 1, 2, 3, 4, 5, 6, 7, 8] rfl rfl rfl ?_
  refine z_istore C [(5, vI 0), (0, .ref b), (1, .ref (h 0)), (2, .ref (g 0)), (3, .ref a3), (4, vI (i : Int))] dL_law_749 (by decide) rfl ?_
  refine z_aload_n C 3 dL_law_751 rfl ?_
  refine z_aload_n C 1 dL_law_752 rfl ?_
  refine z_iload C 5 dL_law_753 rfl ?_
  refine z_iconst C dL_law_755 ?_
  refine z_iadd C dL_law_756 ?_
  refine z_sldv C hX9 hbl (Nat.not_le.mpr hbl) hL2 (by omega) e1 dL_law_757 ?_
  refine z_aload_n C 1 dL_law_758 rfl ?_
  refine z_iload C 5 dL_law_759 rfl ?_
  refine z_iconst C dL_law_761 ?_
  refine z_iadd C dL_law_762 ?_
  refine z_sldv C hX9 hbl (Nat.not_le.mpr hbl) hL2 (by omega) e2 dL_law_763 ?_
  refine z_callVi C (As := [vI w, vI wh]) (st := []) (y := yX2_seat) (w := wsX2_seat) (rm := rm_X2_seat) (wr := ((a3, lo cJ f') :: cw cI h σ LT γ φ')) (k' := k) (n' := n) [10, 11, 12, 13, 14, 15, 16, 17, 18] [0, 1, 2, 3, 4, 5, 6, 7, 8, 9] 10 (c_X2_seat l D cI cJ g σ LI BR γ2 φ2 θ w wh ha hc hO hI) (cwV 2 C.1.2.2.2.2 gL_law_X2_seat rfl rfl rfl (by decide +kernel) ⟨Nat.le_of_ble_eq_true rfl, Nat.le_of_ble_eq_true rfl⟩) rfl rfl rfl rfl rfl (by decide) rfl rfl rfl rfl (Nat.le_of_ble_eq_true rfl) rfl rfl ⟨Nat.le_trans (Nat.le_add_right _ _) hk9, Nat.le_trans (Nat.le_add_right _ _) hn9⟩ dL_law_764 ?_
  rintro z6 _ ⟨φ'', rfl, hz6⟩
  refine z_ws (ws' := (lwW cI cJ h g a3 f' σ LT γ φ' (lkF (lgV σ) LI 144) (lkF (brV σ) BR 144) γ2 φ'' 0)) rfl ?_
  refine z_istore C [(6, vI z6), (5, vI 0), (0, .ref b), (1, .ref (h 0)), (2, .ref (g 0)), (3, .ref a3), (4, vI (i : Int))] dL_law_767 (by decide) rfl ?_
  refine z_aload_n C 4 dL_law_769 rfl ?_
  refine z_callVi C (As := []) (st := []) (y := yX2_thrown) (w := wsX2_thrown) (rm := rm_X2_thrown) (wr := ((a3, lo cJ f') :: cw cI h σ LT γ φ')) (k' := k) (n' := n) [10, 11, 12, 13, 14, 15, 16, 17, 18] [0, 1, 2, 3, 4, 5, 6, 7, 8, 9] 10 (c_X2_thrown l D cI cJ g σ (lkF (lgV σ) LI 144) (lkF (brV σ) BR 144) γ2 φ'' 0) (cwV 0 C.1.2.2.2.2 gL_law_X2_thrown rfl rfl rfl (by decide +kernel) ⟨Nat.le_of_ble_eq_true rfl, Nat.le_of_ble_eq_true rfl⟩) rfl rfl rfl rfl rfl (by decide) rfl rfl rfl rfl (Nat.le_of_ble_eq_true rfl) rfl rfl ⟨Nat.le_trans (Nat.le_add_right _ _) hk9, Nat.le_trans (Nat.le_add_right _ _) hn9⟩ dL_law_770 ?_
  rintro z7 _ ⟨rfl, rfl⟩
  refine z_ws (ws' := (lwW cI cJ h g a3 f' σ LT γ φ' (lkF (lgV σ) LI 144) (lkF (brV σ) BR 144) γ2 φ'' 0)) rfl ?_
  refine z_iload C 1 dL_law_773 rfl ?_
  refine z_icmp_eq C (tgt := 780) dL_law_775 (by decide) (by omega) (by omega) (fun _ => ?_) (fun c9 => absurd rfl c9)
  refine z_iload C 1 dL_law_780 rfl ?_
  refine z_if_ne C (tgt := 797) dL_law_782 (by decide) (by omega) (fun c9 => absurd rfl c9) (fun _ => ?_)
  refine z_aload_n C 5 dL_law_785 rfl ?_
  refine z_iconst C dL_law_786 ?_
  refine z_lald C 0 1 rfl rfl dL_law_787 ?_
  refine z_iload C 0 dL_law_788 rfl ?_
  refine z_i2l C dL_law_790 ?_
  refine z_lcmpE C (show f' 0 = (iI z6).toInt64 from (by rw [hf, hz6, sea_e hO (ag_of LI hO hL hK) (lt_wa hO ha) wh])) dL_law_791 ?_
  refine z_if_eq C (tgt := 797) dL_law_792 (by decide) (by omega) (fun _ => ?_) (fun c9 => absurd rfl c9)
  refine z_goto C (tgt := 1351) dL_law_797 (by decide) ?_
  refine z_sub (lv' := lwL b h g a3 i) [2, 3, 4, 5, 6] rfl ?_
  refine z_widen (k' := k + 1) (n' := n + 6) (Nat.le_add_right _ _) (Nat.le_add_right _ _) ?_
  exact kk _ _ _ _ _ _ _ _ _ _ hO hL hK (lkL_r hO hI 144) (lkB_r hO hB (Nat.le_refl _))

set_option maxHeartbeats 4000000 in
set_option maxRecDepth 100000 in
theorem o1_seat {p : Program} {l : Launch} {e : Env} {s : State} {m : MethodId} {args : Array Value} {below : List Frame} {meth : Method} {c : Code} {Q : State → Prop} {D : va_G} {cI cJ : ClassId} (C : Zc p s m args meth c (Av s) D [(cI, .int), (cJ, .long)] 9 cL_law RL wsL_law (some .boolean)) (hX : ZX l s (Av s)) (hW9 : WX s) {b L : Nat} {xs : Nat → Int32} (hX9 : va_X b L xs s s.heap) (hbl : b < s.heap.size) (hL2 : L ≤ 2048) {h g : Nat → Nat} {a3 i : Nat} (hi : i + 4 ≤ L) {o : Nat → Int64} {σ : YS} {LT : Nat → Int} {γ : YS} {φ : Nat → Int} {LI BR : Nat → Int} {γ2 : YS} {φ2 : Nat → Int} {θ : Int} (hO : Ok σ) (hL : LR LT) (hK : LOk σ LT) (hI : LI4 LI) (hB : BR9 BR) {k n : Nat} (hk9 : k + 1 ≤ room_1.cells) (hn9 : n + 6 ≤ room_1.slots) {w : Int} (e1 : (xs ((i : Int) + 1).toNat).toInt = w) (r1 : rng w) {wh : Int} (e2 : (xs ((i : Int) + 2).toNat).toInt = wh) (r2 : rng wh) (hb : ¬ (0 ≤ w ∧ w < σ 4 1)) (kk : KK p l e s m args below meth c Q D cI cJ b h g a3 i (k + 1) (n + 6)) : Zs p l e room_1 s m args below meth c Q (Av s) D 9 732 (lwL b h g a3 i) [] (lwW cI cJ h g a3 o σ LT γ φ LI BR γ2 φ2 θ) k n := by
  refine z_aload_n C 1 dL_law_732 rfl ?_
  refine z_aload_n C 0 dL_law_733 rfl ?_
  refine z_iload C 4 dL_law_734 rfl ?_
  refine z_iconst C dL_law_736 ?_
  refine z_iadd C dL_law_737 ?_
  refine z_sldv C hX9 hbl (Nat.not_le.mpr hbl) hL2 (by omega) e1 dL_law_738 ?_
  refine z_aload_n C 0 dL_law_739 rfl ?_
  refine z_iload C 4 dL_law_740 rfl ?_
  refine z_iconst C dL_law_742 ?_
  refine z_iadd C dL_law_743 ?_
  refine z_sldv C hX9 hbl (Nat.not_le.mpr hbl) hL2 (by omega) e2 dL_law_744 ?_
  refine z_aload_n C 3 dL_law_745 rfl ?_
  refine z_callW C hX hW9 (As := [.ref (h 0), vI w, vI wh, .ref a3]) (st := []) (y := yL_seat) (w := wsL_seat) (rm := rxL_seat) (wr := mx cI g σ LI BR γ2 φ2 θ) (k' := (k + 1)) (n' := (n + 6)) [0, 1, 2, 3, 4, 5, 6, 7, 8, 9] [10, 11, 12, 13, 14, 15, 16, 17, 18] (wx_L_seat l D cI cJ h σ LT γ φ w wh ⟨r1, r2⟩ hO hb a3 o) (vx_cwSW 4 C.1.2.2.2.2 gL_law_L_seat rfl rfl rfl (by decide +kernel) ⟨Nat.le_of_ble_eq_true rfl, Nat.le_of_ble_eq_true rfl⟩) rfl rfl rfl rfl rfl (by decide) rfl rfl (Nat.le_of_ble_eq_true rfl) rfl rfl ⟨hk9, hn9⟩ dL_law_746 ?_
  rintro z5 _ ⟨rfl, rfl⟩
  refine z_wsub (ws' := (lwW cI cJ h g a3 o σ LT γ φ LI BR γ2 φ2 θ)) [9, 10, 11, 12, 13, 14, 15, 16, 17, 18, 0, 1, 2, 3, 4, 5, 6, 7, 8] rfl rfl rfl ?_
  refine z_istore C [(5, vI 1), (0, .ref b), (1, .ref (h 0)), (2, .ref (g 0)), (3, .ref a3), (4, vI (i : Int))] dL_law_749 (by decide) rfl ?_
  refine z_aload_n C 3 dL_law_751 rfl ?_
  refine z_aload_n C 1 dL_law_752 rfl ?_
  refine z_iload C 5 dL_law_753 rfl ?_
  refine z_iconst C dL_law_755 ?_
  refine z_iadd C dL_law_756 ?_
  refine z_sldv C hX9 hbl (Nat.not_le.mpr hbl) hL2 (by omega) e1 dL_law_757 ?_
  refine z_aload_n C 1 dL_law_758 rfl ?_
  refine z_iload C 5 dL_law_759 rfl ?_
  refine z_iconst C dL_law_761 ?_
  refine z_iadd C dL_law_762 ?_
  refine z_sldv C hX9 hbl (Nat.not_le.mpr hbl) hL2 (by omega) e2 dL_law_763 ?_
  refine z_callVi C (As := [vI w, vI wh]) (st := []) (y := yX2_seat) (w := wsX2_seat) (rm := rm_X2_seat) (wr := ((a3, lo cJ o) :: cw cI h σ LT γ φ)) (k' := (k + 1)) (n' := (n + 6)) [10, 11, 12, 13, 14, 15, 16, 17, 18] [0, 1, 2, 3, 4, 5, 6, 7, 8, 9] 10 (b1_X2_seat l D cI cJ g σ LI BR γ2 φ2 θ w wh ⟨r1, r2⟩ hO (fun q => hb q.1)) (cwV 2 C.1.2.2.2.2 gL_law_X2_seat rfl rfl rfl (by decide +kernel) ⟨Nat.le_of_ble_eq_true rfl, Nat.le_of_ble_eq_true rfl⟩) rfl rfl rfl rfl rfl (by decide) rfl rfl rfl rfl (Nat.le_of_ble_eq_true rfl) rfl rfl ⟨hk9, hn9⟩ dL_law_764 ?_
  rintro z6 _ ⟨rfl, hz6⟩
  refine z_ws (ws' := (lwW cI cJ h g a3 o σ LT γ φ LI BR γ2 φ2 1)) rfl ?_
  have q6 : rng z6 := by rw [hz6]; decide
  refine z_istore C [(6, vI z6), (5, vI 1), (0, .ref b), (1, .ref (h 0)), (2, .ref (g 0)), (3, .ref a3), (4, vI (i : Int))] dL_law_767 (by decide) rfl ?_
  refine z_aload_n C 4 dL_law_769 rfl ?_
  refine z_callVi C (As := []) (st := []) (y := yX2_thrown) (w := wsX2_thrown) (rm := rm_X2_thrown) (wr := ((a3, lo cJ o) :: cw cI h σ LT γ φ)) (k' := (k + 1)) (n' := (n + 6)) [10, 11, 12, 13, 14, 15, 16, 17, 18] [0, 1, 2, 3, 4, 5, 6, 7, 8, 9] 10 (c_X2_thrown l D cI cJ g σ LI BR γ2 φ2 1) (cwV 0 C.1.2.2.2.2 gL_law_X2_thrown rfl rfl rfl (by decide +kernel) ⟨Nat.le_of_ble_eq_true rfl, Nat.le_of_ble_eq_true rfl⟩) rfl rfl rfl rfl rfl (by decide) rfl rfl rfl rfl (Nat.le_of_ble_eq_true rfl) rfl rfl ⟨hk9, hn9⟩ dL_law_770 ?_
  rintro z7 _ ⟨rfl, rfl⟩
  refine z_ws (ws' := (lwW cI cJ h g a3 o σ LT γ φ LI BR γ2 φ2 1)) rfl ?_
  refine z_iload C 1 dL_law_773 rfl ?_
  refine z_icmp_eq C (tgt := 780) dL_law_775 (by decide) (by omega) (by omega) (fun _ => ?_) (fun c9 => absurd rfl c9)
  refine z_iload C 1 dL_law_780 rfl ?_
  refine z_if_ne C (tgt := 797) dL_law_782 (by decide) (by omega) (fun _ => ?_) (fun c9 => absurd c9 (by decide))
  refine z_goto C (tgt := 1351) dL_law_797 (by decide) ?_
  refine z_sub (lv' := lwL b h g a3 i) [2, 3, 4, 5, 6] rfl ?_
  exact kk _ _ _ _ _ _ _ _ _ _ hO hL hK hI hB

set_option maxHeartbeats 4000000 in
set_option maxRecDepth 100000 in
theorem o2_seat {p : Program} {l : Launch} {e : Env} {s : State} {m : MethodId} {args : Array Value} {below : List Frame} {meth : Method} {c : Code} {Q : State → Prop} {D : va_G} {cI cJ : ClassId} (C : Zc p s m args meth c (Av s) D [(cI, .int), (cJ, .long)] 9 cL_law RL wsL_law (some .boolean)) (hX : ZX l s (Av s)) (hW9 : WX s) {b L : Nat} {xs : Nat → Int32} (hX9 : va_X b L xs s s.heap) (hbl : b < s.heap.size) (hL2 : L ≤ 2048) {h g : Nat → Nat} {a3 i : Nat} (hi : i + 4 ≤ L) {o : Nat → Int64} {σ : YS} {LT : Nat → Int} {γ : YS} {φ : Nat → Int} {LI BR : Nat → Int} {γ2 : YS} {φ2 : Nat → Int} {θ : Int} (hO : Ok σ) (hL : LR LT) (hK : LOk σ LT) (hI : LI4 LI) (hB : BR9 BR) {k n : Nat} (hk9 : k + 1 ≤ room_1.cells) (hn9 : n + 6 ≤ room_1.slots) {w : Int} (e1 : (xs ((i : Int) + 1).toNat).toInt = w) (r1 : rng w) {wh : Int} (e2 : (xs ((i : Int) + 2).toNat).toInt = wh) (r2 : rng wh) (ha : 0 ≤ w ∧ w < σ 4 1) (hb : ¬ (0 ≤ wh ∧ wh < 5)) (kk : KK p l e s m args below meth c Q D cI cJ b h g a3 i (k + 1) (n + 6)) : Zs p l e room_1 s m args below meth c Q (Av s) D 9 732 (lwL b h g a3 i) [] (lwW cI cJ h g a3 o σ LT γ φ LI BR γ2 φ2 θ) k n := by
  refine z_aload_n C 1 dL_law_732 rfl ?_
  refine z_aload_n C 0 dL_law_733 rfl ?_
  refine z_iload C 4 dL_law_734 rfl ?_
  refine z_iconst C dL_law_736 ?_
  refine z_iadd C dL_law_737 ?_
  refine z_sldv C hX9 hbl (Nat.not_le.mpr hbl) hL2 (by omega) e1 dL_law_738 ?_
  refine z_aload_n C 0 dL_law_739 rfl ?_
  refine z_iload C 4 dL_law_740 rfl ?_
  refine z_iconst C dL_law_742 ?_
  refine z_iadd C dL_law_743 ?_
  refine z_sldv C hX9 hbl (Nat.not_le.mpr hbl) hL2 (by omega) e2 dL_law_744 ?_
  refine z_aload_n C 3 dL_law_745 rfl ?_
  refine z_callW C hX hW9 (As := [.ref (h 0), vI w, vI wh, .ref a3]) (st := []) (y := yL_seat) (w := wsL_seat) (rm := rxL_seat) (wr := mx cI g σ LI BR γ2 φ2 θ) (k' := (k + 1)) (n' := (n + 6)) [0, 1, 2, 3, 4, 5, 6, 7, 8, 9] [10, 11, 12, 13, 14, 15, 16, 17, 18] (wbx_L_seat l D cI cJ h σ LT γ φ w wh ⟨r1, r2⟩ hO ha hb a3 o) (vx_cwSW 4 C.1.2.2.2.2 gL_law_L_seat rfl rfl rfl (by decide +kernel) ⟨Nat.le_of_ble_eq_true rfl, Nat.le_of_ble_eq_true rfl⟩) rfl rfl rfl rfl rfl (by decide) rfl rfl (Nat.le_of_ble_eq_true rfl) rfl rfl ⟨hk9, hn9⟩ dL_law_746 ?_
  rintro z5 _ ⟨rfl, rfl⟩
  refine z_wsub (ws' := (lwW cI cJ h g a3 o σ LT γ φ LI BR γ2 φ2 θ)) [9, 10, 11, 12, 13, 14, 15, 16, 17, 18, 0, 1, 2, 3, 4, 5, 6, 7, 8] rfl rfl rfl ?_
  refine z_istore C [(5, vI 1), (0, .ref b), (1, .ref (h 0)), (2, .ref (g 0)), (3, .ref a3), (4, vI (i : Int))] dL_law_749 (by decide) rfl ?_
  refine z_aload_n C 3 dL_law_751 rfl ?_
  refine z_aload_n C 1 dL_law_752 rfl ?_
  refine z_iload C 5 dL_law_753 rfl ?_
  refine z_iconst C dL_law_755 ?_
  refine z_iadd C dL_law_756 ?_
  refine z_sldv C hX9 hbl (Nat.not_le.mpr hbl) hL2 (by omega) e1 dL_law_757 ?_
  refine z_aload_n C 1 dL_law_758 rfl ?_
  refine z_iload C 5 dL_law_759 rfl ?_
  refine z_iconst C dL_law_761 ?_
  refine z_iadd C dL_law_762 ?_
  refine z_sldv C hX9 hbl (Nat.not_le.mpr hbl) hL2 (by omega) e2 dL_law_763 ?_
  refine z_callVi C (As := [vI w, vI wh]) (st := []) (y := yX2_seat) (w := wsX2_seat) (rm := rm_X2_seat) (wr := ((a3, lo cJ o) :: cw cI h σ LT γ φ)) (k' := (k + 1)) (n' := (n + 6)) [10, 11, 12, 13, 14, 15, 16, 17, 18] [0, 1, 2, 3, 4, 5, 6, 7, 8, 9] 10 (b1_X2_seat l D cI cJ g σ LI BR γ2 φ2 θ w wh ⟨r1, r2⟩ hO (fun q => hb q.2)) (cwV 2 C.1.2.2.2.2 gL_law_X2_seat rfl rfl rfl (by decide +kernel) ⟨Nat.le_of_ble_eq_true rfl, Nat.le_of_ble_eq_true rfl⟩) rfl rfl rfl rfl rfl (by decide) rfl rfl rfl rfl (Nat.le_of_ble_eq_true rfl) rfl rfl ⟨hk9, hn9⟩ dL_law_764 ?_
  rintro z6 _ ⟨rfl, hz6⟩
  refine z_ws (ws' := (lwW cI cJ h g a3 o σ LT γ φ LI BR γ2 φ2 1)) rfl ?_
  have q6 : rng z6 := by rw [hz6]; decide
  refine z_istore C [(6, vI z6), (5, vI 1), (0, .ref b), (1, .ref (h 0)), (2, .ref (g 0)), (3, .ref a3), (4, vI (i : Int))] dL_law_767 (by decide) rfl ?_
  refine z_aload_n C 4 dL_law_769 rfl ?_
  refine z_callVi C (As := []) (st := []) (y := yX2_thrown) (w := wsX2_thrown) (rm := rm_X2_thrown) (wr := ((a3, lo cJ o) :: cw cI h σ LT γ φ)) (k' := (k + 1)) (n' := (n + 6)) [10, 11, 12, 13, 14, 15, 16, 17, 18] [0, 1, 2, 3, 4, 5, 6, 7, 8, 9] 10 (c_X2_thrown l D cI cJ g σ LI BR γ2 φ2 1) (cwV 0 C.1.2.2.2.2 gL_law_X2_thrown rfl rfl rfl (by decide +kernel) ⟨Nat.le_of_ble_eq_true rfl, Nat.le_of_ble_eq_true rfl⟩) rfl rfl rfl rfl rfl (by decide) rfl rfl rfl rfl (Nat.le_of_ble_eq_true rfl) rfl rfl ⟨hk9, hn9⟩ dL_law_770 ?_
  rintro z7 _ ⟨rfl, rfl⟩
  refine z_ws (ws' := (lwW cI cJ h g a3 o σ LT γ φ LI BR γ2 φ2 1)) rfl ?_
  refine z_iload C 1 dL_law_773 rfl ?_
  refine z_icmp_eq C (tgt := 780) dL_law_775 (by decide) (by omega) (by omega) (fun _ => ?_) (fun c9 => absurd rfl c9)
  refine z_iload C 1 dL_law_780 rfl ?_
  refine z_if_ne C (tgt := 797) dL_law_782 (by decide) (by omega) (fun _ => ?_) (fun c9 => absurd c9 (by decide))
  refine z_goto C (tgt := 1351) dL_law_797 (by decide) ?_
  refine z_sub (lv' := lwL b h g a3 i) [2, 3, 4, 5, 6] rfl ?_
  exact kk _ _ _ _ _ _ _ _ _ _ hO hL hK hI hB

set_option maxHeartbeats 4000000 in
set_option maxRecDepth 100000 in
theorem o0_sees {p : Program} {l : Launch} {e : Env} {s : State} {m : MethodId} {args : Array Value} {below : List Frame} {meth : Method} {c : Code} {Q : State → Prop} {D : va_G} {cI cJ : ClassId} (C : Zc p s m args meth c (Av s) D [(cI, .int), (cJ, .long)] 9 cL_law RL wsL_law (some .boolean)) (hX : ZX l s (Av s)) (hW9 : WX s) {b L : Nat} {xs : Nat → Int32} (hX9 : va_X b L xs s s.heap) (hbl : b < s.heap.size) (hL2 : L ≤ 2048) {h g : Nat → Nat} {a3 i : Nat} (hi : i + 4 ≤ L) {o : Nat → Int64} {σ : YS} {LT : Nat → Int} {γ : YS} {φ : Nat → Int} {LI BR : Nat → Int} {γ2 : YS} {φ2 : Nat → Int} {θ : Int} (hO : Ok σ) (hL : LR LT) (hK : LOk σ LT) (hI : LI4 LI) (hB : BR9 BR) {k n : Nat} (hk9 : k + 1 ≤ room_1.cells) (hn9 : n + 6 ≤ room_1.slots) {w : Int} (e1 : (xs ((i : Int) + 1).toNat).toInt = w) (r1 : rng w) {ow : Int} (e2 : (xs ((i : Int) + 2).toNat).toInt = ow) (r2 : rng ow) (ha : 0 ≤ w ∧ w < σ 4 1) (hc : 0 ≤ ow ∧ ow < σ 4 1) (kk : KK p l e s m args below meth c Q D cI cJ b h g a3 i (k + 1) (n + 6)) : Zs p l e room_1 s m args below meth c Q (Av s) D 9 800 (lwL b h g a3 i) [] (lwW cI cJ h g a3 o σ LT γ φ LI BR γ2 φ2 θ) k n := by
  refine z_aload_n C 1 dL_law_800 rfl ?_
  refine z_aload_n C 0 dL_law_801 rfl ?_
  refine z_iload C 4 dL_law_802 rfl ?_
  refine z_iconst C dL_law_804 ?_
  refine z_iadd C dL_law_805 ?_
  refine z_sldv C hX9 hbl (Nat.not_le.mpr hbl) hL2 (by omega) e1 dL_law_806 ?_
  refine z_aload_n C 0 dL_law_807 rfl ?_
  refine z_iload C 4 dL_law_808 rfl ?_
  refine z_iconst C dL_law_810 ?_
  refine z_iadd C dL_law_811 ?_
  refine z_sldv C hX9 hbl (Nat.not_le.mpr hbl) hL2 (by omega) e2 dL_law_812 ?_
  refine z_aload_n C 3 dL_law_813 rfl ?_
  refine z_callW C hX hW9 (As := [.ref (h 0), vI w, vI ow, .ref a3]) (st := []) (y := yL_sees) (w := wsL_sees) (rm := rmL_sees) (wr := mx cI g σ LI BR γ2 φ2 θ) (k' := k) (n' := n) [0, 1, 2, 3, 4, 5, 6, 7, 8, 9] [10, 11, 12, 13, 14, 15, 16, 17, 18] (w_L_sees l D cI cJ h σ LT γ φ w ow ha hc hO hL a3 o) (vx_cwSW 4 C.1.2.2.2.2 gL_law_L_sees rfl rfl rfl (by decide +kernel) ⟨Nat.le_of_ble_eq_true rfl, Nat.le_of_ble_eq_true rfl⟩) rfl rfl rfl rfl rfl (by decide) rfl rfl (Nat.le_of_ble_eq_true rfl) rfl rfl ⟨Nat.le_trans (Nat.le_add_right _ _) hk9, Nat.le_trans (Nat.le_add_right _ _) hn9⟩ dL_law_814 ?_
  rintro z5 _ ⟨f', φ', rfl, rfl, hf⟩
  refine z_wsub (ws' := (lwW cI cJ h g a3 f' σ LT γ φ' LI BR γ2 φ2 θ)) [9, 10, 11, 12, 13, 14, 15, 16, 17, 18, 0, 1, 2, 3, 4, 5, 6, 7, 8] rfl rfl rfl ?_
  refine z_istore C [(5, vI 0), (0, .ref b), (1, .ref (h 0)), (2, .ref (g 0)), (3, .ref a3), (4, vI (i : Int))] dL_law_817 (by decide) rfl ?_
  refine z_aload_n C 3 dL_law_819 rfl ?_
  refine z_aload_n C 1 dL_law_820 rfl ?_
  refine z_iload C 5 dL_law_821 rfl ?_
  refine z_iconst C dL_law_823 ?_
  refine z_iadd C dL_law_824 ?_
  refine z_sldv C hX9 hbl (Nat.not_le.mpr hbl) hL2 (by omega) e1 dL_law_825 ?_
  refine z_aload_n C 1 dL_law_826 rfl ?_
  refine z_iload C 5 dL_law_827 rfl ?_
  refine z_iconst C dL_law_829 ?_
  refine z_iadd C dL_law_830 ?_
  refine z_sldv C hX9 hbl (Nat.not_le.mpr hbl) hL2 (by omega) e2 dL_law_831 ?_
  refine z_callVi C (As := [vI w, vI ow]) (st := []) (y := yX2_sees) (w := wsX2_sees) (rm := rm_X2_sees) (wr := ((a3, lo cJ f') :: cw cI h σ LT γ φ')) (k' := k) (n' := n) [10, 11, 12, 13, 14, 15, 16, 17, 18] [0, 1, 2, 3, 4, 5, 6, 7, 8, 9] 10 (c_X2_sees l D cI cJ g σ LI BR γ2 φ2 θ w ow ha hc hO hI) (cwV 2 C.1.2.2.2.2 gL_law_X2_sees rfl rfl rfl (by decide +kernel) ⟨Nat.le_of_ble_eq_true rfl, Nat.le_of_ble_eq_true rfl⟩) rfl rfl rfl rfl rfl (by decide) rfl rfl rfl rfl (Nat.le_of_ble_eq_true rfl) rfl rfl ⟨Nat.le_trans (Nat.le_add_right _ _) hk9, Nat.le_trans (Nat.le_add_right _ _) hn9⟩ dL_law_832 ?_
  rintro z6 _ ⟨φ'', rfl, hz6⟩
  refine z_ws (ws' := (lwW cI cJ h g a3 f' σ LT γ φ' (lkF (lgV σ) LI 144) (lkF (brV σ) BR 144) γ2 φ'' 0)) rfl ?_
  refine z_istore C [(6, vI z6), (5, vI 0), (0, .ref b), (1, .ref (h 0)), (2, .ref (g 0)), (3, .ref a3), (4, vI (i : Int))] dL_law_835 (by decide) rfl ?_
  refine z_aload_n C 4 dL_law_837 rfl ?_
  refine z_callVi C (As := []) (st := []) (y := yX2_thrown) (w := wsX2_thrown) (rm := rm_X2_thrown) (wr := ((a3, lo cJ f') :: cw cI h σ LT γ φ')) (k' := k) (n' := n) [10, 11, 12, 13, 14, 15, 16, 17, 18] [0, 1, 2, 3, 4, 5, 6, 7, 8, 9] 10 (c_X2_thrown l D cI cJ g σ (lkF (lgV σ) LI 144) (lkF (brV σ) BR 144) γ2 φ'' 0) (cwV 0 C.1.2.2.2.2 gL_law_X2_thrown rfl rfl rfl (by decide +kernel) ⟨Nat.le_of_ble_eq_true rfl, Nat.le_of_ble_eq_true rfl⟩) rfl rfl rfl rfl rfl (by decide) rfl rfl rfl rfl (Nat.le_of_ble_eq_true rfl) rfl rfl ⟨Nat.le_trans (Nat.le_add_right _ _) hk9, Nat.le_trans (Nat.le_add_right _ _) hn9⟩ dL_law_838 ?_
  rintro z7 _ ⟨rfl, rfl⟩
  refine z_ws (ws' := (lwW cI cJ h g a3 f' σ LT γ φ' (lkF (lgV σ) LI 144) (lkF (brV σ) BR 144) γ2 φ'' 0)) rfl ?_
  refine z_iload C 1 dL_law_841 rfl ?_
  refine z_icmp_eq C (tgt := 848) dL_law_843 (by decide) (by omega) (by omega) (fun _ => ?_) (fun c9 => absurd rfl c9)
  refine z_iload C 1 dL_law_848 rfl ?_
  refine z_if_ne C (tgt := 872) dL_law_850 (by decide) (by omega) (fun c9 => absurd rfl c9) (fun _ => ?_)
  refine z_aload_n C 5 dL_law_853 rfl ?_
  refine z_iconst C dL_law_854 ?_
  refine z_lald C 0 1 rfl rfl dL_law_855 ?_
  refine z_iload C 0 dL_law_856 rfl ?_
  have q6 : z6 = 0 ∨ z6 = 1 := by rw [hz6]; exact bI_01 _
  refine z_if_eq C (tgt := 865) dL_law_858 (by decide) (by omega) (fun c6 => ?_) (fun c6 => ?_)
  ·
    refine z_lconst C (w := 0) dL_law_865 rfl ?_
    refine z_lcmpE C (show f' 0 = 0 by rw [show f' 0 = (iI z6).toInt64 from (by rw [hf, hz6, see_e (ag_of LI hO hL hK) w.toNat (st_w hO hc)]), show z6 = 0 by omega]; rfl) dL_law_866 ?_
    refine z_if_eq C (tgt := 872) dL_law_867 (by decide) (by omega) (fun _ => ?_) (fun c9 => absurd rfl c9)
    refine z_goto C (tgt := 1351) dL_law_872 (by decide) ?_
    refine z_sub (lv' := lwL b h g a3 i) [2, 3, 4, 5, 6] rfl ?_
    refine z_widen (k' := k + 1) (n' := n + 6) (Nat.le_add_right _ _) (Nat.le_add_right _ _) ?_
    exact kk _ _ _ _ _ _ _ _ _ _ hO hL hK (lkL_r hO hI 144) (lkB_r hO hB (Nat.le_refl _))
  ·
    refine z_lconst C (w := 1) dL_law_861 rfl ?_
    refine z_goto C (tgt := 866) dL_law_862 (by decide) ?_
    refine z_lcmpE C (show f' 0 = 1 by rw [show f' 0 = (iI z6).toInt64 from (by rw [hf, hz6, see_e (ag_of LI hO hL hK) w.toNat (st_w hO hc)]), show z6 = 1 by omega]; rfl) dL_law_866 ?_
    refine z_if_eq C (tgt := 872) dL_law_867 (by decide) (by omega) (fun _ => ?_) (fun c9 => absurd rfl c9)
    refine z_goto C (tgt := 1351) dL_law_872 (by decide) ?_
    refine z_sub (lv' := lwL b h g a3 i) [2, 3, 4, 5, 6] rfl ?_
    refine z_widen (k' := k + 1) (n' := n + 6) (Nat.le_add_right _ _) (Nat.le_add_right _ _) ?_
    exact kk _ _ _ _ _ _ _ _ _ _ hO hL hK (lkL_r hO hI 144) (lkB_r hO hB (Nat.le_refl _))

set_option maxHeartbeats 4000000 in
set_option maxRecDepth 100000 in
theorem o1_sees {p : Program} {l : Launch} {e : Env} {s : State} {m : MethodId} {args : Array Value} {below : List Frame} {meth : Method} {c : Code} {Q : State → Prop} {D : va_G} {cI cJ : ClassId} (C : Zc p s m args meth c (Av s) D [(cI, .int), (cJ, .long)] 9 cL_law RL wsL_law (some .boolean)) (hX : ZX l s (Av s)) (hW9 : WX s) {b L : Nat} {xs : Nat → Int32} (hX9 : va_X b L xs s s.heap) (hbl : b < s.heap.size) (hL2 : L ≤ 2048) {h g : Nat → Nat} {a3 i : Nat} (hi : i + 4 ≤ L) {o : Nat → Int64} {σ : YS} {LT : Nat → Int} {γ : YS} {φ : Nat → Int} {LI BR : Nat → Int} {γ2 : YS} {φ2 : Nat → Int} {θ : Int} (hO : Ok σ) (hL : LR LT) (hK : LOk σ LT) (hI : LI4 LI) (hB : BR9 BR) {k n : Nat} (hk9 : k + 1 ≤ room_1.cells) (hn9 : n + 6 ≤ room_1.slots) {w : Int} (e1 : (xs ((i : Int) + 1).toNat).toInt = w) (r1 : rng w) {ow : Int} (e2 : (xs ((i : Int) + 2).toNat).toInt = ow) (r2 : rng ow) (hb : ¬ (0 ≤ w ∧ w < σ 4 1)) (kk : KK p l e s m args below meth c Q D cI cJ b h g a3 i (k + 1) (n + 6)) : Zs p l e room_1 s m args below meth c Q (Av s) D 9 800 (lwL b h g a3 i) [] (lwW cI cJ h g a3 o σ LT γ φ LI BR γ2 φ2 θ) k n := by
  refine z_aload_n C 1 dL_law_800 rfl ?_
  refine z_aload_n C 0 dL_law_801 rfl ?_
  refine z_iload C 4 dL_law_802 rfl ?_
  refine z_iconst C dL_law_804 ?_
  refine z_iadd C dL_law_805 ?_
  refine z_sldv C hX9 hbl (Nat.not_le.mpr hbl) hL2 (by omega) e1 dL_law_806 ?_
  refine z_aload_n C 0 dL_law_807 rfl ?_
  refine z_iload C 4 dL_law_808 rfl ?_
  refine z_iconst C dL_law_810 ?_
  refine z_iadd C dL_law_811 ?_
  refine z_sldv C hX9 hbl (Nat.not_le.mpr hbl) hL2 (by omega) e2 dL_law_812 ?_
  refine z_aload_n C 3 dL_law_813 rfl ?_
  refine z_callW C hX hW9 (As := [.ref (h 0), vI w, vI ow, .ref a3]) (st := []) (y := yL_sees) (w := wsL_sees) (rm := rxL_sees) (wr := mx cI g σ LI BR γ2 φ2 θ) (k' := (k + 1)) (n' := (n + 6)) [0, 1, 2, 3, 4, 5, 6, 7, 8, 9] [10, 11, 12, 13, 14, 15, 16, 17, 18] (wx_L_sees l D cI cJ h σ LT γ φ w ow ⟨r1, r2⟩ hO hb a3 o) (vx_cwSW 4 C.1.2.2.2.2 gL_law_L_sees rfl rfl rfl (by decide +kernel) ⟨Nat.le_of_ble_eq_true rfl, Nat.le_of_ble_eq_true rfl⟩) rfl rfl rfl rfl rfl (by decide) rfl rfl (Nat.le_of_ble_eq_true rfl) rfl rfl ⟨hk9, hn9⟩ dL_law_814 ?_
  rintro z5 _ ⟨rfl, rfl⟩
  refine z_wsub (ws' := (lwW cI cJ h g a3 o σ LT γ φ LI BR γ2 φ2 θ)) [9, 10, 11, 12, 13, 14, 15, 16, 17, 18, 0, 1, 2, 3, 4, 5, 6, 7, 8] rfl rfl rfl ?_
  refine z_istore C [(5, vI 1), (0, .ref b), (1, .ref (h 0)), (2, .ref (g 0)), (3, .ref a3), (4, vI (i : Int))] dL_law_817 (by decide) rfl ?_
  refine z_aload_n C 3 dL_law_819 rfl ?_
  refine z_aload_n C 1 dL_law_820 rfl ?_
  refine z_iload C 5 dL_law_821 rfl ?_
  refine z_iconst C dL_law_823 ?_
  refine z_iadd C dL_law_824 ?_
  refine z_sldv C hX9 hbl (Nat.not_le.mpr hbl) hL2 (by omega) e1 dL_law_825 ?_
  refine z_aload_n C 1 dL_law_826 rfl ?_
  refine z_iload C 5 dL_law_827 rfl ?_
  refine z_iconst C dL_law_829 ?_
  refine z_iadd C dL_law_830 ?_
  refine z_sldv C hX9 hbl (Nat.not_le.mpr hbl) hL2 (by omega) e2 dL_law_831 ?_
  refine z_callVi C (As := [vI w, vI ow]) (st := []) (y := yX2_sees) (w := wsX2_sees) (rm := rm_X2_sees) (wr := ((a3, lo cJ o) :: cw cI h σ LT γ φ)) (k' := (k + 1)) (n' := (n + 6)) [10, 11, 12, 13, 14, 15, 16, 17, 18] [0, 1, 2, 3, 4, 5, 6, 7, 8, 9] 10 (b1_X2_sees l D cI cJ g σ LI BR γ2 φ2 θ w ow ⟨r1, r2⟩ hO (fun q => hb q.1)) (cwV 2 C.1.2.2.2.2 gL_law_X2_sees rfl rfl rfl (by decide +kernel) ⟨Nat.le_of_ble_eq_true rfl, Nat.le_of_ble_eq_true rfl⟩) rfl rfl rfl rfl rfl (by decide) rfl rfl rfl rfl (Nat.le_of_ble_eq_true rfl) rfl rfl ⟨hk9, hn9⟩ dL_law_832 ?_
  rintro z6 _ ⟨rfl, hz6⟩
  refine z_ws (ws' := (lwW cI cJ h g a3 o σ LT γ φ LI BR γ2 φ2 1)) rfl ?_
  have q6 : rng z6 := by rw [hz6]; decide
  refine z_istore C [(6, vI z6), (5, vI 1), (0, .ref b), (1, .ref (h 0)), (2, .ref (g 0)), (3, .ref a3), (4, vI (i : Int))] dL_law_835 (by decide) rfl ?_
  refine z_aload_n C 4 dL_law_837 rfl ?_
  refine z_callVi C (As := []) (st := []) (y := yX2_thrown) (w := wsX2_thrown) (rm := rm_X2_thrown) (wr := ((a3, lo cJ o) :: cw cI h σ LT γ φ)) (k' := (k + 1)) (n' := (n + 6)) [10, 11, 12, 13, 14, 15, 16, 17, 18] [0, 1, 2, 3, 4, 5, 6, 7, 8, 9] 10 (c_X2_thrown l D cI cJ g σ LI BR γ2 φ2 1) (cwV 0 C.1.2.2.2.2 gL_law_X2_thrown rfl rfl rfl (by decide +kernel) ⟨Nat.le_of_ble_eq_true rfl, Nat.le_of_ble_eq_true rfl⟩) rfl rfl rfl rfl rfl (by decide) rfl rfl rfl rfl (Nat.le_of_ble_eq_true rfl) rfl rfl ⟨hk9, hn9⟩ dL_law_838 ?_
  rintro z7 _ ⟨rfl, rfl⟩
  refine z_ws (ws' := (lwW cI cJ h g a3 o σ LT γ φ LI BR γ2 φ2 1)) rfl ?_
  refine z_iload C 1 dL_law_841 rfl ?_
  refine z_icmp_eq C (tgt := 848) dL_law_843 (by decide) (by omega) (by omega) (fun _ => ?_) (fun c9 => absurd rfl c9)
  refine z_iload C 1 dL_law_848 rfl ?_
  refine z_if_ne C (tgt := 872) dL_law_850 (by decide) (by omega) (fun _ => ?_) (fun c9 => absurd c9 (by decide))
  refine z_goto C (tgt := 1351) dL_law_872 (by decide) ?_
  refine z_sub (lv' := lwL b h g a3 i) [2, 3, 4, 5, 6] rfl ?_
  exact kk _ _ _ _ _ _ _ _ _ _ hO hL hK hI hB

set_option maxHeartbeats 4000000 in
set_option maxRecDepth 100000 in
theorem o2_sees {p : Program} {l : Launch} {e : Env} {s : State} {m : MethodId} {args : Array Value} {below : List Frame} {meth : Method} {c : Code} {Q : State → Prop} {D : va_G} {cI cJ : ClassId} (C : Zc p s m args meth c (Av s) D [(cI, .int), (cJ, .long)] 9 cL_law RL wsL_law (some .boolean)) (hX : ZX l s (Av s)) (hW9 : WX s) {b L : Nat} {xs : Nat → Int32} (hX9 : va_X b L xs s s.heap) (hbl : b < s.heap.size) (hL2 : L ≤ 2048) {h g : Nat → Nat} {a3 i : Nat} (hi : i + 4 ≤ L) {o : Nat → Int64} {σ : YS} {LT : Nat → Int} {γ : YS} {φ : Nat → Int} {LI BR : Nat → Int} {γ2 : YS} {φ2 : Nat → Int} {θ : Int} (hO : Ok σ) (hL : LR LT) (hK : LOk σ LT) (hI : LI4 LI) (hB : BR9 BR) {k n : Nat} (hk9 : k + 1 ≤ room_1.cells) (hn9 : n + 6 ≤ room_1.slots) {w : Int} (e1 : (xs ((i : Int) + 1).toNat).toInt = w) (r1 : rng w) {ow : Int} (e2 : (xs ((i : Int) + 2).toNat).toInt = ow) (r2 : rng ow) (ha : 0 ≤ w ∧ w < σ 4 1) (hb : ¬ (0 ≤ ow ∧ ow < σ 4 1)) (kk : KK p l e s m args below meth c Q D cI cJ b h g a3 i (k + 1) (n + 6)) : Zs p l e room_1 s m args below meth c Q (Av s) D 9 800 (lwL b h g a3 i) [] (lwW cI cJ h g a3 o σ LT γ φ LI BR γ2 φ2 θ) k n := by
  refine z_aload_n C 1 dL_law_800 rfl ?_
  refine z_aload_n C 0 dL_law_801 rfl ?_
  refine z_iload C 4 dL_law_802 rfl ?_
  refine z_iconst C dL_law_804 ?_
  refine z_iadd C dL_law_805 ?_
  refine z_sldv C hX9 hbl (Nat.not_le.mpr hbl) hL2 (by omega) e1 dL_law_806 ?_
  refine z_aload_n C 0 dL_law_807 rfl ?_
  refine z_iload C 4 dL_law_808 rfl ?_
  refine z_iconst C dL_law_810 ?_
  refine z_iadd C dL_law_811 ?_
  refine z_sldv C hX9 hbl (Nat.not_le.mpr hbl) hL2 (by omega) e2 dL_law_812 ?_
  refine z_aload_n C 3 dL_law_813 rfl ?_
  refine z_callW C hX hW9 (As := [.ref (h 0), vI w, vI ow, .ref a3]) (st := []) (y := yL_sees) (w := wsL_sees) (rm := rxL_sees) (wr := mx cI g σ LI BR γ2 φ2 θ) (k' := (k + 1)) (n' := (n + 6)) [0, 1, 2, 3, 4, 5, 6, 7, 8, 9] [10, 11, 12, 13, 14, 15, 16, 17, 18] (wbx_L_sees l D cI cJ h σ LT γ φ w ow ⟨r1, r2⟩ hO ha hb a3 o) (vx_cwSW 4 C.1.2.2.2.2 gL_law_L_sees rfl rfl rfl (by decide +kernel) ⟨Nat.le_of_ble_eq_true rfl, Nat.le_of_ble_eq_true rfl⟩) rfl rfl rfl rfl rfl (by decide) rfl rfl (Nat.le_of_ble_eq_true rfl) rfl rfl ⟨hk9, hn9⟩ dL_law_814 ?_
  rintro z5 _ ⟨rfl, rfl⟩
  refine z_wsub (ws' := (lwW cI cJ h g a3 o σ LT γ φ LI BR γ2 φ2 θ)) [9, 10, 11, 12, 13, 14, 15, 16, 17, 18, 0, 1, 2, 3, 4, 5, 6, 7, 8] rfl rfl rfl ?_
  refine z_istore C [(5, vI 1), (0, .ref b), (1, .ref (h 0)), (2, .ref (g 0)), (3, .ref a3), (4, vI (i : Int))] dL_law_817 (by decide) rfl ?_
  refine z_aload_n C 3 dL_law_819 rfl ?_
  refine z_aload_n C 1 dL_law_820 rfl ?_
  refine z_iload C 5 dL_law_821 rfl ?_
  refine z_iconst C dL_law_823 ?_
  refine z_iadd C dL_law_824 ?_
  refine z_sldv C hX9 hbl (Nat.not_le.mpr hbl) hL2 (by omega) e1 dL_law_825 ?_
  refine z_aload_n C 1 dL_law_826 rfl ?_
  refine z_iload C 5 dL_law_827 rfl ?_
  refine z_iconst C dL_law_829 ?_
  refine z_iadd C dL_law_830 ?_
  refine z_sldv C hX9 hbl (Nat.not_le.mpr hbl) hL2 (by omega) e2 dL_law_831 ?_
  refine z_callVi C (As := [vI w, vI ow]) (st := []) (y := yX2_sees) (w := wsX2_sees) (rm := rm_X2_sees) (wr := ((a3, lo cJ o) :: cw cI h σ LT γ φ)) (k' := (k + 1)) (n' := (n + 6)) [10, 11, 12, 13, 14, 15, 16, 17, 18] [0, 1, 2, 3, 4, 5, 6, 7, 8, 9] 10 (b1_X2_sees l D cI cJ g σ LI BR γ2 φ2 θ w ow ⟨r1, r2⟩ hO (fun q => hb q.2)) (cwV 2 C.1.2.2.2.2 gL_law_X2_sees rfl rfl rfl (by decide +kernel) ⟨Nat.le_of_ble_eq_true rfl, Nat.le_of_ble_eq_true rfl⟩) rfl rfl rfl rfl rfl (by decide) rfl rfl rfl rfl (Nat.le_of_ble_eq_true rfl) rfl rfl ⟨hk9, hn9⟩ dL_law_832 ?_
  rintro z6 _ ⟨rfl, hz6⟩
  refine z_ws (ws' := (lwW cI cJ h g a3 o σ LT γ φ LI BR γ2 φ2 1)) rfl ?_
  have q6 : rng z6 := by rw [hz6]; decide
  refine z_istore C [(6, vI z6), (5, vI 1), (0, .ref b), (1, .ref (h 0)), (2, .ref (g 0)), (3, .ref a3), (4, vI (i : Int))] dL_law_835 (by decide) rfl ?_
  refine z_aload_n C 4 dL_law_837 rfl ?_
  refine z_callVi C (As := []) (st := []) (y := yX2_thrown) (w := wsX2_thrown) (rm := rm_X2_thrown) (wr := ((a3, lo cJ o) :: cw cI h σ LT γ φ)) (k' := (k + 1)) (n' := (n + 6)) [10, 11, 12, 13, 14, 15, 16, 17, 18] [0, 1, 2, 3, 4, 5, 6, 7, 8, 9] 10 (c_X2_thrown l D cI cJ g σ LI BR γ2 φ2 1) (cwV 0 C.1.2.2.2.2 gL_law_X2_thrown rfl rfl rfl (by decide +kernel) ⟨Nat.le_of_ble_eq_true rfl, Nat.le_of_ble_eq_true rfl⟩) rfl rfl rfl rfl rfl (by decide) rfl rfl rfl rfl (Nat.le_of_ble_eq_true rfl) rfl rfl ⟨hk9, hn9⟩ dL_law_838 ?_
  rintro z7 _ ⟨rfl, rfl⟩
  refine z_ws (ws' := (lwW cI cJ h g a3 o σ LT γ φ LI BR γ2 φ2 1)) rfl ?_
  refine z_iload C 1 dL_law_841 rfl ?_
  refine z_icmp_eq C (tgt := 848) dL_law_843 (by decide) (by omega) (by omega) (fun _ => ?_) (fun c9 => absurd rfl c9)
  refine z_iload C 1 dL_law_848 rfl ?_
  refine z_if_ne C (tgt := 872) dL_law_850 (by decide) (by omega) (fun _ => ?_) (fun c9 => absurd c9 (by decide))
  refine z_goto C (tgt := 1351) dL_law_872 (by decide) ?_
  refine z_sub (lv' := lwL b h g a3 i) [2, 3, 4, 5, 6] rfl ?_
  exact kk _ _ _ _ _ _ _ _ _ _ hO hL hK hI hB

set_option maxHeartbeats 4000000 in
set_option maxRecDepth 100000 in
theorem o0_count {p : Program} {l : Launch} {e : Env} {s : State} {m : MethodId} {args : Array Value} {below : List Frame} {meth : Method} {c : Code} {Q : State → Prop} {D : va_G} {cI cJ : ClassId} (C : Zc p s m args meth c (Av s) D [(cI, .int), (cJ, .long)] 9 cL_law RL wsL_law (some .boolean)) (hX : ZX l s (Av s)) (hW9 : WX s) {b L : Nat} {xs : Nat → Int32} (hX9 : va_X b L xs s s.heap) (hbl : b < s.heap.size) (hL2 : L ≤ 2048) {h g : Nat → Nat} {a3 i : Nat} (hi : i + 4 ≤ L) {o : Nat → Int64} {σ : YS} {LT : Nat → Int} {γ : YS} {φ : Nat → Int} {LI BR : Nat → Int} {γ2 : YS} {φ2 : Nat → Int} {θ : Int} (hO : Ok σ) (hL : LR LT) (hK : LOk σ LT) (hI : LI4 LI) (hB : BR9 BR) {k n : Nat} (hk9 : k + 1 ≤ room_1.cells) (hn9 : n + 6 ≤ room_1.slots) {wh : Int} (e1 : (xs ((i : Int) + 1).toNat).toInt = wh) (r1 : rng wh) (hwh : 0 ≤ wh ∧ wh < 8) (kk : KK p l e s m args below meth c Q D cI cJ b h g a3 i (k + 1) (n + 6)) : Zs p l e room_1 s m args below meth c Q (Av s) D 9 875 (lwL b h g a3 i) [] (lwW cI cJ h g a3 o σ LT γ φ LI BR γ2 φ2 θ) k n := by
  refine z_aload_n C 1 dL_law_875 rfl ?_
  refine z_aload_n C 0 dL_law_876 rfl ?_
  refine z_iload C 4 dL_law_877 rfl ?_
  refine z_iconst C dL_law_879 ?_
  refine z_iadd C dL_law_880 ?_
  refine z_sldv C hX9 hbl (Nat.not_le.mpr hbl) hL2 (by omega) e1 dL_law_881 ?_
  refine z_aload_n C 3 dL_law_882 rfl ?_
  refine z_callW C hX hW9 (As := [.ref (h 0), vI wh, .ref a3]) (st := []) (y := yL_count) (w := wsL_count) (rm := rmL_count) (wr := mx cI g σ LI BR γ2 φ2 θ) (k' := k) (n' := n) [0, 1, 2, 3, 4, 5, 6, 7, 8, 9] [10, 11, 12, 13, 14, 15, 16, 17, 18] (w_L_count l D cI cJ h σ LT γ φ wh hwh hO hL a3 o) (vx_cwSW 3 C.1.2.2.2.2 gL_law_L_count rfl rfl rfl (by decide +kernel) ⟨Nat.le_of_ble_eq_true rfl, Nat.le_of_ble_eq_true rfl⟩) rfl rfl rfl rfl rfl (by decide) rfl rfl (Nat.le_of_ble_eq_true rfl) rfl rfl ⟨Nat.le_trans (Nat.le_add_right _ _) hk9, Nat.le_trans (Nat.le_add_right _ _) hn9⟩ dL_law_883 ?_
  rintro z5 _ ⟨f', φ', rfl, rfl, hf⟩
  refine z_wsub (ws' := (lwW cI cJ h g a3 f' σ LT γ φ' LI BR γ2 φ2 θ)) [9, 10, 11, 12, 13, 14, 15, 16, 17, 18, 0, 1, 2, 3, 4, 5, 6, 7, 8] rfl rfl rfl ?_
  refine z_istore C [(5, vI 0), (0, .ref b), (1, .ref (h 0)), (2, .ref (g 0)), (3, .ref a3), (4, vI (i : Int))] dL_law_886 (by decide) rfl ?_
  refine z_aload_n C 3 dL_law_888 rfl ?_
  refine z_aload_n C 1 dL_law_889 rfl ?_
  refine z_iload C 5 dL_law_890 rfl ?_
  refine z_iconst C dL_law_892 ?_
  refine z_iadd C dL_law_893 ?_
  refine z_sldv C hX9 hbl (Nat.not_le.mpr hbl) hL2 (by omega) e1 dL_law_894 ?_
  refine z_callVi C (As := [vI wh]) (st := []) (y := yX2_count) (w := wsX2_count) (rm := rm_X2_count) (wr := ((a3, lo cJ f') :: cw cI h σ LT γ φ')) (k' := k) (n' := n) [10, 11, 12, 13, 14, 15, 16, 17, 18] [0, 1, 2, 3, 4, 5, 6, 7, 8, 9] 10 (c_X2_count l D cI cJ g σ LI BR γ2 φ2 θ wh hwh hO hI hB) (cwV 1 C.1.2.2.2.2 gL_law_X2_count rfl rfl rfl (by decide +kernel) ⟨Nat.le_of_ble_eq_true rfl, Nat.le_of_ble_eq_true rfl⟩) rfl rfl rfl rfl rfl (by decide) rfl rfl rfl rfl (Nat.le_of_ble_eq_true rfl) rfl rfl ⟨Nat.le_trans (Nat.le_add_right _ _) hk9, Nat.le_trans (Nat.le_add_right _ _) hn9⟩ dL_law_895 ?_
  rintro z6 _ ⟨φ'', rfl, hz6⟩
  refine z_ws (ws' := (lwW cI cJ h g a3 f' σ LT γ φ' (lkF (lgV σ) LI 144) (lkF (brV σ) BR 144) γ2 φ'' 0)) rfl ?_
  refine z_istore C [(6, vI z6), (5, vI 0), (0, .ref b), (1, .ref (h 0)), (2, .ref (g 0)), (3, .ref a3), (4, vI (i : Int))] dL_law_898 (by decide) rfl ?_
  refine z_aload_n C 4 dL_law_900 rfl ?_
  refine z_callVi C (As := []) (st := []) (y := yX2_thrown) (w := wsX2_thrown) (rm := rm_X2_thrown) (wr := ((a3, lo cJ f') :: cw cI h σ LT γ φ')) (k' := k) (n' := n) [10, 11, 12, 13, 14, 15, 16, 17, 18] [0, 1, 2, 3, 4, 5, 6, 7, 8, 9] 10 (c_X2_thrown l D cI cJ g σ (lkF (lgV σ) LI 144) (lkF (brV σ) BR 144) γ2 φ'' 0) (cwV 0 C.1.2.2.2.2 gL_law_X2_thrown rfl rfl rfl (by decide +kernel) ⟨Nat.le_of_ble_eq_true rfl, Nat.le_of_ble_eq_true rfl⟩) rfl rfl rfl rfl rfl (by decide) rfl rfl rfl rfl (Nat.le_of_ble_eq_true rfl) rfl rfl ⟨Nat.le_trans (Nat.le_add_right _ _) hk9, Nat.le_trans (Nat.le_add_right _ _) hn9⟩ dL_law_901 ?_
  rintro z7 _ ⟨rfl, rfl⟩
  refine z_ws (ws' := (lwW cI cJ h g a3 f' σ LT γ φ' (lkF (lgV σ) LI 144) (lkF (brV σ) BR 144) γ2 φ'' 0)) rfl ?_
  refine z_iload C 1 dL_law_904 rfl ?_
  refine z_icmp_eq C (tgt := 911) dL_law_906 (by decide) (by omega) (by omega) (fun _ => ?_) (fun c9 => absurd rfl c9)
  refine z_iload C 1 dL_law_911 rfl ?_
  refine z_if_ne C (tgt := 928) dL_law_913 (by decide) (by omega) (fun c9 => absurd rfl c9) (fun _ => ?_)
  refine z_aload_n C 5 dL_law_916 rfl ?_
  refine z_iconst C dL_law_917 ?_
  refine z_lald C 0 1 rfl rfl dL_law_918 ?_
  refine z_iload C 0 dL_law_919 rfl ?_
  refine z_i2l C dL_law_921 ?_
  refine z_lcmpE C (show f' 0 = (iI z6).toInt64 from (by rw [hf, hz6, cou_e LI BR hO hL hK wh])) dL_law_922 ?_
  refine z_if_eq C (tgt := 928) dL_law_923 (by decide) (by omega) (fun _ => ?_) (fun c9 => absurd rfl c9)
  refine z_goto C (tgt := 1351) dL_law_928 (by decide) ?_
  refine z_sub (lv' := lwL b h g a3 i) [2, 3, 4, 5, 6] rfl ?_
  refine z_widen (k' := k + 1) (n' := n + 6) (Nat.le_add_right _ _) (Nat.le_add_right _ _) ?_
  exact kk _ _ _ _ _ _ _ _ _ _ hO hL hK (lkL_r hO hI 144) (lkB_r hO hB (Nat.le_refl _))

set_option maxHeartbeats 4000000 in
set_option maxRecDepth 100000 in
theorem o1_count {p : Program} {l : Launch} {e : Env} {s : State} {m : MethodId} {args : Array Value} {below : List Frame} {meth : Method} {c : Code} {Q : State → Prop} {D : va_G} {cI cJ : ClassId} (C : Zc p s m args meth c (Av s) D [(cI, .int), (cJ, .long)] 9 cL_law RL wsL_law (some .boolean)) (hX : ZX l s (Av s)) (hW9 : WX s) {b L : Nat} {xs : Nat → Int32} (hX9 : va_X b L xs s s.heap) (hbl : b < s.heap.size) (hL2 : L ≤ 2048) {h g : Nat → Nat} {a3 i : Nat} (hi : i + 4 ≤ L) {o : Nat → Int64} {σ : YS} {LT : Nat → Int} {γ : YS} {φ : Nat → Int} {LI BR : Nat → Int} {γ2 : YS} {φ2 : Nat → Int} {θ : Int} (hO : Ok σ) (hL : LR LT) (hK : LOk σ LT) (hI : LI4 LI) (hB : BR9 BR) {k n : Nat} (hk9 : k + 1 ≤ room_1.cells) (hn9 : n + 6 ≤ room_1.slots) {wh : Int} (e1 : (xs ((i : Int) + 1).toNat).toInt = wh) (r1 : rng wh) (hb : ¬ (0 ≤ wh ∧ wh < 8)) (kk : KK p l e s m args below meth c Q D cI cJ b h g a3 i (k + 1) (n + 6)) : Zs p l e room_1 s m args below meth c Q (Av s) D 9 875 (lwL b h g a3 i) [] (lwW cI cJ h g a3 o σ LT γ φ LI BR γ2 φ2 θ) k n := by
  refine z_aload_n C 1 dL_law_875 rfl ?_
  refine z_aload_n C 0 dL_law_876 rfl ?_
  refine z_iload C 4 dL_law_877 rfl ?_
  refine z_iconst C dL_law_879 ?_
  refine z_iadd C dL_law_880 ?_
  refine z_sldv C hX9 hbl (Nat.not_le.mpr hbl) hL2 (by omega) e1 dL_law_881 ?_
  refine z_aload_n C 3 dL_law_882 rfl ?_
  refine z_callW C hX hW9 (As := [.ref (h 0), vI wh, .ref a3]) (st := []) (y := yL_count) (w := wsL_count) (rm := rxL_count) (wr := mx cI g σ LI BR γ2 φ2 θ) (k' := (k + 1)) (n' := (n + 6)) [0, 1, 2, 3, 4, 5, 6, 7, 8, 9] [10, 11, 12, 13, 14, 15, 16, 17, 18] (wx_L_count l D cI cJ h σ LT γ φ wh r1 hb a3 o) (vx_cwSW 3 C.1.2.2.2.2 gL_law_L_count rfl rfl rfl (by decide +kernel) ⟨Nat.le_of_ble_eq_true rfl, Nat.le_of_ble_eq_true rfl⟩) rfl rfl rfl rfl rfl (by decide) rfl rfl (Nat.le_of_ble_eq_true rfl) rfl rfl ⟨hk9, hn9⟩ dL_law_883 ?_
  rintro z5 _ ⟨rfl, rfl⟩
  refine z_wsub (ws' := (lwW cI cJ h g a3 o σ LT γ φ LI BR γ2 φ2 θ)) [9, 10, 11, 12, 13, 14, 15, 16, 17, 18, 0, 1, 2, 3, 4, 5, 6, 7, 8] rfl rfl rfl ?_
  refine z_istore C [(5, vI 1), (0, .ref b), (1, .ref (h 0)), (2, .ref (g 0)), (3, .ref a3), (4, vI (i : Int))] dL_law_886 (by decide) rfl ?_
  refine z_aload_n C 3 dL_law_888 rfl ?_
  refine z_aload_n C 1 dL_law_889 rfl ?_
  refine z_iload C 5 dL_law_890 rfl ?_
  refine z_iconst C dL_law_892 ?_
  refine z_iadd C dL_law_893 ?_
  refine z_sldv C hX9 hbl (Nat.not_le.mpr hbl) hL2 (by omega) e1 dL_law_894 ?_
  refine z_callVi C (As := [vI wh]) (st := []) (y := yX2_count) (w := wsX2_count) (rm := rm_X2_count) (wr := ((a3, lo cJ o) :: cw cI h σ LT γ φ)) (k' := (k + 1)) (n' := (n + 6)) [10, 11, 12, 13, 14, 15, 16, 17, 18] [0, 1, 2, 3, 4, 5, 6, 7, 8, 9] 10 (b1_X2_count l D cI cJ g σ LI BR γ2 φ2 θ wh r1 hO hb) (cwV 1 C.1.2.2.2.2 gL_law_X2_count rfl rfl rfl (by decide +kernel) ⟨Nat.le_of_ble_eq_true rfl, Nat.le_of_ble_eq_true rfl⟩) rfl rfl rfl rfl rfl (by decide) rfl rfl rfl rfl (Nat.le_of_ble_eq_true rfl) rfl rfl ⟨hk9, hn9⟩ dL_law_895 ?_
  rintro z6 _ ⟨rfl, hz6⟩
  refine z_ws (ws' := (lwW cI cJ h g a3 o σ LT γ φ LI BR γ2 φ2 1)) rfl ?_
  have q6 : rng z6 := by rw [hz6]; decide
  refine z_istore C [(6, vI z6), (5, vI 1), (0, .ref b), (1, .ref (h 0)), (2, .ref (g 0)), (3, .ref a3), (4, vI (i : Int))] dL_law_898 (by decide) rfl ?_
  refine z_aload_n C 4 dL_law_900 rfl ?_
  refine z_callVi C (As := []) (st := []) (y := yX2_thrown) (w := wsX2_thrown) (rm := rm_X2_thrown) (wr := ((a3, lo cJ o) :: cw cI h σ LT γ φ)) (k' := (k + 1)) (n' := (n + 6)) [10, 11, 12, 13, 14, 15, 16, 17, 18] [0, 1, 2, 3, 4, 5, 6, 7, 8, 9] 10 (c_X2_thrown l D cI cJ g σ LI BR γ2 φ2 1) (cwV 0 C.1.2.2.2.2 gL_law_X2_thrown rfl rfl rfl (by decide +kernel) ⟨Nat.le_of_ble_eq_true rfl, Nat.le_of_ble_eq_true rfl⟩) rfl rfl rfl rfl rfl (by decide) rfl rfl rfl rfl (Nat.le_of_ble_eq_true rfl) rfl rfl ⟨hk9, hn9⟩ dL_law_901 ?_
  rintro z7 _ ⟨rfl, rfl⟩
  refine z_ws (ws' := (lwW cI cJ h g a3 o σ LT γ φ LI BR γ2 φ2 1)) rfl ?_
  refine z_iload C 1 dL_law_904 rfl ?_
  refine z_icmp_eq C (tgt := 911) dL_law_906 (by decide) (by omega) (by omega) (fun _ => ?_) (fun c9 => absurd rfl c9)
  refine z_iload C 1 dL_law_911 rfl ?_
  refine z_if_ne C (tgt := 928) dL_law_913 (by decide) (by omega) (fun _ => ?_) (fun c9 => absurd c9 (by decide))
  refine z_goto C (tgt := 1351) dL_law_928 (by decide) ?_
  refine z_sub (lv' := lwL b h g a3 i) [2, 3, 4, 5, 6] rfl ?_
  exact kk _ _ _ _ _ _ _ _ _ _ hO hL hK hI hB

set_option maxHeartbeats 4000000 in
set_option maxRecDepth 100000 in
theorem o0_far {p : Program} {l : Launch} {e : Env} {s : State} {m : MethodId} {args : Array Value} {below : List Frame} {meth : Method} {c : Code} {Q : State → Prop} {D : va_G} {cI cJ : ClassId} (C : Zc p s m args meth c (Av s) D [(cI, .int), (cJ, .long)] 9 cL_law RL wsL_law (some .boolean)) (hX : ZX l s (Av s)) (hW9 : WX s) {b L : Nat} {xs : Nat → Int32} (hX9 : va_X b L xs s s.heap) (hbl : b < s.heap.size) (hL2 : L ≤ 2048) {h g : Nat → Nat} {a3 i : Nat} (hi : i + 4 ≤ L) {o : Nat → Int64} {σ : YS} {LT : Nat → Int} {γ : YS} {φ : Nat → Int} {LI BR : Nat → Int} {γ2 : YS} {φ2 : Nat → Int} {θ : Int} (hO : Ok σ) (hL : LR LT) (hK : LOk σ LT) (hI : LI4 LI) (hB : BR9 BR) {k n : Nat} (hk9 : k + 1 ≤ room_1.cells) (hn9 : n + 6 ≤ room_1.slots) {fc : Int} (e1 : (xs ((i : Int) + 1).toNat).toInt = fc) (r1 : rng fc) {tc : Int} (e2 : (xs ((i : Int) + 2).toNat).toInt = tc) (r2 : rng tc) (ha : 0 ≤ fc ∧ fc < 144) (hc : 0 ≤ tc ∧ tc < 144) (kk : KK p l e s m args below meth c Q D cI cJ b h g a3 i (k + 1) (n + 6)) : Zs p l e room_1 s m args below meth c Q (Av s) D 9 931 (lwL b h g a3 i) [] (lwW cI cJ h g a3 o σ LT γ φ LI BR γ2 φ2 θ) k n := by
  refine z_aload_n C 1 dL_law_931 rfl ?_
  refine z_aload_n C 0 dL_law_932 rfl ?_
  refine z_iload C 4 dL_law_933 rfl ?_
  refine z_iconst C dL_law_935 ?_
  refine z_iadd C dL_law_936 ?_
  refine z_sldv C hX9 hbl (Nat.not_le.mpr hbl) hL2 (by omega) e1 dL_law_937 ?_
  refine z_aload_n C 0 dL_law_938 rfl ?_
  refine z_iload C 4 dL_law_939 rfl ?_
  refine z_iconst C dL_law_941 ?_
  refine z_iadd C dL_law_942 ?_
  refine z_sldv C hX9 hbl (Nat.not_le.mpr hbl) hL2 (by omega) e2 dL_law_943 ?_
  refine z_aload_n C 3 dL_law_944 rfl ?_
  refine z_callW C hX hW9 (As := [.ref (h 0), vI fc, vI tc, .ref a3]) (st := []) (y := yL_far) (w := wsL_far) (rm := rmL_far) (wr := mx cI g σ LI BR γ2 φ2 θ) (k' := k) (n' := n) [0, 1, 2, 3, 4, 5, 6, 7, 8, 9] [10, 11, 12, 13, 14, 15, 16, 17, 18] (w_L_far l D cI cJ h σ LT γ φ fc tc ha hc a3 o) (vx_cwSW 4 C.1.2.2.2.2 gL_law_L_far rfl rfl rfl (by decide +kernel) ⟨Nat.le_of_ble_eq_true rfl, Nat.le_of_ble_eq_true rfl⟩) rfl rfl rfl rfl rfl (by decide) rfl rfl (Nat.le_of_ble_eq_true rfl) rfl rfl ⟨Nat.le_trans (Nat.le_add_right _ _) hk9, Nat.le_trans (Nat.le_add_right _ _) hn9⟩ dL_law_945 ?_
  rintro z5 _ ⟨f', φ', rfl, rfl, hf⟩
  refine z_wsub (ws' := (lwW cI cJ h g a3 f' σ LT γ φ' LI BR γ2 φ2 θ)) [9, 10, 11, 12, 13, 14, 15, 16, 17, 18, 0, 1, 2, 3, 4, 5, 6, 7, 8] rfl rfl rfl ?_
  refine z_istore C [(5, vI 0), (0, .ref b), (1, .ref (h 0)), (2, .ref (g 0)), (3, .ref a3), (4, vI (i : Int))] dL_law_948 (by decide) rfl ?_
  refine z_aload_n C 3 dL_law_950 rfl ?_
  refine z_aload_n C 1 dL_law_951 rfl ?_
  refine z_iload C 5 dL_law_952 rfl ?_
  refine z_iconst C dL_law_954 ?_
  refine z_iadd C dL_law_955 ?_
  refine z_sldv C hX9 hbl (Nat.not_le.mpr hbl) hL2 (by omega) e1 dL_law_956 ?_
  refine z_aload_n C 1 dL_law_957 rfl ?_
  refine z_iload C 5 dL_law_958 rfl ?_
  refine z_iconst C dL_law_960 ?_
  refine z_iadd C dL_law_961 ?_
  refine z_sldv C hX9 hbl (Nat.not_le.mpr hbl) hL2 (by omega) e2 dL_law_962 ?_
  refine z_callVi C (As := [vI fc, vI tc]) (st := []) (y := yX2_far) (w := wsX2_far) (rm := rm_X2_far) (wr := ((a3, lo cJ f') :: cw cI h σ LT γ φ')) (k' := k) (n' := n) [10, 11, 12, 13, 14, 15, 16, 17, 18] [0, 1, 2, 3, 4, 5, 6, 7, 8, 9] 10 (c_X2_far l D cI cJ g σ LI BR γ2 φ2 θ fc tc ha hc hO hI) (cwV 2 C.1.2.2.2.2 gL_law_X2_far rfl rfl rfl (by decide +kernel) ⟨Nat.le_of_ble_eq_true rfl, Nat.le_of_ble_eq_true rfl⟩) rfl rfl rfl rfl rfl (by decide) rfl rfl rfl rfl (Nat.le_of_ble_eq_true rfl) rfl rfl ⟨Nat.le_trans (Nat.le_add_right _ _) hk9, Nat.le_trans (Nat.le_add_right _ _) hn9⟩ dL_law_963 ?_
  rintro z6 _ ⟨φ'', rfl, hz6⟩
  refine z_ws (ws' := (lwW cI cJ h g a3 f' σ LT γ φ' LI BR γ2 φ'' 0)) rfl ?_
  refine z_istore C [(6, vI z6), (5, vI 0), (0, .ref b), (1, .ref (h 0)), (2, .ref (g 0)), (3, .ref a3), (4, vI (i : Int))] dL_law_966 (by decide) rfl ?_
  refine z_aload_n C 4 dL_law_968 rfl ?_
  refine z_callVi C (As := []) (st := []) (y := yX2_thrown) (w := wsX2_thrown) (rm := rm_X2_thrown) (wr := ((a3, lo cJ f') :: cw cI h σ LT γ φ')) (k' := k) (n' := n) [10, 11, 12, 13, 14, 15, 16, 17, 18] [0, 1, 2, 3, 4, 5, 6, 7, 8, 9] 10 (c_X2_thrown l D cI cJ g σ LI BR γ2 φ'' 0) (cwV 0 C.1.2.2.2.2 gL_law_X2_thrown rfl rfl rfl (by decide +kernel) ⟨Nat.le_of_ble_eq_true rfl, Nat.le_of_ble_eq_true rfl⟩) rfl rfl rfl rfl rfl (by decide) rfl rfl rfl rfl (Nat.le_of_ble_eq_true rfl) rfl rfl ⟨Nat.le_trans (Nat.le_add_right _ _) hk9, Nat.le_trans (Nat.le_add_right _ _) hn9⟩ dL_law_969 ?_
  rintro z7 _ ⟨rfl, rfl⟩
  refine z_ws (ws' := (lwW cI cJ h g a3 f' σ LT γ φ' LI BR γ2 φ'' 0)) rfl ?_
  refine z_iload C 1 dL_law_972 rfl ?_
  refine z_icmp_eq C (tgt := 979) dL_law_974 (by decide) (by omega) (by omega) (fun _ => ?_) (fun c9 => absurd rfl c9)
  refine z_iload C 1 dL_law_979 rfl ?_
  refine z_if_ne C (tgt := 996) dL_law_981 (by decide) (by omega) (fun c9 => absurd rfl c9) (fun _ => ?_)
  refine z_aload_n C 5 dL_law_984 rfl ?_
  refine z_iconst C dL_law_985 ?_
  refine z_lald C 0 1 rfl rfl dL_law_986 ?_
  refine z_iload C 0 dL_law_987 rfl ?_
  refine z_i2l C dL_law_989 ?_
  refine z_lcmpE C (show f' 0 = (iI z6).toInt64 from (by rw [hf, hz6])) dL_law_990 ?_
  refine z_if_eq C (tgt := 996) dL_law_991 (by decide) (by omega) (fun _ => ?_) (fun c9 => absurd rfl c9)
  refine z_goto C (tgt := 1351) dL_law_996 (by decide) ?_
  refine z_sub (lv' := lwL b h g a3 i) [2, 3, 4, 5, 6] rfl ?_
  refine z_widen (k' := k + 1) (n' := n + 6) (Nat.le_add_right _ _) (Nat.le_add_right _ _) ?_
  exact kk _ _ _ _ _ _ _ _ _ _ hO hL hK hI hB

set_option maxHeartbeats 4000000 in
set_option maxRecDepth 100000 in
theorem o1_far {p : Program} {l : Launch} {e : Env} {s : State} {m : MethodId} {args : Array Value} {below : List Frame} {meth : Method} {c : Code} {Q : State → Prop} {D : va_G} {cI cJ : ClassId} (C : Zc p s m args meth c (Av s) D [(cI, .int), (cJ, .long)] 9 cL_law RL wsL_law (some .boolean)) (hX : ZX l s (Av s)) (hW9 : WX s) {b L : Nat} {xs : Nat → Int32} (hX9 : va_X b L xs s s.heap) (hbl : b < s.heap.size) (hL2 : L ≤ 2048) {h g : Nat → Nat} {a3 i : Nat} (hi : i + 4 ≤ L) {o : Nat → Int64} {σ : YS} {LT : Nat → Int} {γ : YS} {φ : Nat → Int} {LI BR : Nat → Int} {γ2 : YS} {φ2 : Nat → Int} {θ : Int} (hO : Ok σ) (hL : LR LT) (hK : LOk σ LT) (hI : LI4 LI) (hB : BR9 BR) {k n : Nat} (hk9 : k + 1 ≤ room_1.cells) (hn9 : n + 6 ≤ room_1.slots) {fc : Int} (e1 : (xs ((i : Int) + 1).toNat).toInt = fc) (r1 : rng fc) {tc : Int} (e2 : (xs ((i : Int) + 2).toNat).toInt = tc) (r2 : rng tc) (hb : ¬ (0 ≤ fc ∧ fc < 144)) (kk : KK p l e s m args below meth c Q D cI cJ b h g a3 i (k + 1) (n + 6)) : Zs p l e room_1 s m args below meth c Q (Av s) D 9 931 (lwL b h g a3 i) [] (lwW cI cJ h g a3 o σ LT γ φ LI BR γ2 φ2 θ) k n := by
  refine z_aload_n C 1 dL_law_931 rfl ?_
  refine z_aload_n C 0 dL_law_932 rfl ?_
  refine z_iload C 4 dL_law_933 rfl ?_
  refine z_iconst C dL_law_935 ?_
  refine z_iadd C dL_law_936 ?_
  refine z_sldv C hX9 hbl (Nat.not_le.mpr hbl) hL2 (by omega) e1 dL_law_937 ?_
  refine z_aload_n C 0 dL_law_938 rfl ?_
  refine z_iload C 4 dL_law_939 rfl ?_
  refine z_iconst C dL_law_941 ?_
  refine z_iadd C dL_law_942 ?_
  refine z_sldv C hX9 hbl (Nat.not_le.mpr hbl) hL2 (by omega) e2 dL_law_943 ?_
  refine z_aload_n C 3 dL_law_944 rfl ?_
  refine z_callW C hX hW9 (As := [.ref (h 0), vI fc, vI tc, .ref a3]) (st := []) (y := yL_far) (w := wsL_far) (rm := rxL_far) (wr := mx cI g σ LI BR γ2 φ2 θ) (k' := (k + 1)) (n' := (n + 6)) [0, 1, 2, 3, 4, 5, 6, 7, 8, 9] [10, 11, 12, 13, 14, 15, 16, 17, 18] (wx_L_far l D cI cJ h σ LT γ φ fc tc ⟨r1, r2⟩ hb a3 o) (vx_cwSW 4 C.1.2.2.2.2 gL_law_L_far rfl rfl rfl (by decide +kernel) ⟨Nat.le_of_ble_eq_true rfl, Nat.le_of_ble_eq_true rfl⟩) rfl rfl rfl rfl rfl (by decide) rfl rfl (Nat.le_of_ble_eq_true rfl) rfl rfl ⟨hk9, hn9⟩ dL_law_945 ?_
  rintro z5 _ ⟨rfl, rfl⟩
  refine z_wsub (ws' := (lwW cI cJ h g a3 o σ LT γ φ LI BR γ2 φ2 θ)) [9, 10, 11, 12, 13, 14, 15, 16, 17, 18, 0, 1, 2, 3, 4, 5, 6, 7, 8] rfl rfl rfl ?_
  refine z_istore C [(5, vI 1), (0, .ref b), (1, .ref (h 0)), (2, .ref (g 0)), (3, .ref a3), (4, vI (i : Int))] dL_law_948 (by decide) rfl ?_
  refine z_aload_n C 3 dL_law_950 rfl ?_
  refine z_aload_n C 1 dL_law_951 rfl ?_
  refine z_iload C 5 dL_law_952 rfl ?_
  refine z_iconst C dL_law_954 ?_
  refine z_iadd C dL_law_955 ?_
  refine z_sldv C hX9 hbl (Nat.not_le.mpr hbl) hL2 (by omega) e1 dL_law_956 ?_
  refine z_aload_n C 1 dL_law_957 rfl ?_
  refine z_iload C 5 dL_law_958 rfl ?_
  refine z_iconst C dL_law_960 ?_
  refine z_iadd C dL_law_961 ?_
  refine z_sldv C hX9 hbl (Nat.not_le.mpr hbl) hL2 (by omega) e2 dL_law_962 ?_
  refine z_callVi C (As := [vI fc, vI tc]) (st := []) (y := yX2_far) (w := wsX2_far) (rm := rm_X2_far) (wr := ((a3, lo cJ o) :: cw cI h σ LT γ φ)) (k' := (k + 1)) (n' := (n + 6)) [10, 11, 12, 13, 14, 15, 16, 17, 18] [0, 1, 2, 3, 4, 5, 6, 7, 8, 9] 10 (b1_X2_far l D cI cJ g σ LI BR γ2 φ2 θ fc tc ⟨r1, r2⟩ hO (fun q => hb q.1)) (cwV 2 C.1.2.2.2.2 gL_law_X2_far rfl rfl rfl (by decide +kernel) ⟨Nat.le_of_ble_eq_true rfl, Nat.le_of_ble_eq_true rfl⟩) rfl rfl rfl rfl rfl (by decide) rfl rfl rfl rfl (Nat.le_of_ble_eq_true rfl) rfl rfl ⟨hk9, hn9⟩ dL_law_963 ?_
  rintro z6 _ ⟨rfl, hz6⟩
  refine z_ws (ws' := (lwW cI cJ h g a3 o σ LT γ φ LI BR γ2 φ2 1)) rfl ?_
  have q6 : rng z6 := by rw [hz6]; decide
  refine z_istore C [(6, vI z6), (5, vI 1), (0, .ref b), (1, .ref (h 0)), (2, .ref (g 0)), (3, .ref a3), (4, vI (i : Int))] dL_law_966 (by decide) rfl ?_
  refine z_aload_n C 4 dL_law_968 rfl ?_
  refine z_callVi C (As := []) (st := []) (y := yX2_thrown) (w := wsX2_thrown) (rm := rm_X2_thrown) (wr := ((a3, lo cJ o) :: cw cI h σ LT γ φ)) (k' := (k + 1)) (n' := (n + 6)) [10, 11, 12, 13, 14, 15, 16, 17, 18] [0, 1, 2, 3, 4, 5, 6, 7, 8, 9] 10 (c_X2_thrown l D cI cJ g σ LI BR γ2 φ2 1) (cwV 0 C.1.2.2.2.2 gL_law_X2_thrown rfl rfl rfl (by decide +kernel) ⟨Nat.le_of_ble_eq_true rfl, Nat.le_of_ble_eq_true rfl⟩) rfl rfl rfl rfl rfl (by decide) rfl rfl rfl rfl (Nat.le_of_ble_eq_true rfl) rfl rfl ⟨hk9, hn9⟩ dL_law_969 ?_
  rintro z7 _ ⟨rfl, rfl⟩
  refine z_ws (ws' := (lwW cI cJ h g a3 o σ LT γ φ LI BR γ2 φ2 1)) rfl ?_
  refine z_iload C 1 dL_law_972 rfl ?_
  refine z_icmp_eq C (tgt := 979) dL_law_974 (by decide) (by omega) (by omega) (fun _ => ?_) (fun c9 => absurd rfl c9)
  refine z_iload C 1 dL_law_979 rfl ?_
  refine z_if_ne C (tgt := 996) dL_law_981 (by decide) (by omega) (fun _ => ?_) (fun c9 => absurd c9 (by decide))
  refine z_goto C (tgt := 1351) dL_law_996 (by decide) ?_
  refine z_sub (lv' := lwL b h g a3 i) [2, 3, 4, 5, 6] rfl ?_
  exact kk _ _ _ _ _ _ _ _ _ _ hO hL hK hI hB

set_option maxHeartbeats 4000000 in
set_option maxRecDepth 100000 in
theorem o2_far {p : Program} {l : Launch} {e : Env} {s : State} {m : MethodId} {args : Array Value} {below : List Frame} {meth : Method} {c : Code} {Q : State → Prop} {D : va_G} {cI cJ : ClassId} (C : Zc p s m args meth c (Av s) D [(cI, .int), (cJ, .long)] 9 cL_law RL wsL_law (some .boolean)) (hX : ZX l s (Av s)) (hW9 : WX s) {b L : Nat} {xs : Nat → Int32} (hX9 : va_X b L xs s s.heap) (hbl : b < s.heap.size) (hL2 : L ≤ 2048) {h g : Nat → Nat} {a3 i : Nat} (hi : i + 4 ≤ L) {o : Nat → Int64} {σ : YS} {LT : Nat → Int} {γ : YS} {φ : Nat → Int} {LI BR : Nat → Int} {γ2 : YS} {φ2 : Nat → Int} {θ : Int} (hO : Ok σ) (hL : LR LT) (hK : LOk σ LT) (hI : LI4 LI) (hB : BR9 BR) {k n : Nat} (hk9 : k + 1 ≤ room_1.cells) (hn9 : n + 6 ≤ room_1.slots) {fc : Int} (e1 : (xs ((i : Int) + 1).toNat).toInt = fc) (r1 : rng fc) {tc : Int} (e2 : (xs ((i : Int) + 2).toNat).toInt = tc) (r2 : rng tc) (ha : 0 ≤ fc ∧ fc < 144) (hb : ¬ (0 ≤ tc ∧ tc < 144)) (kk : KK p l e s m args below meth c Q D cI cJ b h g a3 i (k + 1) (n + 6)) : Zs p l e room_1 s m args below meth c Q (Av s) D 9 931 (lwL b h g a3 i) [] (lwW cI cJ h g a3 o σ LT γ φ LI BR γ2 φ2 θ) k n := by
  refine z_aload_n C 1 dL_law_931 rfl ?_
  refine z_aload_n C 0 dL_law_932 rfl ?_
  refine z_iload C 4 dL_law_933 rfl ?_
  refine z_iconst C dL_law_935 ?_
  refine z_iadd C dL_law_936 ?_
  refine z_sldv C hX9 hbl (Nat.not_le.mpr hbl) hL2 (by omega) e1 dL_law_937 ?_
  refine z_aload_n C 0 dL_law_938 rfl ?_
  refine z_iload C 4 dL_law_939 rfl ?_
  refine z_iconst C dL_law_941 ?_
  refine z_iadd C dL_law_942 ?_
  refine z_sldv C hX9 hbl (Nat.not_le.mpr hbl) hL2 (by omega) e2 dL_law_943 ?_
  refine z_aload_n C 3 dL_law_944 rfl ?_
  refine z_callW C hX hW9 (As := [.ref (h 0), vI fc, vI tc, .ref a3]) (st := []) (y := yL_far) (w := wsL_far) (rm := rxL_far) (wr := mx cI g σ LI BR γ2 φ2 θ) (k' := (k + 1)) (n' := (n + 6)) [0, 1, 2, 3, 4, 5, 6, 7, 8, 9] [10, 11, 12, 13, 14, 15, 16, 17, 18] (wbx_L_far l D cI cJ h σ LT γ φ fc tc ⟨r1, r2⟩ ha hb a3 o) (vx_cwSW 4 C.1.2.2.2.2 gL_law_L_far rfl rfl rfl (by decide +kernel) ⟨Nat.le_of_ble_eq_true rfl, Nat.le_of_ble_eq_true rfl⟩) rfl rfl rfl rfl rfl (by decide) rfl rfl (Nat.le_of_ble_eq_true rfl) rfl rfl ⟨hk9, hn9⟩ dL_law_945 ?_
  rintro z5 _ ⟨rfl, rfl⟩
  refine z_wsub (ws' := (lwW cI cJ h g a3 o σ LT γ φ LI BR γ2 φ2 θ)) [9, 10, 11, 12, 13, 14, 15, 16, 17, 18, 0, 1, 2, 3, 4, 5, 6, 7, 8] rfl rfl rfl ?_
  refine z_istore C [(5, vI 1), (0, .ref b), (1, .ref (h 0)), (2, .ref (g 0)), (3, .ref a3), (4, vI (i : Int))] dL_law_948 (by decide) rfl ?_
  refine z_aload_n C 3 dL_law_950 rfl ?_
  refine z_aload_n C 1 dL_law_951 rfl ?_
  refine z_iload C 5 dL_law_952 rfl ?_
  refine z_iconst C dL_law_954 ?_
  refine z_iadd C dL_law_955 ?_
  refine z_sldv C hX9 hbl (Nat.not_le.mpr hbl) hL2 (by omega) e1 dL_law_956 ?_
  refine z_aload_n C 1 dL_law_957 rfl ?_
  refine z_iload C 5 dL_law_958 rfl ?_
  refine z_iconst C dL_law_960 ?_
  refine z_iadd C dL_law_961 ?_
  refine z_sldv C hX9 hbl (Nat.not_le.mpr hbl) hL2 (by omega) e2 dL_law_962 ?_
  refine z_callVi C (As := [vI fc, vI tc]) (st := []) (y := yX2_far) (w := wsX2_far) (rm := rm_X2_far) (wr := ((a3, lo cJ o) :: cw cI h σ LT γ φ)) (k' := (k + 1)) (n' := (n + 6)) [10, 11, 12, 13, 14, 15, 16, 17, 18] [0, 1, 2, 3, 4, 5, 6, 7, 8, 9] 10 (b1_X2_far l D cI cJ g σ LI BR γ2 φ2 θ fc tc ⟨r1, r2⟩ hO (fun q => hb q.2)) (cwV 2 C.1.2.2.2.2 gL_law_X2_far rfl rfl rfl (by decide +kernel) ⟨Nat.le_of_ble_eq_true rfl, Nat.le_of_ble_eq_true rfl⟩) rfl rfl rfl rfl rfl (by decide) rfl rfl rfl rfl (Nat.le_of_ble_eq_true rfl) rfl rfl ⟨hk9, hn9⟩ dL_law_963 ?_
  rintro z6 _ ⟨rfl, hz6⟩
  refine z_ws (ws' := (lwW cI cJ h g a3 o σ LT γ φ LI BR γ2 φ2 1)) rfl ?_
  have q6 : rng z6 := by rw [hz6]; decide
  refine z_istore C [(6, vI z6), (5, vI 1), (0, .ref b), (1, .ref (h 0)), (2, .ref (g 0)), (3, .ref a3), (4, vI (i : Int))] dL_law_966 (by decide) rfl ?_
  refine z_aload_n C 4 dL_law_968 rfl ?_
  refine z_callVi C (As := []) (st := []) (y := yX2_thrown) (w := wsX2_thrown) (rm := rm_X2_thrown) (wr := ((a3, lo cJ o) :: cw cI h σ LT γ φ)) (k' := (k + 1)) (n' := (n + 6)) [10, 11, 12, 13, 14, 15, 16, 17, 18] [0, 1, 2, 3, 4, 5, 6, 7, 8, 9] 10 (c_X2_thrown l D cI cJ g σ LI BR γ2 φ2 1) (cwV 0 C.1.2.2.2.2 gL_law_X2_thrown rfl rfl rfl (by decide +kernel) ⟨Nat.le_of_ble_eq_true rfl, Nat.le_of_ble_eq_true rfl⟩) rfl rfl rfl rfl rfl (by decide) rfl rfl rfl rfl (Nat.le_of_ble_eq_true rfl) rfl rfl ⟨hk9, hn9⟩ dL_law_969 ?_
  rintro z7 _ ⟨rfl, rfl⟩
  refine z_ws (ws' := (lwW cI cJ h g a3 o σ LT γ φ LI BR γ2 φ2 1)) rfl ?_
  refine z_iload C 1 dL_law_972 rfl ?_
  refine z_icmp_eq C (tgt := 979) dL_law_974 (by decide) (by omega) (by omega) (fun _ => ?_) (fun c9 => absurd rfl c9)
  refine z_iload C 1 dL_law_979 rfl ?_
  refine z_if_ne C (tgt := 996) dL_law_981 (by decide) (by omega) (fun _ => ?_) (fun c9 => absurd c9 (by decide))
  refine z_goto C (tgt := 1351) dL_law_996 (by decide) ?_
  refine z_sub (lv' := lwL b h g a3 i) [2, 3, 4, 5, 6] rfl ?_
  exact kk _ _ _ _ _ _ _ _ _ _ hO hL hK hI hB

set_option maxHeartbeats 4000000 in
set_option maxRecDepth 100000 in
theorem o0_stops {p : Program} {l : Launch} {e : Env} {s : State} {m : MethodId} {args : Array Value} {below : List Frame} {meth : Method} {c : Code} {Q : State → Prop} {D : va_G} {cI cJ : ClassId} (C : Zc p s m args meth c (Av s) D [(cI, .int), (cJ, .long)] 9 cL_law RL wsL_law (some .boolean)) (hX : ZX l s (Av s)) (hW9 : WX s) {b L : Nat} {xs : Nat → Int32} (hX9 : va_X b L xs s s.heap) (hbl : b < s.heap.size) (hL2 : L ≤ 2048) {h g : Nat → Nat} {a3 i : Nat} (hi : i + 4 ≤ L) {o : Nat → Int64} {σ : YS} {LT : Nat → Int} {γ : YS} {φ : Nat → Int} {LI BR : Nat → Int} {γ2 : YS} {φ2 : Nat → Int} {θ : Int} (hO : Ok σ) (hL : LR LT) (hK : LOk σ LT) (hI : LI4 LI) (hB : BR9 BR) {k n : Nat} (hk9 : k + 1 ≤ room_1.cells) (hn9 : n + 6 ≤ room_1.slots) {fc : Int} (e1 : (xs ((i : Int) + 1).toNat).toInt = fc) (r1 : rng fc) {tc : Int} (e2 : (xs ((i : Int) + 2).toNat).toInt = tc) (r2 : rng tc) (ha : 0 ≤ fc ∧ fc < 144) (hc : 0 ≤ tc ∧ tc < 144) (kk : KK p l e s m args below meth c Q D cI cJ b h g a3 i (k + 1) (n + 6)) : Zs p l e room_1 s m args below meth c Q (Av s) D 9 999 (lwL b h g a3 i) [] (lwW cI cJ h g a3 o σ LT γ φ LI BR γ2 φ2 θ) k n := by
  refine z_aload_n C 1 dL_law_999 rfl ?_
  refine z_aload_n C 0 dL_law_1000 rfl ?_
  refine z_iload C 4 dL_law_1001 rfl ?_
  refine z_iconst C dL_law_1003 ?_
  refine z_iadd C dL_law_1004 ?_
  refine z_sldv C hX9 hbl (Nat.not_le.mpr hbl) hL2 (by omega) e1 dL_law_1005 ?_
  refine z_aload_n C 0 dL_law_1006 rfl ?_
  refine z_iload C 4 dL_law_1007 rfl ?_
  refine z_iconst C dL_law_1009 ?_
  refine z_iadd C dL_law_1010 ?_
  refine z_sldv C hX9 hbl (Nat.not_le.mpr hbl) hL2 (by omega) e2 dL_law_1011 ?_
  refine z_aload_n C 3 dL_law_1012 rfl ?_
  refine z_callW C hX hW9 (As := [.ref (h 0), vI fc, vI tc, .ref a3]) (st := []) (y := yL_stops) (w := wsL_stops) (rm := rmL_stops) (wr := mx cI g σ LI BR γ2 φ2 θ) (k' := k) (n' := n) [0, 1, 2, 3, 4, 5, 6, 7, 8, 9] [10, 11, 12, 13, 14, 15, 16, 17, 18] (w_L_stops l D cI cJ h σ LT γ φ fc tc ha hc hO a3 o) (vx_cwSW 4 C.1.2.2.2.2 gL_law_L_stops rfl rfl rfl (by decide +kernel) ⟨Nat.le_of_ble_eq_true rfl, Nat.le_of_ble_eq_true rfl⟩) rfl rfl rfl rfl rfl (by decide) rfl rfl (Nat.le_of_ble_eq_true rfl) rfl rfl ⟨Nat.le_trans (Nat.le_add_right _ _) hk9, Nat.le_trans (Nat.le_add_right _ _) hn9⟩ dL_law_1013 ?_
  rintro z5 _ ⟨f', φ', rfl, rfl, hf⟩
  refine z_wsub (ws' := (lwW cI cJ h g a3 f' σ LT γ φ' LI BR γ2 φ2 θ)) [9, 10, 11, 12, 13, 14, 15, 16, 17, 18, 0, 1, 2, 3, 4, 5, 6, 7, 8] rfl rfl rfl ?_
  refine z_istore C [(5, vI 0), (0, .ref b), (1, .ref (h 0)), (2, .ref (g 0)), (3, .ref a3), (4, vI (i : Int))] dL_law_1016 (by decide) rfl ?_
  refine z_aload_n C 3 dL_law_1018 rfl ?_
  refine z_aload_n C 1 dL_law_1019 rfl ?_
  refine z_iload C 5 dL_law_1020 rfl ?_
  refine z_iconst C dL_law_1022 ?_
  refine z_iadd C dL_law_1023 ?_
  refine z_sldv C hX9 hbl (Nat.not_le.mpr hbl) hL2 (by omega) e1 dL_law_1024 ?_
  refine z_aload_n C 1 dL_law_1025 rfl ?_
  refine z_iload C 5 dL_law_1026 rfl ?_
  refine z_iconst C dL_law_1028 ?_
  refine z_iadd C dL_law_1029 ?_
  refine z_sldv C hX9 hbl (Nat.not_le.mpr hbl) hL2 (by omega) e2 dL_law_1030 ?_
  refine z_callVi C (As := [vI fc, vI tc]) (st := []) (y := yX2_stops) (w := wsX2_stops) (rm := rm_X2_stops) (wr := ((a3, lo cJ f') :: cw cI h σ LT γ φ')) (k' := k) (n' := n) [10, 11, 12, 13, 14, 15, 16, 17, 18] [0, 1, 2, 3, 4, 5, 6, 7, 8, 9] 10 (c_X2_stops l D cI cJ g σ LI BR γ2 φ2 θ fc tc ha hc hO hI) (cwV 2 C.1.2.2.2.2 gL_law_X2_stops rfl rfl rfl (by decide +kernel) ⟨Nat.le_of_ble_eq_true rfl, Nat.le_of_ble_eq_true rfl⟩) rfl rfl rfl rfl rfl (by decide) rfl rfl rfl rfl (Nat.le_of_ble_eq_true rfl) rfl rfl ⟨Nat.le_trans (Nat.le_add_right _ _) hk9, Nat.le_trans (Nat.le_add_right _ _) hn9⟩ dL_law_1031 ?_
  rintro z6 _ ⟨φ'', rfl, hz6⟩
  refine z_ws (ws' := (lwW cI cJ h g a3 f' σ LT γ φ' LI BR γ2 φ'' 0)) rfl ?_
  refine z_istore C [(6, vI z6), (5, vI 0), (0, .ref b), (1, .ref (h 0)), (2, .ref (g 0)), (3, .ref a3), (4, vI (i : Int))] dL_law_1034 (by decide) rfl ?_
  refine z_aload_n C 4 dL_law_1036 rfl ?_
  refine z_callVi C (As := []) (st := []) (y := yX2_thrown) (w := wsX2_thrown) (rm := rm_X2_thrown) (wr := ((a3, lo cJ f') :: cw cI h σ LT γ φ')) (k' := k) (n' := n) [10, 11, 12, 13, 14, 15, 16, 17, 18] [0, 1, 2, 3, 4, 5, 6, 7, 8, 9] 10 (c_X2_thrown l D cI cJ g σ LI BR γ2 φ'' 0) (cwV 0 C.1.2.2.2.2 gL_law_X2_thrown rfl rfl rfl (by decide +kernel) ⟨Nat.le_of_ble_eq_true rfl, Nat.le_of_ble_eq_true rfl⟩) rfl rfl rfl rfl rfl (by decide) rfl rfl rfl rfl (Nat.le_of_ble_eq_true rfl) rfl rfl ⟨Nat.le_trans (Nat.le_add_right _ _) hk9, Nat.le_trans (Nat.le_add_right _ _) hn9⟩ dL_law_1037 ?_
  rintro z7 _ ⟨rfl, rfl⟩
  refine z_ws (ws' := (lwW cI cJ h g a3 f' σ LT γ φ' LI BR γ2 φ'' 0)) rfl ?_
  refine z_iload C 1 dL_law_1040 rfl ?_
  refine z_icmp_eq C (tgt := 1047) dL_law_1042 (by decide) (by omega) (by omega) (fun _ => ?_) (fun c9 => absurd rfl c9)
  refine z_iload C 1 dL_law_1047 rfl ?_
  refine z_if_ne C (tgt := 1064) dL_law_1049 (by decide) (by omega) (fun c9 => absurd rfl c9) (fun _ => ?_)
  refine z_aload_n C 5 dL_law_1052 rfl ?_
  refine z_iconst C dL_law_1053 ?_
  refine z_lald C 0 1 rfl rfl dL_law_1054 ?_
  refine z_iload C 0 dL_law_1055 rfl ?_
  refine z_i2l C dL_law_1057 ?_
  refine z_lcmpE C (show f' 0 = (iI z6).toInt64 from (by rw [hf, hz6])) dL_law_1058 ?_
  refine z_if_eq C (tgt := 1064) dL_law_1059 (by decide) (by omega) (fun _ => ?_) (fun c9 => absurd rfl c9)
  refine z_goto C (tgt := 1351) dL_law_1064 (by decide) ?_
  refine z_sub (lv' := lwL b h g a3 i) [2, 3, 4, 5, 6] rfl ?_
  refine z_widen (k' := k + 1) (n' := n + 6) (Nat.le_add_right _ _) (Nat.le_add_right _ _) ?_
  exact kk _ _ _ _ _ _ _ _ _ _ hO hL hK hI hB

set_option maxHeartbeats 4000000 in
set_option maxRecDepth 100000 in
theorem o1_stops {p : Program} {l : Launch} {e : Env} {s : State} {m : MethodId} {args : Array Value} {below : List Frame} {meth : Method} {c : Code} {Q : State → Prop} {D : va_G} {cI cJ : ClassId} (C : Zc p s m args meth c (Av s) D [(cI, .int), (cJ, .long)] 9 cL_law RL wsL_law (some .boolean)) (hX : ZX l s (Av s)) (hW9 : WX s) {b L : Nat} {xs : Nat → Int32} (hX9 : va_X b L xs s s.heap) (hbl : b < s.heap.size) (hL2 : L ≤ 2048) {h g : Nat → Nat} {a3 i : Nat} (hi : i + 4 ≤ L) {o : Nat → Int64} {σ : YS} {LT : Nat → Int} {γ : YS} {φ : Nat → Int} {LI BR : Nat → Int} {γ2 : YS} {φ2 : Nat → Int} {θ : Int} (hO : Ok σ) (hL : LR LT) (hK : LOk σ LT) (hI : LI4 LI) (hB : BR9 BR) {k n : Nat} (hk9 : k + 1 ≤ room_1.cells) (hn9 : n + 6 ≤ room_1.slots) {fc : Int} (e1 : (xs ((i : Int) + 1).toNat).toInt = fc) (r1 : rng fc) {tc : Int} (e2 : (xs ((i : Int) + 2).toNat).toInt = tc) (r2 : rng tc) (hb : ¬ (0 ≤ fc ∧ fc < 144)) (kk : KK p l e s m args below meth c Q D cI cJ b h g a3 i (k + 1) (n + 6)) : Zs p l e room_1 s m args below meth c Q (Av s) D 9 999 (lwL b h g a3 i) [] (lwW cI cJ h g a3 o σ LT γ φ LI BR γ2 φ2 θ) k n := by
  refine z_aload_n C 1 dL_law_999 rfl ?_
  refine z_aload_n C 0 dL_law_1000 rfl ?_
  refine z_iload C 4 dL_law_1001 rfl ?_
  refine z_iconst C dL_law_1003 ?_
  refine z_iadd C dL_law_1004 ?_
  refine z_sldv C hX9 hbl (Nat.not_le.mpr hbl) hL2 (by omega) e1 dL_law_1005 ?_
  refine z_aload_n C 0 dL_law_1006 rfl ?_
  refine z_iload C 4 dL_law_1007 rfl ?_
  refine z_iconst C dL_law_1009 ?_
  refine z_iadd C dL_law_1010 ?_
  refine z_sldv C hX9 hbl (Nat.not_le.mpr hbl) hL2 (by omega) e2 dL_law_1011 ?_
  refine z_aload_n C 3 dL_law_1012 rfl ?_
  refine z_callW C hX hW9 (As := [.ref (h 0), vI fc, vI tc, .ref a3]) (st := []) (y := yL_stops) (w := wsL_stops) (rm := rxL_stops) (wr := mx cI g σ LI BR γ2 φ2 θ) (k' := (k + 1)) (n' := (n + 6)) [0, 1, 2, 3, 4, 5, 6, 7, 8, 9] [10, 11, 12, 13, 14, 15, 16, 17, 18] (wx_L_stops l D cI cJ h σ LT γ φ fc tc ⟨r1, r2⟩ hb a3 o) (vx_cwSW 4 C.1.2.2.2.2 gL_law_L_stops rfl rfl rfl (by decide +kernel) ⟨Nat.le_of_ble_eq_true rfl, Nat.le_of_ble_eq_true rfl⟩) rfl rfl rfl rfl rfl (by decide) rfl rfl (Nat.le_of_ble_eq_true rfl) rfl rfl ⟨hk9, hn9⟩ dL_law_1013 ?_
  rintro z5 _ ⟨rfl, rfl⟩
  refine z_wsub (ws' := (lwW cI cJ h g a3 o σ LT γ φ LI BR γ2 φ2 θ)) [9, 10, 11, 12, 13, 14, 15, 16, 17, 18, 0, 1, 2, 3, 4, 5, 6, 7, 8] rfl rfl rfl ?_
  refine z_istore C [(5, vI 1), (0, .ref b), (1, .ref (h 0)), (2, .ref (g 0)), (3, .ref a3), (4, vI (i : Int))] dL_law_1016 (by decide) rfl ?_
  refine z_aload_n C 3 dL_law_1018 rfl ?_
  refine z_aload_n C 1 dL_law_1019 rfl ?_
  refine z_iload C 5 dL_law_1020 rfl ?_
  refine z_iconst C dL_law_1022 ?_
  refine z_iadd C dL_law_1023 ?_
  refine z_sldv C hX9 hbl (Nat.not_le.mpr hbl) hL2 (by omega) e1 dL_law_1024 ?_
  refine z_aload_n C 1 dL_law_1025 rfl ?_
  refine z_iload C 5 dL_law_1026 rfl ?_
  refine z_iconst C dL_law_1028 ?_
  refine z_iadd C dL_law_1029 ?_
  refine z_sldv C hX9 hbl (Nat.not_le.mpr hbl) hL2 (by omega) e2 dL_law_1030 ?_
  refine z_callVi C (As := [vI fc, vI tc]) (st := []) (y := yX2_stops) (w := wsX2_stops) (rm := rm_X2_stops) (wr := ((a3, lo cJ o) :: cw cI h σ LT γ φ)) (k' := (k + 1)) (n' := (n + 6)) [10, 11, 12, 13, 14, 15, 16, 17, 18] [0, 1, 2, 3, 4, 5, 6, 7, 8, 9] 10 (b1_X2_stops l D cI cJ g σ LI BR γ2 φ2 θ fc tc ⟨r1, r2⟩ hO (fun q => hb q.1)) (cwV 2 C.1.2.2.2.2 gL_law_X2_stops rfl rfl rfl (by decide +kernel) ⟨Nat.le_of_ble_eq_true rfl, Nat.le_of_ble_eq_true rfl⟩) rfl rfl rfl rfl rfl (by decide) rfl rfl rfl rfl (Nat.le_of_ble_eq_true rfl) rfl rfl ⟨hk9, hn9⟩ dL_law_1031 ?_
  rintro z6 _ ⟨rfl, hz6⟩
  refine z_ws (ws' := (lwW cI cJ h g a3 o σ LT γ φ LI BR γ2 φ2 1)) rfl ?_
  have q6 : rng z6 := by rw [hz6]; decide
  refine z_istore C [(6, vI z6), (5, vI 1), (0, .ref b), (1, .ref (h 0)), (2, .ref (g 0)), (3, .ref a3), (4, vI (i : Int))] dL_law_1034 (by decide) rfl ?_
  refine z_aload_n C 4 dL_law_1036 rfl ?_
  refine z_callVi C (As := []) (st := []) (y := yX2_thrown) (w := wsX2_thrown) (rm := rm_X2_thrown) (wr := ((a3, lo cJ o) :: cw cI h σ LT γ φ)) (k' := (k + 1)) (n' := (n + 6)) [10, 11, 12, 13, 14, 15, 16, 17, 18] [0, 1, 2, 3, 4, 5, 6, 7, 8, 9] 10 (c_X2_thrown l D cI cJ g σ LI BR γ2 φ2 1) (cwV 0 C.1.2.2.2.2 gL_law_X2_thrown rfl rfl rfl (by decide +kernel) ⟨Nat.le_of_ble_eq_true rfl, Nat.le_of_ble_eq_true rfl⟩) rfl rfl rfl rfl rfl (by decide) rfl rfl rfl rfl (Nat.le_of_ble_eq_true rfl) rfl rfl ⟨hk9, hn9⟩ dL_law_1037 ?_
  rintro z7 _ ⟨rfl, rfl⟩
  refine z_ws (ws' := (lwW cI cJ h g a3 o σ LT γ φ LI BR γ2 φ2 1)) rfl ?_
  refine z_iload C 1 dL_law_1040 rfl ?_
  refine z_icmp_eq C (tgt := 1047) dL_law_1042 (by decide) (by omega) (by omega) (fun _ => ?_) (fun c9 => absurd rfl c9)
  refine z_iload C 1 dL_law_1047 rfl ?_
  refine z_if_ne C (tgt := 1064) dL_law_1049 (by decide) (by omega) (fun _ => ?_) (fun c9 => absurd c9 (by decide))
  refine z_goto C (tgt := 1351) dL_law_1064 (by decide) ?_
  refine z_sub (lv' := lwL b h g a3 i) [2, 3, 4, 5, 6] rfl ?_
  exact kk _ _ _ _ _ _ _ _ _ _ hO hL hK hI hB

set_option maxHeartbeats 4000000 in
set_option maxRecDepth 100000 in
theorem o2_stops {p : Program} {l : Launch} {e : Env} {s : State} {m : MethodId} {args : Array Value} {below : List Frame} {meth : Method} {c : Code} {Q : State → Prop} {D : va_G} {cI cJ : ClassId} (C : Zc p s m args meth c (Av s) D [(cI, .int), (cJ, .long)] 9 cL_law RL wsL_law (some .boolean)) (hX : ZX l s (Av s)) (hW9 : WX s) {b L : Nat} {xs : Nat → Int32} (hX9 : va_X b L xs s s.heap) (hbl : b < s.heap.size) (hL2 : L ≤ 2048) {h g : Nat → Nat} {a3 i : Nat} (hi : i + 4 ≤ L) {o : Nat → Int64} {σ : YS} {LT : Nat → Int} {γ : YS} {φ : Nat → Int} {LI BR : Nat → Int} {γ2 : YS} {φ2 : Nat → Int} {θ : Int} (hO : Ok σ) (hL : LR LT) (hK : LOk σ LT) (hI : LI4 LI) (hB : BR9 BR) {k n : Nat} (hk9 : k + 1 ≤ room_1.cells) (hn9 : n + 6 ≤ room_1.slots) {fc : Int} (e1 : (xs ((i : Int) + 1).toNat).toInt = fc) (r1 : rng fc) {tc : Int} (e2 : (xs ((i : Int) + 2).toNat).toInt = tc) (r2 : rng tc) (ha : 0 ≤ fc ∧ fc < 144) (hb : ¬ (0 ≤ tc ∧ tc < 144)) (kk : KK p l e s m args below meth c Q D cI cJ b h g a3 i (k + 1) (n + 6)) : Zs p l e room_1 s m args below meth c Q (Av s) D 9 999 (lwL b h g a3 i) [] (lwW cI cJ h g a3 o σ LT γ φ LI BR γ2 φ2 θ) k n := by
  refine z_aload_n C 1 dL_law_999 rfl ?_
  refine z_aload_n C 0 dL_law_1000 rfl ?_
  refine z_iload C 4 dL_law_1001 rfl ?_
  refine z_iconst C dL_law_1003 ?_
  refine z_iadd C dL_law_1004 ?_
  refine z_sldv C hX9 hbl (Nat.not_le.mpr hbl) hL2 (by omega) e1 dL_law_1005 ?_
  refine z_aload_n C 0 dL_law_1006 rfl ?_
  refine z_iload C 4 dL_law_1007 rfl ?_
  refine z_iconst C dL_law_1009 ?_
  refine z_iadd C dL_law_1010 ?_
  refine z_sldv C hX9 hbl (Nat.not_le.mpr hbl) hL2 (by omega) e2 dL_law_1011 ?_
  refine z_aload_n C 3 dL_law_1012 rfl ?_
  refine z_callW C hX hW9 (As := [.ref (h 0), vI fc, vI tc, .ref a3]) (st := []) (y := yL_stops) (w := wsL_stops) (rm := rxL_stops) (wr := mx cI g σ LI BR γ2 φ2 θ) (k' := (k + 1)) (n' := (n + 6)) [0, 1, 2, 3, 4, 5, 6, 7, 8, 9] [10, 11, 12, 13, 14, 15, 16, 17, 18] (wbx_L_stops l D cI cJ h σ LT γ φ fc tc ⟨r1, r2⟩ ha hb a3 o) (vx_cwSW 4 C.1.2.2.2.2 gL_law_L_stops rfl rfl rfl (by decide +kernel) ⟨Nat.le_of_ble_eq_true rfl, Nat.le_of_ble_eq_true rfl⟩) rfl rfl rfl rfl rfl (by decide) rfl rfl (Nat.le_of_ble_eq_true rfl) rfl rfl ⟨hk9, hn9⟩ dL_law_1013 ?_
  rintro z5 _ ⟨rfl, rfl⟩
  refine z_wsub (ws' := (lwW cI cJ h g a3 o σ LT γ φ LI BR γ2 φ2 θ)) [9, 10, 11, 12, 13, 14, 15, 16, 17, 18, 0, 1, 2, 3, 4, 5, 6, 7, 8] rfl rfl rfl ?_
  refine z_istore C [(5, vI 1), (0, .ref b), (1, .ref (h 0)), (2, .ref (g 0)), (3, .ref a3), (4, vI (i : Int))] dL_law_1016 (by decide) rfl ?_
  refine z_aload_n C 3 dL_law_1018 rfl ?_
  refine z_aload_n C 1 dL_law_1019 rfl ?_
  refine z_iload C 5 dL_law_1020 rfl ?_
  refine z_iconst C dL_law_1022 ?_
  refine z_iadd C dL_law_1023 ?_
  refine z_sldv C hX9 hbl (Nat.not_le.mpr hbl) hL2 (by omega) e1 dL_law_1024 ?_
  refine z_aload_n C 1 dL_law_1025 rfl ?_
  refine z_iload C 5 dL_law_1026 rfl ?_
  refine z_iconst C dL_law_1028 ?_
  refine z_iadd C dL_law_1029 ?_
  refine z_sldv C hX9 hbl (Nat.not_le.mpr hbl) hL2 (by omega) e2 dL_law_1030 ?_
  refine z_callVi C (As := [vI fc, vI tc]) (st := []) (y := yX2_stops) (w := wsX2_stops) (rm := rm_X2_stops) (wr := ((a3, lo cJ o) :: cw cI h σ LT γ φ)) (k' := (k + 1)) (n' := (n + 6)) [10, 11, 12, 13, 14, 15, 16, 17, 18] [0, 1, 2, 3, 4, 5, 6, 7, 8, 9] 10 (b1_X2_stops l D cI cJ g σ LI BR γ2 φ2 θ fc tc ⟨r1, r2⟩ hO (fun q => hb q.2)) (cwV 2 C.1.2.2.2.2 gL_law_X2_stops rfl rfl rfl (by decide +kernel) ⟨Nat.le_of_ble_eq_true rfl, Nat.le_of_ble_eq_true rfl⟩) rfl rfl rfl rfl rfl (by decide) rfl rfl rfl rfl (Nat.le_of_ble_eq_true rfl) rfl rfl ⟨hk9, hn9⟩ dL_law_1031 ?_
  rintro z6 _ ⟨rfl, hz6⟩
  refine z_ws (ws' := (lwW cI cJ h g a3 o σ LT γ φ LI BR γ2 φ2 1)) rfl ?_
  have q6 : rng z6 := by rw [hz6]; decide
  refine z_istore C [(6, vI z6), (5, vI 1), (0, .ref b), (1, .ref (h 0)), (2, .ref (g 0)), (3, .ref a3), (4, vI (i : Int))] dL_law_1034 (by decide) rfl ?_
  refine z_aload_n C 4 dL_law_1036 rfl ?_
  refine z_callVi C (As := []) (st := []) (y := yX2_thrown) (w := wsX2_thrown) (rm := rm_X2_thrown) (wr := ((a3, lo cJ o) :: cw cI h σ LT γ φ)) (k' := (k + 1)) (n' := (n + 6)) [10, 11, 12, 13, 14, 15, 16, 17, 18] [0, 1, 2, 3, 4, 5, 6, 7, 8, 9] 10 (c_X2_thrown l D cI cJ g σ LI BR γ2 φ2 1) (cwV 0 C.1.2.2.2.2 gL_law_X2_thrown rfl rfl rfl (by decide +kernel) ⟨Nat.le_of_ble_eq_true rfl, Nat.le_of_ble_eq_true rfl⟩) rfl rfl rfl rfl rfl (by decide) rfl rfl rfl rfl (Nat.le_of_ble_eq_true rfl) rfl rfl ⟨hk9, hn9⟩ dL_law_1037 ?_
  rintro z7 _ ⟨rfl, rfl⟩
  refine z_ws (ws' := (lwW cI cJ h g a3 o σ LT γ φ LI BR γ2 φ2 1)) rfl ?_
  refine z_iload C 1 dL_law_1040 rfl ?_
  refine z_icmp_eq C (tgt := 1047) dL_law_1042 (by decide) (by omega) (by omega) (fun _ => ?_) (fun c9 => absurd rfl c9)
  refine z_iload C 1 dL_law_1047 rfl ?_
  refine z_if_ne C (tgt := 1064) dL_law_1049 (by decide) (by omega) (fun _ => ?_) (fun c9 => absurd c9 (by decide))
  refine z_goto C (tgt := 1351) dL_law_1064 (by decide) ?_
  refine z_sub (lv' := lwL b h g a3 i) [2, 3, 4, 5, 6] rfl ?_
  exact kk _ _ _ _ _ _ _ _ _ _ hO hL hK hI hB

set_option maxHeartbeats 4000000 in
set_option maxRecDepth 100000 in
theorem o0_creeps {p : Program} {l : Launch} {e : Env} {s : State} {m : MethodId} {args : Array Value} {below : List Frame} {meth : Method} {c : Code} {Q : State → Prop} {D : va_G} {cI cJ : ClassId} (C : Zc p s m args meth c (Av s) D [(cI, .int), (cJ, .long)] 9 cL_law RL wsL_law (some .boolean)) (hX : ZX l s (Av s)) (hW9 : WX s) {b L : Nat} {xs : Nat → Int32} (hX9 : va_X b L xs s s.heap) (hbl : b < s.heap.size) (hL2 : L ≤ 2048) {h g : Nat → Nat} {a3 i : Nat} (hi : i + 4 ≤ L) {o : Nat → Int64} {σ : YS} {LT : Nat → Int} {γ : YS} {φ : Nat → Int} {LI BR : Nat → Int} {γ2 : YS} {φ2 : Nat → Int} {θ : Int} (hO : Ok σ) (hL : LR LT) (hK : LOk σ LT) (hI : LI4 LI) (hB : BR9 BR) {k n : Nat} (hk9 : k + 1 ≤ room_1.cells) (hn9 : n + 6 ≤ room_1.slots) {w : Int} (e1 : (xs ((i : Int) + 1).toNat).toInt = w) (r1 : rng w) {x : Int} (e2 : (xs ((i : Int) + 2).toNat).toInt = x) (r2 : rng x) {y : Int} (e3 : (xs ((i : Int) + 3).toNat).toInt = y) (r3 : rng y) (hw : 0 ≤ w ∧ w < σ 4 1) (hx : 0 ≤ x ∧ x < 12) (hy : 0 ≤ y ∧ y < 12) (hq : dS besN (frB σ (lkF (lgV σ) LI 144)) (σ 3 w.toNat).toNat (12 * y + x).toNat = dS nbN (frB σ LT) (σ 3 w.toNat).toNat (12 * y + x).toNat) (kk : KK p l e s m args below meth c Q D cI cJ b h g a3 i (k + 1) (n + 6)) : Zs p l e room_1 s m args below meth c Q (Av s) D 9 1067 (lwL b h g a3 i) [] (lwW cI cJ h g a3 o σ LT γ φ LI BR γ2 φ2 θ) k n := by
  refine z_aload_n C 1 dL_law_1067 rfl ?_
  refine z_aload_n C 0 dL_law_1068 rfl ?_
  refine z_iload C 4 dL_law_1069 rfl ?_
  refine z_iconst C dL_law_1071 ?_
  refine z_iadd C dL_law_1072 ?_
  refine z_sldv C hX9 hbl (Nat.not_le.mpr hbl) hL2 (by omega) e1 dL_law_1073 ?_
  refine z_aload_n C 0 dL_law_1074 rfl ?_
  refine z_iload C 4 dL_law_1075 rfl ?_
  refine z_iconst C dL_law_1077 ?_
  refine z_iadd C dL_law_1078 ?_
  refine z_sldv C hX9 hbl (Nat.not_le.mpr hbl) hL2 (by omega) e2 dL_law_1079 ?_
  refine z_aload_n C 0 dL_law_1080 rfl ?_
  refine z_iload C 4 dL_law_1081 rfl ?_
  refine z_iconst C dL_law_1083 ?_
  refine z_iadd C dL_law_1084 ?_
  refine z_sldv C hX9 hbl (Nat.not_le.mpr hbl) hL2 (by omega) e3 dL_law_1085 ?_
  refine z_aload_n C 3 dL_law_1086 rfl ?_
  refine z_callW C hX hW9 (As := [.ref (h 0), vI w, vI x, vI y, .ref a3]) (st := []) (y := yL_creeps) (w := wsL_creeps) (rm := rmL_creeps) (wr := mx cI g σ LI BR γ2 φ2 θ) (k' := k) (n' := n) [0, 1, 2, 3, 4, 5, 6, 7, 8, 9] [10, 11, 12, 13, 14, 15, 16, 17, 18] (w_L_creeps l D cI cJ h σ LT γ φ w x y hw hx hy hO hL a3 o) (vx_cwSW 5 C.1.2.2.2.2 gL_law_L_creeps rfl rfl rfl (by decide +kernel) ⟨Nat.le_of_ble_eq_true rfl, Nat.le_of_ble_eq_true rfl⟩) rfl rfl rfl rfl rfl (by decide) rfl rfl (Nat.le_of_ble_eq_true rfl) rfl rfl ⟨Nat.le_trans (Nat.le_add_right _ _) hk9, Nat.le_trans (Nat.le_add_right _ _) hn9⟩ dL_law_1087 ?_
  rintro z5 _ ⟨f', γ', rfl, rfl, hf⟩
  refine z_wsub (ws' := (lwW cI cJ h g a3 f' σ LT γ' φ LI BR γ2 φ2 θ)) [9, 10, 11, 12, 13, 14, 15, 16, 17, 18, 0, 1, 2, 3, 4, 5, 6, 7, 8] rfl rfl rfl ?_
  refine z_istore C [(5, vI 0), (0, .ref b), (1, .ref (h 0)), (2, .ref (g 0)), (3, .ref a3), (4, vI (i : Int))] dL_law_1090 (by decide) rfl ?_
  refine z_aload_n C 3 dL_law_1092 rfl ?_
  refine z_aload_n C 1 dL_law_1093 rfl ?_
  refine z_iload C 5 dL_law_1094 rfl ?_
  refine z_iconst C dL_law_1096 ?_
  refine z_iadd C dL_law_1097 ?_
  refine z_sldv C hX9 hbl (Nat.not_le.mpr hbl) hL2 (by omega) e1 dL_law_1098 ?_
  refine z_aload_n C 1 dL_law_1099 rfl ?_
  refine z_iload C 5 dL_law_1100 rfl ?_
  refine z_iconst C dL_law_1102 ?_
  refine z_iadd C dL_law_1103 ?_
  refine z_sldv C hX9 hbl (Nat.not_le.mpr hbl) hL2 (by omega) e2 dL_law_1104 ?_
  refine z_aload_n C 1 dL_law_1105 rfl ?_
  refine z_iload C 5 dL_law_1106 rfl ?_
  refine z_iconst C dL_law_1108 ?_
  refine z_iadd C dL_law_1109 ?_
  refine z_sldv C hX9 hbl (Nat.not_le.mpr hbl) hL2 (by omega) e3 dL_law_1110 ?_
  refine z_callVi C (As := [vI w, vI x, vI y]) (st := []) (y := yX2_creeps) (w := wsX2_creeps) (rm := rm_X2_creeps) (wr := ((a3, lo cJ f') :: cw cI h σ LT γ' φ)) (k' := k) (n' := n) [10, 11, 12, 13, 14, 15, 16, 17, 18] [0, 1, 2, 3, 4, 5, 6, 7, 8, 9] 10 (c_X2_creeps l D cI cJ g σ LI BR γ2 φ2 θ w x y hw hx hy hO hI) (cwV 3 C.1.2.2.2.2 gL_law_X2_creeps rfl rfl rfl (by decide +kernel) ⟨Nat.le_of_ble_eq_true rfl, Nat.le_of_ble_eq_true rfl⟩) rfl rfl rfl rfl rfl (by decide) rfl rfl rfl rfl (Nat.le_of_ble_eq_true rfl) rfl rfl ⟨Nat.le_trans (Nat.le_add_right _ _) hk9, Nat.le_trans (Nat.le_add_right _ _) hn9⟩ dL_law_1111 ?_
  rintro z6 _ ⟨φ'', γ'', rfl, hz6⟩
  refine z_ws (ws' := (lwW cI cJ h g a3 f' σ LT γ' φ (lkF (lgV σ) LI 144) (lkF (brV σ) BR 144) γ'' φ'' 0)) rfl ?_
  refine z_istore C [(6, vI z6), (5, vI 0), (0, .ref b), (1, .ref (h 0)), (2, .ref (g 0)), (3, .ref a3), (4, vI (i : Int))] dL_law_1114 (by decide) rfl ?_
  refine z_aload_n C 4 dL_law_1116 rfl ?_
  refine z_callVi C (As := []) (st := []) (y := yX2_thrown) (w := wsX2_thrown) (rm := rm_X2_thrown) (wr := ((a3, lo cJ f') :: cw cI h σ LT γ' φ)) (k' := k) (n' := n) [10, 11, 12, 13, 14, 15, 16, 17, 18] [0, 1, 2, 3, 4, 5, 6, 7, 8, 9] 10 (c_X2_thrown l D cI cJ g σ (lkF (lgV σ) LI 144) (lkF (brV σ) BR 144) γ'' φ'' 0) (cwV 0 C.1.2.2.2.2 gL_law_X2_thrown rfl rfl rfl (by decide +kernel) ⟨Nat.le_of_ble_eq_true rfl, Nat.le_of_ble_eq_true rfl⟩) rfl rfl rfl rfl rfl (by decide) rfl rfl rfl rfl (Nat.le_of_ble_eq_true rfl) rfl rfl ⟨Nat.le_trans (Nat.le_add_right _ _) hk9, Nat.le_trans (Nat.le_add_right _ _) hn9⟩ dL_law_1117 ?_
  rintro z7 _ ⟨rfl, rfl⟩
  refine z_ws (ws' := (lwW cI cJ h g a3 f' σ LT γ' φ (lkF (lgV σ) LI 144) (lkF (brV σ) BR 144) γ'' φ'' 0)) rfl ?_
  refine z_iload C 1 dL_law_1120 rfl ?_
  refine z_icmp_eq C (tgt := 1127) dL_law_1122 (by decide) (by omega) (by omega) (fun _ => ?_) (fun c9 => absurd rfl c9)
  refine z_iload C 1 dL_law_1127 rfl ?_
  refine z_if_ne C (tgt := 1144) dL_law_1129 (by decide) (by omega) (fun c9 => absurd rfl c9) (fun _ => ?_)
  refine z_aload_n C 5 dL_law_1132 rfl ?_
  refine z_iconst C dL_law_1133 ?_
  refine z_lald C 0 1 rfl rfl dL_law_1134 ?_
  refine z_iload C 0 dL_law_1135 rfl ?_
  refine z_i2l C dL_law_1137 ?_
  refine z_lcmpE C (show f' 0 = (iI z6).toInt64 from (by rw [hf, hz6, hq])) dL_law_1138 ?_
  refine z_if_eq C (tgt := 1144) dL_law_1139 (by decide) (by omega) (fun _ => ?_) (fun c9 => absurd rfl c9)
  refine z_goto C (tgt := 1351) dL_law_1144 (by decide) ?_
  refine z_sub (lv' := lwL b h g a3 i) [2, 3, 4, 5, 6] rfl ?_
  refine z_widen (k' := k + 1) (n' := n + 6) (Nat.le_add_right _ _) (Nat.le_add_right _ _) ?_
  exact kk _ _ _ _ _ _ _ _ _ _ hO hL hK (lkL_r hO hI 144) (lkB_r hO hB (Nat.le_refl _))

set_option maxHeartbeats 4000000 in
set_option maxRecDepth 100000 in
theorem o1_creeps {p : Program} {l : Launch} {e : Env} {s : State} {m : MethodId} {args : Array Value} {below : List Frame} {meth : Method} {c : Code} {Q : State → Prop} {D : va_G} {cI cJ : ClassId} (C : Zc p s m args meth c (Av s) D [(cI, .int), (cJ, .long)] 9 cL_law RL wsL_law (some .boolean)) (hX : ZX l s (Av s)) (hW9 : WX s) {b L : Nat} {xs : Nat → Int32} (hX9 : va_X b L xs s s.heap) (hbl : b < s.heap.size) (hL2 : L ≤ 2048) {h g : Nat → Nat} {a3 i : Nat} (hi : i + 4 ≤ L) {o : Nat → Int64} {σ : YS} {LT : Nat → Int} {γ : YS} {φ : Nat → Int} {LI BR : Nat → Int} {γ2 : YS} {φ2 : Nat → Int} {θ : Int} (hO : Ok σ) (hL : LR LT) (hK : LOk σ LT) (hI : LI4 LI) (hB : BR9 BR) {k n : Nat} (hk9 : k + 1 ≤ room_1.cells) (hn9 : n + 6 ≤ room_1.slots) {w : Int} (e1 : (xs ((i : Int) + 1).toNat).toInt = w) (r1 : rng w) {x : Int} (e2 : (xs ((i : Int) + 2).toNat).toInt = x) (r2 : rng x) {y : Int} (e3 : (xs ((i : Int) + 3).toNat).toInt = y) (r3 : rng y) (hb : ¬ (0 ≤ w ∧ w < σ 4 1)) (kk : KK p l e s m args below meth c Q D cI cJ b h g a3 i (k + 1) (n + 6)) : Zs p l e room_1 s m args below meth c Q (Av s) D 9 1067 (lwL b h g a3 i) [] (lwW cI cJ h g a3 o σ LT γ φ LI BR γ2 φ2 θ) k n := by
  refine z_aload_n C 1 dL_law_1067 rfl ?_
  refine z_aload_n C 0 dL_law_1068 rfl ?_
  refine z_iload C 4 dL_law_1069 rfl ?_
  refine z_iconst C dL_law_1071 ?_
  refine z_iadd C dL_law_1072 ?_
  refine z_sldv C hX9 hbl (Nat.not_le.mpr hbl) hL2 (by omega) e1 dL_law_1073 ?_
  refine z_aload_n C 0 dL_law_1074 rfl ?_
  refine z_iload C 4 dL_law_1075 rfl ?_
  refine z_iconst C dL_law_1077 ?_
  refine z_iadd C dL_law_1078 ?_
  refine z_sldv C hX9 hbl (Nat.not_le.mpr hbl) hL2 (by omega) e2 dL_law_1079 ?_
  refine z_aload_n C 0 dL_law_1080 rfl ?_
  refine z_iload C 4 dL_law_1081 rfl ?_
  refine z_iconst C dL_law_1083 ?_
  refine z_iadd C dL_law_1084 ?_
  refine z_sldv C hX9 hbl (Nat.not_le.mpr hbl) hL2 (by omega) e3 dL_law_1085 ?_
  refine z_aload_n C 3 dL_law_1086 rfl ?_
  refine z_callW C hX hW9 (As := [.ref (h 0), vI w, vI x, vI y, .ref a3]) (st := []) (y := yL_creeps) (w := wsL_creeps) (rm := rxL_creeps) (wr := mx cI g σ LI BR γ2 φ2 θ) (k' := (k + 1)) (n' := (n + 6)) [0, 1, 2, 3, 4, 5, 6, 7, 8, 9] [10, 11, 12, 13, 14, 15, 16, 17, 18] (wx_L_creeps l D cI cJ h σ LT γ φ w x y ⟨r1, r2, r3⟩ hO hb a3 o) (vx_cwSW 5 C.1.2.2.2.2 gL_law_L_creeps rfl rfl rfl (by decide +kernel) ⟨Nat.le_of_ble_eq_true rfl, Nat.le_of_ble_eq_true rfl⟩) rfl rfl rfl rfl rfl (by decide) rfl rfl (Nat.le_of_ble_eq_true rfl) rfl rfl ⟨hk9, hn9⟩ dL_law_1087 ?_
  rintro z5 _ ⟨rfl, rfl⟩
  refine z_wsub (ws' := (lwW cI cJ h g a3 o σ LT γ φ LI BR γ2 φ2 θ)) [9, 10, 11, 12, 13, 14, 15, 16, 17, 18, 0, 1, 2, 3, 4, 5, 6, 7, 8] rfl rfl rfl ?_
  refine z_istore C [(5, vI 1), (0, .ref b), (1, .ref (h 0)), (2, .ref (g 0)), (3, .ref a3), (4, vI (i : Int))] dL_law_1090 (by decide) rfl ?_
  refine z_aload_n C 3 dL_law_1092 rfl ?_
  refine z_aload_n C 1 dL_law_1093 rfl ?_
  refine z_iload C 5 dL_law_1094 rfl ?_
  refine z_iconst C dL_law_1096 ?_
  refine z_iadd C dL_law_1097 ?_
  refine z_sldv C hX9 hbl (Nat.not_le.mpr hbl) hL2 (by omega) e1 dL_law_1098 ?_
  refine z_aload_n C 1 dL_law_1099 rfl ?_
  refine z_iload C 5 dL_law_1100 rfl ?_
  refine z_iconst C dL_law_1102 ?_
  refine z_iadd C dL_law_1103 ?_
  refine z_sldv C hX9 hbl (Nat.not_le.mpr hbl) hL2 (by omega) e2 dL_law_1104 ?_
  refine z_aload_n C 1 dL_law_1105 rfl ?_
  refine z_iload C 5 dL_law_1106 rfl ?_
  refine z_iconst C dL_law_1108 ?_
  refine z_iadd C dL_law_1109 ?_
  refine z_sldv C hX9 hbl (Nat.not_le.mpr hbl) hL2 (by omega) e3 dL_law_1110 ?_
  refine z_callVi C (As := [vI w, vI x, vI y]) (st := []) (y := yX2_creeps) (w := wsX2_creeps) (rm := rm_X2_creeps) (wr := ((a3, lo cJ o) :: cw cI h σ LT γ φ)) (k' := (k + 1)) (n' := (n + 6)) [10, 11, 12, 13, 14, 15, 16, 17, 18] [0, 1, 2, 3, 4, 5, 6, 7, 8, 9] 10 (b1_X2_creeps l D cI cJ g σ LI BR γ2 φ2 θ w x y ⟨r1, r2, r3⟩ hO (fun q => hb q.1)) (cwV 3 C.1.2.2.2.2 gL_law_X2_creeps rfl rfl rfl (by decide +kernel) ⟨Nat.le_of_ble_eq_true rfl, Nat.le_of_ble_eq_true rfl⟩) rfl rfl rfl rfl rfl (by decide) rfl rfl rfl rfl (Nat.le_of_ble_eq_true rfl) rfl rfl ⟨hk9, hn9⟩ dL_law_1111 ?_
  rintro z6 _ ⟨rfl, hz6⟩
  refine z_ws (ws' := (lwW cI cJ h g a3 o σ LT γ φ LI BR γ2 φ2 1)) rfl ?_
  have q6 : rng z6 := by rw [hz6]; decide
  refine z_istore C [(6, vI z6), (5, vI 1), (0, .ref b), (1, .ref (h 0)), (2, .ref (g 0)), (3, .ref a3), (4, vI (i : Int))] dL_law_1114 (by decide) rfl ?_
  refine z_aload_n C 4 dL_law_1116 rfl ?_
  refine z_callVi C (As := []) (st := []) (y := yX2_thrown) (w := wsX2_thrown) (rm := rm_X2_thrown) (wr := ((a3, lo cJ o) :: cw cI h σ LT γ φ)) (k' := (k + 1)) (n' := (n + 6)) [10, 11, 12, 13, 14, 15, 16, 17, 18] [0, 1, 2, 3, 4, 5, 6, 7, 8, 9] 10 (c_X2_thrown l D cI cJ g σ LI BR γ2 φ2 1) (cwV 0 C.1.2.2.2.2 gL_law_X2_thrown rfl rfl rfl (by decide +kernel) ⟨Nat.le_of_ble_eq_true rfl, Nat.le_of_ble_eq_true rfl⟩) rfl rfl rfl rfl rfl (by decide) rfl rfl rfl rfl (Nat.le_of_ble_eq_true rfl) rfl rfl ⟨hk9, hn9⟩ dL_law_1117 ?_
  rintro z7 _ ⟨rfl, rfl⟩
  refine z_ws (ws' := (lwW cI cJ h g a3 o σ LT γ φ LI BR γ2 φ2 1)) rfl ?_
  refine z_iload C 1 dL_law_1120 rfl ?_
  refine z_icmp_eq C (tgt := 1127) dL_law_1122 (by decide) (by omega) (by omega) (fun _ => ?_) (fun c9 => absurd rfl c9)
  refine z_iload C 1 dL_law_1127 rfl ?_
  refine z_if_ne C (tgt := 1144) dL_law_1129 (by decide) (by omega) (fun _ => ?_) (fun c9 => absurd c9 (by decide))
  refine z_goto C (tgt := 1351) dL_law_1144 (by decide) ?_
  refine z_sub (lv' := lwL b h g a3 i) [2, 3, 4, 5, 6] rfl ?_
  exact kk _ _ _ _ _ _ _ _ _ _ hO hL hK hI hB

set_option maxHeartbeats 4000000 in
set_option maxRecDepth 100000 in
theorem o2_creeps {p : Program} {l : Launch} {e : Env} {s : State} {m : MethodId} {args : Array Value} {below : List Frame} {meth : Method} {c : Code} {Q : State → Prop} {D : va_G} {cI cJ : ClassId} (C : Zc p s m args meth c (Av s) D [(cI, .int), (cJ, .long)] 9 cL_law RL wsL_law (some .boolean)) (hX : ZX l s (Av s)) (hW9 : WX s) {b L : Nat} {xs : Nat → Int32} (hX9 : va_X b L xs s s.heap) (hbl : b < s.heap.size) (hL2 : L ≤ 2048) {h g : Nat → Nat} {a3 i : Nat} (hi : i + 4 ≤ L) {o : Nat → Int64} {σ : YS} {LT : Nat → Int} {γ : YS} {φ : Nat → Int} {LI BR : Nat → Int} {γ2 : YS} {φ2 : Nat → Int} {θ : Int} (hO : Ok σ) (hL : LR LT) (hK : LOk σ LT) (hI : LI4 LI) (hB : BR9 BR) {k n : Nat} (hk9 : k + 1 ≤ room_1.cells) (hn9 : n + 6 ≤ room_1.slots) {w : Int} (e1 : (xs ((i : Int) + 1).toNat).toInt = w) (r1 : rng w) {x : Int} (e2 : (xs ((i : Int) + 2).toNat).toInt = x) (r2 : rng x) {y : Int} (e3 : (xs ((i : Int) + 3).toNat).toInt = y) (r3 : rng y) (hw : 0 ≤ w ∧ w < σ 4 1) (hb : ¬ ((0 ≤ x ∧ x < 12) ∧ 0 ≤ y ∧ y < 12)) (kk : KK p l e s m args below meth c Q D cI cJ b h g a3 i (k + 1) (n + 6)) : Zs p l e room_1 s m args below meth c Q (Av s) D 9 1067 (lwL b h g a3 i) [] (lwW cI cJ h g a3 o σ LT γ φ LI BR γ2 φ2 θ) k n := by
  refine z_aload_n C 1 dL_law_1067 rfl ?_
  refine z_aload_n C 0 dL_law_1068 rfl ?_
  refine z_iload C 4 dL_law_1069 rfl ?_
  refine z_iconst C dL_law_1071 ?_
  refine z_iadd C dL_law_1072 ?_
  refine z_sldv C hX9 hbl (Nat.not_le.mpr hbl) hL2 (by omega) e1 dL_law_1073 ?_
  refine z_aload_n C 0 dL_law_1074 rfl ?_
  refine z_iload C 4 dL_law_1075 rfl ?_
  refine z_iconst C dL_law_1077 ?_
  refine z_iadd C dL_law_1078 ?_
  refine z_sldv C hX9 hbl (Nat.not_le.mpr hbl) hL2 (by omega) e2 dL_law_1079 ?_
  refine z_aload_n C 0 dL_law_1080 rfl ?_
  refine z_iload C 4 dL_law_1081 rfl ?_
  refine z_iconst C dL_law_1083 ?_
  refine z_iadd C dL_law_1084 ?_
  refine z_sldv C hX9 hbl (Nat.not_le.mpr hbl) hL2 (by omega) e3 dL_law_1085 ?_
  refine z_aload_n C 3 dL_law_1086 rfl ?_
  refine z_callW C hX hW9 (As := [.ref (h 0), vI w, vI x, vI y, .ref a3]) (st := []) (y := yL_creeps) (w := wsL_creeps) (rm := rxL_creeps) (wr := mx cI g σ LI BR γ2 φ2 θ) (k' := (k + 1)) (n' := (n + 6)) [0, 1, 2, 3, 4, 5, 6, 7, 8, 9] [10, 11, 12, 13, 14, 15, 16, 17, 18] (wbx_L_creeps l D cI cJ h σ LT γ φ w x y ⟨r1, r2, r3⟩ hO hw hb a3 o) (vx_cwSW 5 C.1.2.2.2.2 gL_law_L_creeps rfl rfl rfl (by decide +kernel) ⟨Nat.le_of_ble_eq_true rfl, Nat.le_of_ble_eq_true rfl⟩) rfl rfl rfl rfl rfl (by decide) rfl rfl (Nat.le_of_ble_eq_true rfl) rfl rfl ⟨hk9, hn9⟩ dL_law_1087 ?_
  rintro z5 _ ⟨rfl, rfl⟩
  refine z_wsub (ws' := (lwW cI cJ h g a3 o σ LT γ φ LI BR γ2 φ2 θ)) [9, 10, 11, 12, 13, 14, 15, 16, 17, 18, 0, 1, 2, 3, 4, 5, 6, 7, 8] rfl rfl rfl ?_
  refine z_istore C [(5, vI 1), (0, .ref b), (1, .ref (h 0)), (2, .ref (g 0)), (3, .ref a3), (4, vI (i : Int))] dL_law_1090 (by decide) rfl ?_
  refine z_aload_n C 3 dL_law_1092 rfl ?_
  refine z_aload_n C 1 dL_law_1093 rfl ?_
  refine z_iload C 5 dL_law_1094 rfl ?_
  refine z_iconst C dL_law_1096 ?_
  refine z_iadd C dL_law_1097 ?_
  refine z_sldv C hX9 hbl (Nat.not_le.mpr hbl) hL2 (by omega) e1 dL_law_1098 ?_
  refine z_aload_n C 1 dL_law_1099 rfl ?_
  refine z_iload C 5 dL_law_1100 rfl ?_
  refine z_iconst C dL_law_1102 ?_
  refine z_iadd C dL_law_1103 ?_
  refine z_sldv C hX9 hbl (Nat.not_le.mpr hbl) hL2 (by omega) e2 dL_law_1104 ?_
  refine z_aload_n C 1 dL_law_1105 rfl ?_
  refine z_iload C 5 dL_law_1106 rfl ?_
  refine z_iconst C dL_law_1108 ?_
  refine z_iadd C dL_law_1109 ?_
  refine z_sldv C hX9 hbl (Nat.not_le.mpr hbl) hL2 (by omega) e3 dL_law_1110 ?_
  refine z_callVi C (As := [vI w, vI x, vI y]) (st := []) (y := yX2_creeps) (w := wsX2_creeps) (rm := rm_X2_creeps) (wr := ((a3, lo cJ o) :: cw cI h σ LT γ φ)) (k' := (k + 1)) (n' := (n + 6)) [10, 11, 12, 13, 14, 15, 16, 17, 18] [0, 1, 2, 3, 4, 5, 6, 7, 8, 9] 10 (b1_X2_creeps l D cI cJ g σ LI BR γ2 φ2 θ w x y ⟨r1, r2, r3⟩ hO (fun q => hb q.2)) (cwV 3 C.1.2.2.2.2 gL_law_X2_creeps rfl rfl rfl (by decide +kernel) ⟨Nat.le_of_ble_eq_true rfl, Nat.le_of_ble_eq_true rfl⟩) rfl rfl rfl rfl rfl (by decide) rfl rfl rfl rfl (Nat.le_of_ble_eq_true rfl) rfl rfl ⟨hk9, hn9⟩ dL_law_1111 ?_
  rintro z6 _ ⟨rfl, hz6⟩
  refine z_ws (ws' := (lwW cI cJ h g a3 o σ LT γ φ LI BR γ2 φ2 1)) rfl ?_
  have q6 : rng z6 := by rw [hz6]; decide
  refine z_istore C [(6, vI z6), (5, vI 1), (0, .ref b), (1, .ref (h 0)), (2, .ref (g 0)), (3, .ref a3), (4, vI (i : Int))] dL_law_1114 (by decide) rfl ?_
  refine z_aload_n C 4 dL_law_1116 rfl ?_
  refine z_callVi C (As := []) (st := []) (y := yX2_thrown) (w := wsX2_thrown) (rm := rm_X2_thrown) (wr := ((a3, lo cJ o) :: cw cI h σ LT γ φ)) (k' := (k + 1)) (n' := (n + 6)) [10, 11, 12, 13, 14, 15, 16, 17, 18] [0, 1, 2, 3, 4, 5, 6, 7, 8, 9] 10 (c_X2_thrown l D cI cJ g σ LI BR γ2 φ2 1) (cwV 0 C.1.2.2.2.2 gL_law_X2_thrown rfl rfl rfl (by decide +kernel) ⟨Nat.le_of_ble_eq_true rfl, Nat.le_of_ble_eq_true rfl⟩) rfl rfl rfl rfl rfl (by decide) rfl rfl rfl rfl (Nat.le_of_ble_eq_true rfl) rfl rfl ⟨hk9, hn9⟩ dL_law_1117 ?_
  rintro z7 _ ⟨rfl, rfl⟩
  refine z_ws (ws' := (lwW cI cJ h g a3 o σ LT γ φ LI BR γ2 φ2 1)) rfl ?_
  refine z_iload C 1 dL_law_1120 rfl ?_
  refine z_icmp_eq C (tgt := 1127) dL_law_1122 (by decide) (by omega) (by omega) (fun _ => ?_) (fun c9 => absurd rfl c9)
  refine z_iload C 1 dL_law_1127 rfl ?_
  refine z_if_ne C (tgt := 1144) dL_law_1129 (by decide) (by omega) (fun _ => ?_) (fun c9 => absurd c9 (by decide))
  refine z_goto C (tgt := 1351) dL_law_1144 (by decide) ?_
  refine z_sub (lv' := lwL b h g a3 i) [2, 3, 4, 5, 6] rfl ?_
  exact kk _ _ _ _ _ _ _ _ _ _ hO hL hK hI hB

set_option maxHeartbeats 4000000 in
set_option maxRecDepth 100000 in
theorem o0_advise {p : Program} {l : Launch} {e : Env} {s : State} {m : MethodId} {args : Array Value} {below : List Frame} {meth : Method} {c : Code} {Q : State → Prop} {D : va_G} {cI cJ : ClassId} (C : Zc p s m args meth c (Av s) D [(cI, .int), (cJ, .long)] 9 cL_law RL wsL_law (some .boolean)) (hX : ZX l s (Av s)) (hW9 : WX s) {b L : Nat} {xs : Nat → Int32} (hX9 : va_X b L xs s s.heap) (hbl : b < s.heap.size) (hL2 : L ≤ 2048) {h g : Nat → Nat} {a3 i : Nat} (hi : i + 4 ≤ L) {o : Nat → Int64} {σ : YS} {LT : Nat → Int} {γ : YS} {φ : Nat → Int} {LI BR : Nat → Int} {γ2 : YS} {φ2 : Nat → Int} {θ : Int} (hO : Ok σ) (hL : LR LT) (hK : LOk σ LT) (hI : LI4 LI) (hB : BR9 BR) {k n : Nat} (hk9 : k + 1 ≤ room_1.cells) (hn9 : n + 6 ≤ room_1.slots) {kl : Int} (e1 : (xs ((i : Int) + 1).toNat).toInt = kl) (r1 : rng kl) (hk : 0 ≤ kl ∧ kl < σ 4 0) (kk : KK p l e s m args below meth c Q D cI cJ b h g a3 i (k + 1) (n + 6)) : Zs p l e room_1 s m args below meth c Q (Av s) D 9 1227 (lwL b h g a3 i) [] (lwW cI cJ h g a3 o σ LT γ φ LI BR γ2 φ2 θ) k n := by
  refine z_aload_n C 1 dL_law_1227 rfl ?_
  refine z_aload_n C 0 dL_law_1228 rfl ?_
  refine z_iload C 4 dL_law_1229 rfl ?_
  refine z_iconst C dL_law_1231 ?_
  refine z_iadd C dL_law_1232 ?_
  refine z_sldv C hX9 hbl (Nat.not_le.mpr hbl) hL2 (by omega) e1 dL_law_1233 ?_
  refine z_aload_n C 3 dL_law_1234 rfl ?_
  refine z_callW C hX hW9 (As := [.ref (h 0), vI kl, .ref a3]) (st := []) (y := yL_advise) (w := wsL_advise) (rm := rmL_advise) (wr := mx cI g σ LI BR γ2 φ2 θ) (k' := k) (n' := n) [0, 1, 2, 3, 4, 5, 6, 7, 8, 9] [10, 11, 12, 13, 14, 15, 16, 17, 18] (w_L_advise l D cI cJ h σ LT γ φ kl hk hO hL a3 o) (vx_cwSW 3 C.1.2.2.2.2 gL_law_L_advise rfl rfl rfl (by decide +kernel) ⟨Nat.le_of_ble_eq_true rfl, Nat.le_of_ble_eq_true rfl⟩) rfl rfl rfl rfl rfl (by decide) rfl rfl (Nat.le_of_ble_eq_true rfl) rfl rfl ⟨Nat.le_trans (Nat.le_add_right _ _) hk9, Nat.le_trans (Nat.le_add_right _ _) hn9⟩ dL_law_1235 ?_
  rintro z5 _ ⟨f', φ', rfl, rfl, hf⟩
  refine z_wsub (ws' := (lwW cI cJ h g a3 f' σ LT γ φ' LI BR γ2 φ2 θ)) [9, 10, 11, 12, 13, 14, 15, 16, 17, 18, 0, 1, 2, 3, 4, 5, 6, 7, 8] rfl rfl rfl ?_
  refine z_istore C [(5, vI 0), (0, .ref b), (1, .ref (h 0)), (2, .ref (g 0)), (3, .ref a3), (4, vI (i : Int))] dL_law_1238 (by decide) rfl ?_
  refine z_aload_n C 3 dL_law_1240 rfl ?_
  refine z_aload_n C 1 dL_law_1241 rfl ?_
  refine z_iload C 5 dL_law_1242 rfl ?_
  refine z_iconst C dL_law_1244 ?_
  refine z_iadd C dL_law_1245 ?_
  refine z_sldv C hX9 hbl (Nat.not_le.mpr hbl) hL2 (by omega) e1 dL_law_1246 ?_
  refine z_callVi C (As := [vI kl]) (st := []) (y := yX2_advise) (w := wsX2_advise) (rm := rmA_X2_advise) (wr := ((a3, lo cJ f') :: cw cI h σ LT γ φ')) (k' := (k + 1)) (n' := (n + 4)) [10, 11, 12, 13, 14, 15, 16, 17, 18] [0, 1, 2, 3, 4, 5, 6, 7, 8, 9] 10 (c_X2_advise l D cI cJ g σ LI BR γ2 φ2 θ kl hk hO hI hB) (cwV 1 C.1.2.2.2.2 gL_law_X2_advise rfl rfl rfl (by decide +kernel) ⟨Nat.le_of_ble_eq_true rfl, Nat.le_of_ble_eq_true rfl⟩) rfl rfl rfl rfl rfl (by decide) rfl rfl rfl rfl (Nat.le_of_ble_eq_true rfl) rfl rfl ⟨hk9, Nat.le_trans (Nat.add_le_add_left (by decide) _) hn9⟩ dL_law_1247 ?_
  rintro z6 _ ⟨LI', BR', φ'', rfl, hz6, hI9, hB9⟩
  refine z_ws (ws' := (lwW cI cJ h g a3 f' σ LT γ φ' LI' BR' γ2 φ'' 0)) rfl ?_
  refine z_istore C [(6, vI z6), (5, vI 0), (0, .ref b), (1, .ref (h 0)), (2, .ref (g 0)), (3, .ref a3), (4, vI (i : Int))] dL_law_1250 (by decide) rfl ?_
  refine z_aload_n C 4 dL_law_1252 rfl ?_
  refine z_callVi C (As := []) (st := []) (y := yX2_thrown) (w := wsX2_thrown) (rm := rm_X2_thrown) (wr := ((a3, lo cJ f') :: cw cI h σ LT γ φ')) (k' := (k + 1)) (n' := (n + 4)) [10, 11, 12, 13, 14, 15, 16, 17, 18] [0, 1, 2, 3, 4, 5, 6, 7, 8, 9] 10 (c_X2_thrown l D cI cJ g σ LI' BR' γ2 φ'' 0) (cwV 0 C.1.2.2.2.2 gL_law_X2_thrown rfl rfl rfl (by decide +kernel) ⟨Nat.le_of_ble_eq_true rfl, Nat.le_of_ble_eq_true rfl⟩) rfl rfl rfl rfl rfl (by decide) rfl rfl rfl rfl (Nat.le_of_ble_eq_true rfl) rfl rfl ⟨hk9, Nat.le_trans (Nat.add_le_add_left (by decide) _) hn9⟩ dL_law_1253 ?_
  rintro z7 _ ⟨rfl, rfl⟩
  refine z_ws (ws' := (lwW cI cJ h g a3 f' σ LT γ φ' LI' BR' γ2 φ'' 0)) rfl ?_
  refine z_iload C 1 dL_law_1256 rfl ?_
  refine z_icmp_eq C (tgt := 1263) dL_law_1258 (by decide) (by omega) (by omega) (fun _ => ?_) (fun c9 => absurd rfl c9)
  refine z_iload C 1 dL_law_1263 rfl ?_
  refine z_if_ne C (tgt := 1280) dL_law_1265 (by decide) (by omega) (fun c9 => absurd rfl c9) (fun _ => ?_)
  refine z_aload_n C 5 dL_law_1268 rfl ?_
  refine z_iconst C dL_law_1269 ?_
  refine z_lald C 0 1 rfl rfl dL_law_1270 ?_
  refine z_iload C 0 dL_law_1271 rfl ?_
  refine z_i2l C dL_law_1273 ?_
  refine z_lcmpE C (show f' 0 = (iI z6).toInt64 from (by rw [hf, hz6, ad_e hO hL hK (lt_la hO hk) 4 (Nat.le_refl _)])) dL_law_1274 ?_
  refine z_if_eq C (tgt := 1280) dL_law_1275 (by decide) (by omega) (fun _ => ?_) (fun c9 => absurd rfl c9)
  refine z_goto C (tgt := 1351) dL_law_1280 (by decide) ?_
  refine z_sub (lv' := lwL b h g a3 i) [2, 3, 4, 5, 6] rfl ?_
  refine z_widen (k' := k + 1) (n' := n + 6) (Nat.le_refl _) (Nat.add_le_add_left (by decide) _) ?_
  exact kk _ _ _ _ _ _ _ _ _ _ hO hL hK hI9 hB9

set_option maxHeartbeats 4000000 in
set_option maxRecDepth 100000 in
theorem o1_advise {p : Program} {l : Launch} {e : Env} {s : State} {m : MethodId} {args : Array Value} {below : List Frame} {meth : Method} {c : Code} {Q : State → Prop} {D : va_G} {cI cJ : ClassId} (C : Zc p s m args meth c (Av s) D [(cI, .int), (cJ, .long)] 9 cL_law RL wsL_law (some .boolean)) (hX : ZX l s (Av s)) (hW9 : WX s) {b L : Nat} {xs : Nat → Int32} (hX9 : va_X b L xs s s.heap) (hbl : b < s.heap.size) (hL2 : L ≤ 2048) {h g : Nat → Nat} {a3 i : Nat} (hi : i + 4 ≤ L) {o : Nat → Int64} {σ : YS} {LT : Nat → Int} {γ : YS} {φ : Nat → Int} {LI BR : Nat → Int} {γ2 : YS} {φ2 : Nat → Int} {θ : Int} (hO : Ok σ) (hL : LR LT) (hK : LOk σ LT) (hI : LI4 LI) (hB : BR9 BR) {k n : Nat} (hk9 : k + 1 ≤ room_1.cells) (hn9 : n + 6 ≤ room_1.slots) {kl : Int} (e1 : (xs ((i : Int) + 1).toNat).toInt = kl) (r1 : rng kl) (hb : ¬ (0 ≤ kl ∧ kl < σ 4 0)) (kk : KK p l e s m args below meth c Q D cI cJ b h g a3 i (k + 1) (n + 6)) : Zs p l e room_1 s m args below meth c Q (Av s) D 9 1227 (lwL b h g a3 i) [] (lwW cI cJ h g a3 o σ LT γ φ LI BR γ2 φ2 θ) k n := by
  refine z_aload_n C 1 dL_law_1227 rfl ?_
  refine z_aload_n C 0 dL_law_1228 rfl ?_
  refine z_iload C 4 dL_law_1229 rfl ?_
  refine z_iconst C dL_law_1231 ?_
  refine z_iadd C dL_law_1232 ?_
  refine z_sldv C hX9 hbl (Nat.not_le.mpr hbl) hL2 (by omega) e1 dL_law_1233 ?_
  refine z_aload_n C 3 dL_law_1234 rfl ?_
  refine z_callW C hX hW9 (As := [.ref (h 0), vI kl, .ref a3]) (st := []) (y := yL_advise) (w := wsL_advise) (rm := rxL_advise) (wr := mx cI g σ LI BR γ2 φ2 θ) (k' := (k + 1)) (n' := (n + 6)) [0, 1, 2, 3, 4, 5, 6, 7, 8, 9] [10, 11, 12, 13, 14, 15, 16, 17, 18] (wx_L_advise l D cI cJ h σ LT γ φ kl r1 hO hb a3 o) (vx_cwSW 3 C.1.2.2.2.2 gL_law_L_advise rfl rfl rfl (by decide +kernel) ⟨Nat.le_of_ble_eq_true rfl, Nat.le_of_ble_eq_true rfl⟩) rfl rfl rfl rfl rfl (by decide) rfl rfl (Nat.le_of_ble_eq_true rfl) rfl rfl ⟨hk9, hn9⟩ dL_law_1235 ?_
  rintro z5 _ ⟨rfl, rfl⟩
  refine z_wsub (ws' := (lwW cI cJ h g a3 o σ LT γ φ LI BR γ2 φ2 θ)) [9, 10, 11, 12, 13, 14, 15, 16, 17, 18, 0, 1, 2, 3, 4, 5, 6, 7, 8] rfl rfl rfl ?_
  refine z_istore C [(5, vI 1), (0, .ref b), (1, .ref (h 0)), (2, .ref (g 0)), (3, .ref a3), (4, vI (i : Int))] dL_law_1238 (by decide) rfl ?_
  refine z_aload_n C 3 dL_law_1240 rfl ?_
  refine z_aload_n C 1 dL_law_1241 rfl ?_
  refine z_iload C 5 dL_law_1242 rfl ?_
  refine z_iconst C dL_law_1244 ?_
  refine z_iadd C dL_law_1245 ?_
  refine z_sldv C hX9 hbl (Nat.not_le.mpr hbl) hL2 (by omega) e1 dL_law_1246 ?_
  refine z_callVi C (As := [vI kl]) (st := []) (y := yX2_advise) (w := wsX2_advise) (rm := rm_X2_advise) (wr := ((a3, lo cJ o) :: cw cI h σ LT γ φ)) (k' := (k + 1)) (n' := (n + 6)) [10, 11, 12, 13, 14, 15, 16, 17, 18] [0, 1, 2, 3, 4, 5, 6, 7, 8, 9] 10 (b1_X2_advise l D cI cJ g σ LI BR γ2 φ2 θ kl r1 hO hb) (cwV 1 C.1.2.2.2.2 gL_law_X2_advise rfl rfl rfl (by decide +kernel) ⟨Nat.le_of_ble_eq_true rfl, Nat.le_of_ble_eq_true rfl⟩) rfl rfl rfl rfl rfl (by decide) rfl rfl rfl rfl (Nat.le_of_ble_eq_true rfl) rfl rfl ⟨hk9, hn9⟩ dL_law_1247 ?_
  rintro z6 _ ⟨rfl, hz6⟩
  refine z_ws (ws' := (lwW cI cJ h g a3 o σ LT γ φ LI BR γ2 φ2 1)) rfl ?_
  have q6 : rng z6 := by rw [hz6]; decide
  refine z_istore C [(6, vI z6), (5, vI 1), (0, .ref b), (1, .ref (h 0)), (2, .ref (g 0)), (3, .ref a3), (4, vI (i : Int))] dL_law_1250 (by decide) rfl ?_
  refine z_aload_n C 4 dL_law_1252 rfl ?_
  refine z_callVi C (As := []) (st := []) (y := yX2_thrown) (w := wsX2_thrown) (rm := rm_X2_thrown) (wr := ((a3, lo cJ o) :: cw cI h σ LT γ φ)) (k' := (k + 1)) (n' := (n + 6)) [10, 11, 12, 13, 14, 15, 16, 17, 18] [0, 1, 2, 3, 4, 5, 6, 7, 8, 9] 10 (c_X2_thrown l D cI cJ g σ LI BR γ2 φ2 1) (cwV 0 C.1.2.2.2.2 gL_law_X2_thrown rfl rfl rfl (by decide +kernel) ⟨Nat.le_of_ble_eq_true rfl, Nat.le_of_ble_eq_true rfl⟩) rfl rfl rfl rfl rfl (by decide) rfl rfl rfl rfl (Nat.le_of_ble_eq_true rfl) rfl rfl ⟨hk9, hn9⟩ dL_law_1253 ?_
  rintro z7 _ ⟨rfl, rfl⟩
  refine z_ws (ws' := (lwW cI cJ h g a3 o σ LT γ φ LI BR γ2 φ2 1)) rfl ?_
  refine z_iload C 1 dL_law_1256 rfl ?_
  refine z_icmp_eq C (tgt := 1263) dL_law_1258 (by decide) (by omega) (by omega) (fun _ => ?_) (fun c9 => absurd rfl c9)
  refine z_iload C 1 dL_law_1263 rfl ?_
  refine z_if_ne C (tgt := 1280) dL_law_1265 (by decide) (by omega) (fun _ => ?_) (fun c9 => absurd c9 (by decide))
  refine z_goto C (tgt := 1351) dL_law_1280 (by decide) ?_
  refine z_sub (lv' := lwL b h g a3 i) [2, 3, 4, 5, 6] rfl ?_
  exact kk _ _ _ _ _ _ _ _ _ _ hO hL hK hI hB
