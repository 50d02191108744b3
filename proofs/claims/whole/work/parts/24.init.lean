theorem z_ofvI {l : Launch} {D : va_G} {tys : List (ClassId × FieldType)} {cc : ByteArray} {own : String} {lv : List (Nat × Value)} {y : MethodName} {w w' : List Cond} {rm : Room} {As : List Value} {wc : va_W} {maxL : Nat} {Qo : va_W → Prop} (hy : plainName y.cls = true) (hw : w = Cond.code y cc maxL none :: w') (hown : y.cls = own) (hnm : y.name = "<init>") (hlen : (lg_sl As).length ≤ maxL) (hlv : lv_args 0 As = lv)
    (body : ∀ (p : Program) (e : Env) (s : State) (m : MethodId) (args : Array Value) (below : List Frame) (meth : Method) (c : Code) (Q : State → Prop) (A : Nat → Prop), Zc p s m args meth c A D tys maxL cc own w none → meth.name = "<init>" → (∀ (pc : Nat) (lv : List (Nat × Value)) (ws : va_W), decode cc pc = .ok (.return_, 1) → Qo ws → Zs p l e rm s m args below meth c Q A D maxL pc lv [] ws rm.cells rm.slots) → Zs p l e rm s m args below meth c Q A D maxL 0 lv [] wc 0 0) : Cv l y w rm D tys As wc Qo := by
  intro sz
  refine Met.ofW (cc := cc) (maxL := maxL) (ret := none) hy hw ?_
  intro p e s m args below meth c s₁ B hml hv
  obtain ⟨rfl, hsz, hP, hK, hD0, hNW⟩ := hv
  subst hsz
  subst hlv
  have hown' : s.vm.findClass own = some m.cls := hown ▸ findClass_of_methodNamed B.named
  have hin : meth.name = "<init>" := ((name_of_methodNamed B.named B.method).1).trans hnm
  have C0 : Zc p s m As.toArray meth c (va_A wc s.heap.size) D tys maxL cc own w none := ⟨⟨B.exec, B.bytes, hml, hown', atoms_spec (ws := w) B.pre⟩, hK, fun q h => Or.inr h, B.notSynchronized, B.returns, hNW⟩
  rw [lg_entry_eq]
  exact body p e s m As.toArray below meth c _ _ C0 hin (fun pc lv ws hd hq => z_vret C0 hd rfl hq) s.heap [] _ hP (hD0.self) va_S.rf (lv_entry As hlen)
theorem z_callIN {p : Program} {l : Launch} {e : Env} {R : Room} {s : State} {m : MethodId} {args : Array Value} {below : List Frame} {meth : Method} {c : Code} {Q : State → Prop} {A : Nat → Prop} {D : va_G} {tys : List (ClassId × FieldType)} {nL : Nat} {cc : ByteArray} {own : String} {Ts : List Cond} {rt : Option FieldType} {pc : Nat} {lv : List (Nat × Value)} {st : List Value} {ws : va_W} {k n : Nat} (C : Zc p s m args meth c A D tys nL cc own Ts rt) {y : MethodName} {w : List Cond} {rm : Room} {As : List Value} {wc wr : va_W} {stk : List Value} {index maxL nn k' n' b : Nat} {host : String} {bytes : ByteArray} {Qo : va_W → Prop} (isC isR : List Nat)
    (hM : Cv l y w rm D tys (.ref b :: As) wc Qo) (cw : va_CN R s args own index y host bytes maxL none w rm rm.cells rm.slots nn ∧ y.name = "<init>" ∧ (Cond.instanceMethod y).before args s = true) (hnC : va_nd isC = true) (hC : isC.map (fun i => ws[i]?) = wc.map some) (hC' : isC.filterMap (fun i => ws[i]?) = wc) (hnR : va_nd isR = true) (hR : isR.map (fun i => ws[i]?) = wr.map some) (hdis : ∀ i ∈ isR, i ∉ isC)
    (hst : stk = As.reverse ++ .ref b :: st) (hn : As.length = nn) (hcat : (st.map fun v => v.category).sum ≤ 8) (hk' : k + rm.cells = k') (hn' : n + rm.slots = n') (hfit : k' ≤ R.cells ∧ n' ≤ R.slots) (hd : decode cc pc = .ok (.invokespecial index, 3))
    (kk : ∀ (u : va_W), Qo u → Zs p l e R s m args below meth c Q A D nL (pc + 3) lv st (wr ++ u) k' n') : Zs p l e R s m args below meth c Q A D nL pc lv stk ws k n := by
  intro H locs ls hP hD hS hl
  subst hst; subst hk'; subst hn'
  have hFc := va_free (wc := wc) hD hS C.2.2.1 isC hC
  refine va_callv (va_runIN (As := As) (rest := st) ⟨C.1.1, C.1.2.1, C.1.2.2.1, C.1.2.2.2⟩ (hM H.size) cw ⟨cPc_blind, cPc_at C hP hD hnC hC hC'⟩ rfl hn hl.1 rfl (lv_room hcat) hd hfit) hS (fun q _ h => hFc q h) hFc ?_
  rintro u t H1 locs1 ht hvm hz ⟨hP1, hK1, hD1⟩ hz1 hk1 hS1
  rw [ht] at hP1
  obtain ⟨hP2, hD2⟩ := va_join (wr := wr) (w1 := u) hP hD isC isR hC hR hnR hdis hk1 hFc hP1 hD1
  exact kk u hz H1 locs1 ls hP2 hD2 hS1 hl
abbrev rm_X0_init : Room := { frames := 6, cells := 0, slots := 0, locals := 100 }
set_option maxHeartbeats 4000000 in
set_option maxRecDepth 100000 in
theorem c_X0_init (l : Launch) (D : va_G) (cI cJ : ClassId) (a : Nat) (φ : Nat → Int) : Cv l yX0_init wsX0_init rm_X0_init D [(cI, .int), (cJ, .long)] [.ref a] (ww a φ) (fun u => u = ww a φ) := by
  refine z_ofvI (own := RX0) (cc := cX0_init) (maxL := 1) (lv := [(0, .ref a)]) (by decide) rfl rfl rfl (Nat.le_of_ble_eq_true rfl) rfl ?_
  intro p e s m args below meth cd Q A C hini hret
  refine z_aload_n C 0 dX0_init_0 rfl ?_
  refine z_objInit C (by decide +kernel) (by decide +kernel) (by decide +kernel) dX0_init_1 (Nat.le_of_ble_eq_true rfl) (Nat.le_of_ble_eq_true rfl) ?_
  exact hret _ _ _ dX0_init_4 rfl

set_option maxRecDepth 100000 in
theorem inU_X1_X1_init : ∀ w ∈ u_ws RX1 TX1 11, w ∈ wsX1_init := by decide +kernel
set_option maxRecDepth 100000 in
theorem inU_X0_X1_init : ∀ w ∈ u_ws RX0 TX0 9, w ∈ wsX1_init := by decide +kernel
abbrev rm_X1_init : Room := { frames := 7, cells := 8, slots := 599, locals := 120 }
set_option maxHeartbeats 4000000 in
set_option maxRecDepth 100000 in
theorem c_X1_init (l : Launch) (D : va_G) (cI cJ : ClassId) (a : Nat) : Cv l yX1_init wsX1_init rm_X1_init D [(cI, .int), (cJ, .long)] [.ref a] [(a, .inr (1, [.null, .null, .null, .null, .null, .null, .null, .null, .int 0, .int 0, .int 0]))] (fun u => ∃ h : Nat → Nat, h 0 = a ∧ u = cw cI h (fun _ _ => 0) (fun _ => 0) (fun _ _ => 0) (fun _ => 0)) := by
  refine z_ofvI (own := RX1) (cc := cX1_init) (maxL := 1) (lv := [(0, .ref a)]) (by decide) rfl rfl rfl (Nat.le_of_ble_eq_true rfl) rfl ?_
  intro p e s m args below meth cd Q A C hini hret
  refine z_aload_n C 0 dX1_init_0 rfl ?_
  refine z_objInit C (by decide +kernel) (by decide +kernel) (by decide +kernel) dX1_init_1 (Nat.le_of_ble_eq_true rfl) (Nat.le_of_ble_eq_true rfl) ?_
  refine z_aload_n C 0 dX1_init_4 rfl ?_
  refine z_sipush C dX1_init_5 (by decide) ?_
  refine z_newa C (cI := cI) 144 rfl (by decide) rfl (by decide +kernel) dX1_init_8 (Nat.le_of_ble_eq_true rfl) (Nat.le_of_ble_eq_true rfl) (fun q8 => ?_)
  refine z_ws (ws' := [(a, .inr (1, [.null, .null, .null, .null, .null, .null, .null, .null, .int 0, .int 0, .int 0])), (q8, ri cI 144 (fun _ => 0))]) rfl ?_
  refine z_putF C (ref := "ShadowWalls") (T := TX1) (N := 11) (ci := 1) (ty := .array .int) (ws' := [(a, .inr (1, [.ref q8, .null, .null, .null, .null, .null, .null, .null, .int 0, .int 0, .int 0])), (q8, ri cI 144 (fun _ => 0))]) 0 0 inU_X1_X1_init tyX1 tyX1_ok nmX1 rfl rfl (by decide) (by decide +kernel) (fun _ h9 => h9) rfl hini rfl (by decide +kernel) rfl rfl (Nat.le_of_ble_eq_true rfl) rfl dX1_init_10 ?_
  refine z_aload_n C 0 dX1_init_13 rfl ?_
  refine z_iconst C dX1_init_14 ?_
  refine z_newa C (cI := cI) 4 rfl (by decide) rfl (by decide +kernel) dX1_init_15 (Nat.le_of_ble_eq_true rfl) (Nat.le_of_ble_eq_true rfl) (fun q15 => ?_)
  refine z_ws (ws' := [(a, .inr (1, [.ref q8, .null, .null, .null, .null, .null, .null, .null, .int 0, .int 0, .int 0])), (q8, ri cI 144 (fun _ => 0)), (q15, ri cI 4 (fun _ => 0))]) rfl ?_
  refine z_putF C (ref := "ShadowWalls") (T := TX1) (N := 11) (ci := 1) (ty := .array .int) (ws' := [(a, .inr (1, [.ref q8, .ref q15, .null, .null, .null, .null, .null, .null, .int 0, .int 0, .int 0])), (q8, ri cI 144 (fun _ => 0)), (q15, ri cI 4 (fun _ => 0))]) 0 1 inU_X1_X1_init tyX1 tyX1_ok nmX1 rfl rfl (by decide) (by decide +kernel) (fun _ h9 => h9) rfl hini rfl (by decide +kernel) rfl rfl (Nat.le_of_ble_eq_true rfl) rfl dX1_init_17 ?_
  refine z_aload_n C 0 dX1_init_20 rfl ?_
  refine z_iconst C dX1_init_21 ?_
  refine z_newa C (cI := cI) 4 rfl (by decide) rfl (by decide +kernel) dX1_init_22 (Nat.le_of_ble_eq_true rfl) (Nat.le_of_ble_eq_true rfl) (fun q22 => ?_)
  refine z_ws (ws' := [(a, .inr (1, [.ref q8, .ref q15, .null, .null, .null, .null, .null, .null, .int 0, .int 0, .int 0])), (q8, ri cI 144 (fun _ => 0)), (q15, ri cI 4 (fun _ => 0)), (q22, ri cI 4 (fun _ => 0))]) rfl ?_
  refine z_putF C (ref := "ShadowWalls") (T := TX1) (N := 11) (ci := 1) (ty := .array .int) (ws' := [(a, .inr (1, [.ref q8, .ref q15, .ref q22, .null, .null, .null, .null, .null, .int 0, .int 0, .int 0])), (q8, ri cI 144 (fun _ => 0)), (q15, ri cI 4 (fun _ => 0)), (q22, ri cI 4 (fun _ => 0))]) 0 2 inU_X1_X1_init tyX1 tyX1_ok nmX1 rfl rfl (by decide) (by decide +kernel) (fun _ h9 => h9) rfl hini rfl (by decide +kernel) rfl rfl (Nat.le_of_ble_eq_true rfl) rfl dX1_init_24 ?_
  refine z_aload_n C 0 dX1_init_27 rfl ?_
  refine z_bipush C dX1_init_28 (by decide) ?_
  refine z_newa C (cI := cI) 6 rfl (by decide) rfl (by decide +kernel) dX1_init_30 (Nat.le_of_ble_eq_true rfl) (Nat.le_of_ble_eq_true rfl) (fun q30 => ?_)
  refine z_ws (ws' := [(a, .inr (1, [.ref q8, .ref q15, .ref q22, .null, .null, .null, .null, .null, .int 0, .int 0, .int 0])), (q8, ri cI 144 (fun _ => 0)), (q15, ri cI 4 (fun _ => 0)), (q22, ri cI 4 (fun _ => 0)), (q30, ri cI 6 (fun _ => 0))]) rfl ?_
  refine z_putF C (ref := "ShadowWalls") (T := TX1) (N := 11) (ci := 1) (ty := .array .int) (ws' := [(a, .inr (1, [.ref q8, .ref q15, .ref q22, .ref q30, .null, .null, .null, .null, .int 0, .int 0, .int 0])), (q8, ri cI 144 (fun _ => 0)), (q15, ri cI 4 (fun _ => 0)), (q22, ri cI 4 (fun _ => 0)), (q30, ri cI 6 (fun _ => 0))]) 0 3 inU_X1_X1_init tyX1 tyX1_ok nmX1 rfl rfl (by decide) (by decide +kernel) (fun _ h9 => h9) rfl hini rfl (by decide +kernel) rfl rfl (Nat.le_of_ble_eq_true rfl) rfl dX1_init_32 ?_
  refine z_aload_n C 0 dX1_init_35 rfl ?_
  refine z_sipush C dX1_init_36 (by decide) ?_
  refine z_newa C (cI := cI) 144 rfl (by decide) rfl (by decide +kernel) dX1_init_39 (Nat.le_of_ble_eq_true rfl) (Nat.le_of_ble_eq_true rfl) (fun q39 => ?_)
  refine z_ws (ws' := [(a, .inr (1, [.ref q8, .ref q15, .ref q22, .ref q30, .null, .null, .null, .null, .int 0, .int 0, .int 0])), (q8, ri cI 144 (fun _ => 0)), (q15, ri cI 4 (fun _ => 0)), (q22, ri cI 4 (fun _ => 0)), (q30, ri cI 6 (fun _ => 0)), (q39, ri cI 144 (fun _ => 0))]) rfl ?_
  refine z_putF C (ref := "ShadowWalls") (T := TX1) (N := 11) (ci := 1) (ty := .array .int) (ws' := [(a, .inr (1, [.ref q8, .ref q15, .ref q22, .ref q30, .ref q39, .null, .null, .null, .int 0, .int 0, .int 0])), (q8, ri cI 144 (fun _ => 0)), (q15, ri cI 4 (fun _ => 0)), (q22, ri cI 4 (fun _ => 0)), (q30, ri cI 6 (fun _ => 0)), (q39, ri cI 144 (fun _ => 0))]) 0 4 inU_X1_X1_init tyX1 tyX1_ok nmX1 rfl rfl (by decide) (by decide +kernel) (fun _ h9 => h9) rfl hini rfl (by decide +kernel) rfl rfl (Nat.le_of_ble_eq_true rfl) rfl dX1_init_41 ?_
  refine z_aload_n C 0 dX1_init_44 rfl ?_
  refine z_sipush C dX1_init_45 (by decide) ?_
  refine z_newa C (cI := cI) 144 rfl (by decide) rfl (by decide +kernel) dX1_init_48 (Nat.le_of_ble_eq_true rfl) (Nat.le_of_ble_eq_true rfl) (fun q48 => ?_)
  refine z_ws (ws' := [(a, .inr (1, [.ref q8, .ref q15, .ref q22, .ref q30, .ref q39, .null, .null, .null, .int 0, .int 0, .int 0])), (q8, ri cI 144 (fun _ => 0)), (q15, ri cI 4 (fun _ => 0)), (q22, ri cI 4 (fun _ => 0)), (q30, ri cI 6 (fun _ => 0)), (q39, ri cI 144 (fun _ => 0)), (q48, ri cI 144 (fun _ => 0))]) rfl ?_
  refine z_putF C (ref := "ShadowWalls") (T := TX1) (N := 11) (ci := 1) (ty := .array .int) (ws' := [(a, .inr (1, [.ref q8, .ref q15, .ref q22, .ref q30, .ref q39, .ref q48, .null, .null, .int 0, .int 0, .int 0])), (q8, ri cI 144 (fun _ => 0)), (q15, ri cI 4 (fun _ => 0)), (q22, ri cI 4 (fun _ => 0)), (q30, ri cI 6 (fun _ => 0)), (q39, ri cI 144 (fun _ => 0)), (q48, ri cI 144 (fun _ => 0))]) 0 5 inU_X1_X1_init tyX1 tyX1_ok nmX1 rfl rfl (by decide) (by decide +kernel) (fun _ h9 => h9) rfl hini rfl (by decide +kernel) rfl rfl (Nat.le_of_ble_eq_true rfl) rfl dX1_init_50 ?_
  refine z_aload_n C 0 dX1_init_53 rfl ?_
  refine z_sipush C dX1_init_54 (by decide) ?_
  refine z_newa C (cI := cI) 144 rfl (by decide) rfl (by decide +kernel) dX1_init_57 (Nat.le_of_ble_eq_true rfl) (Nat.le_of_ble_eq_true rfl) (fun q57 => ?_)
  refine z_ws (ws' := [(a, .inr (1, [.ref q8, .ref q15, .ref q22, .ref q30, .ref q39, .ref q48, .null, .null, .int 0, .int 0, .int 0])), (q8, ri cI 144 (fun _ => 0)), (q15, ri cI 4 (fun _ => 0)), (q22, ri cI 4 (fun _ => 0)), (q30, ri cI 6 (fun _ => 0)), (q39, ri cI 144 (fun _ => 0)), (q48, ri cI 144 (fun _ => 0)), (q57, ri cI 144 (fun _ => 0))]) rfl ?_
  refine z_putF C (ref := "ShadowWalls") (T := TX1) (N := 11) (ci := 1) (ty := .array .int) (ws' := [(a, .inr (1, [.ref q8, .ref q15, .ref q22, .ref q30, .ref q39, .ref q48, .ref q57, .null, .int 0, .int 0, .int 0])), (q8, ri cI 144 (fun _ => 0)), (q15, ri cI 4 (fun _ => 0)), (q22, ri cI 4 (fun _ => 0)), (q30, ri cI 6 (fun _ => 0)), (q39, ri cI 144 (fun _ => 0)), (q48, ri cI 144 (fun _ => 0)), (q57, ri cI 144 (fun _ => 0))]) 0 6 inU_X1_X1_init tyX1 tyX1_ok nmX1 rfl rfl (by decide) (by decide +kernel) (fun _ h9 => h9) rfl hini rfl (by decide +kernel) rfl rfl (Nat.le_of_ble_eq_true rfl) rfl dX1_init_59 ?_
  refine z_aload_n C 0 dX1_init_62 rfl ?_
  refine z_new C (Cn := RX0) (T := TX0) (N := 9) (ci := 0) (fs := [.int 0, .int 0, .int 0, .int 0, .int 0, .int 0, .int 0, .int 0, .int 0]) inU_X0_X1_init tyX0 tyX0_ok (by decide +kernel) (by decide +kernel) (by decide +kernel) rfl (fun j hj => by rcases (show j = 0 ∨ j = 1 ∨ j = 2 ∨ j = 3 ∨ j = 4 ∨ j = 5 ∨ j = 6 ∨ j = 7 ∨ j = 8 by omega) with rfl | rfl | rfl | rfl | rfl | rfl | rfl | rfl | rfl <;> rfl) dX1_init_63 (Nat.le_of_ble_eq_true rfl) (Nat.le_of_ble_eq_true rfl) (fun q63 => ?_)
  refine z_ws (ws' := [(a, .inr (1, [.ref q8, .ref q15, .ref q22, .ref q30, .ref q39, .ref q48, .ref q57, .null, .int 0, .int 0, .int 0])), (q8, ri cI 144 (fun _ => 0)), (q15, ri cI 4 (fun _ => 0)), (q22, ri cI 4 (fun _ => 0)), (q30, ri cI 6 (fun _ => 0)), (q39, ri cI 144 (fun _ => 0)), (q48, ri cI 144 (fun _ => 0)), (q57, ri cI 144 (fun _ => 0)), (q63, wayE (fun _ => 0))]) rfl ?_
  refine z_dup C dX1_init_66 rfl ?_
  refine z_callIN C (host := RX1) (y := yX0_init) (w := wsX0_init) (rm := rm_X0_init) (wr := [(a, .inr (1, [.ref q8, .ref q15, .ref q22, .ref q30, .ref q39, .ref q48, .ref q57, .null, .int 0, .int 0, .int 0])), (q8, ri cI 144 (fun _ => 0)), (q15, ri cI 4 (fun _ => 0)), (q22, ri cI 4 (fun _ => 0)), (q30, ri cI 6 (fun _ => 0)), (q39, ri cI 144 (fun _ => 0)), (q48, ri cI 144 (fun _ => 0)), (q57, ri cI 144 (fun _ => 0))]) (As := []) (st := [.ref q63, .ref a]) (k' := 8) (n' := 599) [8] [0, 1, 2, 3, 4, 5, 6, 7] (c_X0_init l D cI cJ q63 (fun _ => 0)) ⟨va_cnB 0 C.1.2.2.2.2 gX1_init_X0_init_n33 rfl rfl rfl (C.2.2.2.2.2 _ (by decide +kernel)) (C.1.2.2.2.2 _ (by decide +kernel)) (by decide +kernel) ⟨Nat.le_of_ble_eq_true rfl, Nat.le_of_ble_eq_true rfl⟩, rfl, C.1.2.2.2.2 _ (by decide +kernel)⟩ rfl rfl rfl rfl rfl (by decide) rfl rfl (Nat.le_of_ble_eq_true rfl) rfl rfl ⟨Nat.le_of_ble_eq_true rfl, Nat.le_of_ble_eq_true rfl⟩ dX1_init_67 ?_
  rintro _ rfl
  refine z_ws (ws' := [(a, .inr (1, [.ref q8, .ref q15, .ref q22, .ref q30, .ref q39, .ref q48, .ref q57, .null, .int 0, .int 0, .int 0])), (q8, ri cI 144 (fun _ => 0)), (q15, ri cI 4 (fun _ => 0)), (q22, ri cI 4 (fun _ => 0)), (q30, ri cI 6 (fun _ => 0)), (q39, ri cI 144 (fun _ => 0)), (q48, ri cI 144 (fun _ => 0)), (q57, ri cI 144 (fun _ => 0)), (q63, wayE (fun _ => 0))]) rfl ?_
  refine z_putF C (ref := "ShadowWalls") (T := TX1) (N := 11) (ci := 1) (ty := .object "ShadowWalls$Way") (ws' := [(a, .inr (1, [.ref q8, .ref q15, .ref q22, .ref q30, .ref q39, .ref q48, .ref q57, .ref q63, .int 0, .int 0, .int 0])), (q8, ri cI 144 (fun _ => 0)), (q15, ri cI 4 (fun _ => 0)), (q22, ri cI 4 (fun _ => 0)), (q30, ri cI 6 (fun _ => 0)), (q39, ri cI 144 (fun _ => 0)), (q48, ri cI 144 (fun _ => 0)), (q57, ri cI 144 (fun _ => 0)), (q63, wayE (fun _ => 0))]) 0 7 inU_X1_X1_init tyX1 tyX1_ok nmX1 rfl rfl (by decide) (by decide +kernel) (fun _ h9 => h9) rfl hini rfl (by decide +kernel) rfl rfl (Nat.le_of_ble_eq_true rfl) rfl dX1_init_70 ?_
  exact hret _ _ _ dX1_init_73 ⟨fun i => match i with | 0 => a | 1 => q8 | 2 => q15 | 3 => q22 | 4 => q30 | 5 => q39 | 6 => q48 | 7 => q57 | _ => q63, rfl, rfl⟩

abbrev rm_X1_mean : Room := { frames := 3, cells := 0, slots := 0, locals := 72 }
set_option maxHeartbeats 4000000 in
set_option maxRecDepth 100000 in
theorem c_X1_mean (l : Launch) (D : va_G) (cI cJ : ClassId) (h : Nat → Nat) (σ : YS) (LT : Nat → Int) (γ : YS) (φ : Nat → Int) (hO : Ok σ) (hL : LR LT) : Cd l yX1_mean wsX1_mean rm_X1_mean D [(cI, .int), (cJ, .long)] [.ref (h 0)] (cw cI h σ LT γ φ) (fun r u => u = cw cI h σ LT γ φ ∧ (litC LT = 0 → r = FP.dconst0) ∧ (litC LT ≠ 0 → alike64 r (meanV σ LT) = true)) := by
  refine z_ofd (own := RX1) (cc := cX1_mean) (maxL := 2) (lv := [(0, .ref (h 0))]) (by decide) rfl rfl (Nat.le_of_ble_eq_true rfl) rfl ?_
  intro p e s m args below meth cd Q A C0 hret
  have C := C0.drawn s.drawn
  have hd0 := Drawn.sameBut.refl s.drawn lw_cs
  refine z_aload_n C 0 dX1_mean_0 rfl ?_
  refine z_callVi C (As := []) (st := []) (y := yX1_litCells) (w := wsX1_litCells) (rm := rm_X1_litCells) (wr := []) (k' := 0) (n' := 0) [0, 1, 2, 3, 4, 5, 6, 7, 8] [] 0 (c_X1_litCells l D cI cJ h σ LT γ φ hL) (cwV 0 C.1.2.2.2.2 gX1_mean_X1_litCells rfl rfl rfl (by decide +kernel) ⟨Nat.le_of_ble_eq_true rfl, Nat.le_of_ble_eq_true rfl⟩) rfl rfl rfl rfl rfl (by decide) rfl rfl rfl rfl (Nat.le_of_ble_eq_true rfl) rfl rfl ⟨Nat.le_of_ble_eq_true rfl, Nat.le_of_ble_eq_true rfl⟩ dX1_mean_1 ?_
  rintro z_1 _ ⟨rfl, hz_1⟩
  refine z_ws (ws' := (cw cI h σ LT γ φ)) rfl ?_
  have r_1 := litC_r LT
  have e_1 : z_1 = litC LT := hz_1
  refine z_istore_n C [(1, vI z_1), (0, .ref (h 0))] dX1_mean_4 (by decide) rfl ?_
  refine z_iload_n C 0 dX1_mean_5 rfl ?_
  refine z_if_ne C (tgt := 11) dX1_mean_6 (by decide) (by omega) (fun c_6 => ?_) (fun c_6 => ?_)
  · refine z_aload_n C 1 dX1_mean_11 rfl ?_
    refine z_callVi C (As := []) (st := []) (y := yX1_brightnessOfAll) (w := wsX1_brightnessOfAll) (rm := rm_X1_brightnessOfAll) (wr := []) (k' := 0) (n' := 0) [0, 1, 2, 3, 4, 5, 6, 7, 8] [] 0 (c_X1_brightnessOfAll l D cI cJ h σ LT γ φ hO hL) (cwV 0 C.1.2.2.2.2 gX1_mean_X1_brightnessOfAll rfl rfl rfl (by decide +kernel) ⟨Nat.le_of_ble_eq_true rfl, Nat.le_of_ble_eq_true rfl⟩) rfl rfl rfl rfl rfl (by decide) rfl rfl rfl rfl (Nat.le_of_ble_eq_true rfl) rfl rfl ⟨Nat.le_of_ble_eq_true rfl, Nat.le_of_ble_eq_true rfl⟩ dX1_mean_12 ?_
    rintro z_12 _ ⟨rfl, hz_12⟩
    refine z_ws (ws' := (cw cI h σ LT γ φ)) rfl ?_
    refine z_i2d C dX1_mean_15 ?_
    refine z_iload_n C 0 dX1_mean_16 rfl ?_
    refine z_i2d C dX1_mean_17 ?_
    refine z_ddiv hd0 C0.1.1 C0.1.2.1 dX1_mean_18 (fun r d1 hal hd1 => ?_)
    exact hret _ _ _ _ _ hd1 dX1_mean_19 ⟨rfl, fun q => absurd (e_1.trans q) c_6, fun _ => by rw [hz_12, e_1] at hal; exact hal⟩
  · refine z_dconst0 C dX1_mean_9 ?_
    exact hret _ _ _ _ _ hd0 dX1_mean_10 ⟨rfl, fun _ => rfl, fun q => absurd (e_1.symm.trans c_6) q⟩
