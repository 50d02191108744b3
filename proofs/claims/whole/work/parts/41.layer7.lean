/-! the law's own methods: they call, catch, and tell by a number what came -/
abbrev lo (cJ : ClassId) (f : Nat → Int64) : va_E := .inl (cJ, 1, .inr (.inl f))
def WX (U : State) : Prop := (∀ E ∈ [xIO, xIA, xIS], va_Nw (Cond.castable E E) U) ∧ ∀ E ∈ [xIO, xIA, xIS], ∀ F ∈ [xIO, xIA, xIS], E ≠ F → va_Nc E F U
theorem WX.warm {s U : State} (hW : s.WarmedH U.vm) (h : WX s) : WX U := ⟨fun E hE => isCD_warm rfl hW (h.1 E hE), fun E hE F hF hn => va_Nc.moved hW.alike (h.2 E hE F hF hn)⟩
theorem WX.same {u U : State} (hv : u.vm = U.vm) (h : WX u) : WX U := ⟨fun E hE => va_Nw.same (isCD_on rfl) hv (h.1 E hE), fun E hE F hF hn => va_Nc.moved (hv ▸ Vm.Alike.refl _) (h.2 E hE F hF hn)⟩
abbrev wPc (D : va_G) (tys : List (ClassId × FieldType)) (As : List Value) (wc : va_W) (sz : Nat) : Array Value → State → Prop := va_Pc As (fun U => (U.heap.size = sz ∧ va_P D vwCl wc U.heap ∧ va_K D vwCl tys U ∧ va_D (fun _ => True) wc ∧ NWs U) ∧ XEs U ∧ XZ (va_A wc sz) U U.heap ∧ WX U)
def Cw (l : Launch) (y : MethodName) (w : List Cond) (rm : Room) (D : va_G) (tys : List (ClassId × FieldType)) (As : List Value) (wc : va_W) (Qo : Int → va_W → Prop) : Prop :=
  l.stackTraces = false → ∀ sz : Nat, Met l y w rm (wPc D tys As wc sz) (va_Qi (fun r u => ∃ z : Int, r = iI z ∧ Qo z u) (cB D tys wc sz) (va_A wc sz)) rm.cells rm.slots (va_A wc sz)
theorem wPc_blind {D : va_G} {tys : List (ClassId × FieldType)} {As : List Value} {wc : va_W} {sz : Nat} : FrameBlind (wPc D tys As wc sz) := fun a U g mk q => by
  obtain ⟨q0, ⟨q1, q2, q3, q4, q5⟩, q6, q7, q8⟩ := q
  exact ⟨q0, ⟨q1, q2, va_K.moved (u := U) (U := U.calling g mk a) (Vm.Alike.refl U.vm) q3, q4, NWs.same (u := U) (U := U.calling g mk a) rfl q5⟩, XEs.same (u := U) (U := U.calling g mk a) rfl q6, ⟨vx_Zq.moved (u := U) (U := U.calling g mk a) (Vm.Alike.refl U.vm) q7.1, vx_Zq.moved (u := U) (U := U.calling g mk a) (Vm.Alike.refl U.vm) q7.2⟩, WX.same (u := U) (U := U.calling g mk a) rfl q8⟩
section ZL7
variable {p : Program} {l : Launch} {e : Env} {R : Room} {s : State} {m : MethodId} {args : Array Value} {below : List Frame} {meth : Method} {c : Code} {Q : State → Prop} {A : Nat → Prop} {D : va_G} {tys : List (ClassId × FieldType)} {nL : Nat} {cc : ByteArray} {own : String} {Ts : List Cond} {rt : Option FieldType}
variable {pc : Nat} {lv lv' : List (Nat × Value)} {st : List Value} {ws : va_W} {k n : Nat}
theorem z_last (C : Zc p s m args meth c A D tys nL cc own Ts rt) {a : Nat} {cJ : ClassId} {f : Nat → Int64} {x : Int64} (q0 t0 : Nat) (ha : ws[q0]? = some (a, lo cJ f)) (ht : tys[t0]? = some (cJ, .long)) (hd : decode cc pc = .ok (.lastore, 1))
    (h : ∀ f' : Nat → Int64, f' 0 = x → Zs p l e R s m args below meth c Q A D nL (pc + 1) lv st (ws.set q0 (a, lo cJ f')) k n) : Zs p l e R s m args below meth c Q A D nL pc lv (.long x :: vI 0 :: .ref a :: st) ws k n := by
  intro H locs ls hP hD hS hl
  refine va_last C.1.1 C.1.2.1 C.2.1 hP hD hS q0 t0 ha ht ?_ hd (fun H locs hP hD hS => ?_)
  · have := iI_in (a := 0) (N := 1) (by decide) (by decide); exact this
  · exact h _ (by rfl) H locs ls hP hD hS hl
theorem z_lald (C : Zc p s m args meth c A D tys nL cc own Ts rt) {a : Nat} {cJ : ClassId} {f : Nat → Int64} (q0 t0 : Nat) (ha : ws[q0]? = some (a, lo cJ f)) (ht : tys[t0]? = some (cJ, .long)) (hd : decode cc pc = .ok (.laload, 1))
    (h : Zs p l e R s m args below meth c Q A D nL (pc + 1) lv (.long (f 0) :: st) ws k n) : Zs p l e R s m args below meth c Q A D nL pc lv (vI 0 :: .ref a :: st) ws k n := by
  intro H locs ls hP hD hS hl
  refine va_lald C.1.1 C.1.2.1 C.2.1 hP q0 t0 ha ht ?_ hd ?_
  · have := iI_in (a := 0) (N := 1) (by decide) (by decide); exact this
  · exact h H locs ls hP hD hS hl
theorem z_catch (C : Zc p s m args meth c A D tys nL cc own Ts rt) {E : String} (hc : va_Nw (Cond.castable E E) s) (pre : List ExceptionTableEntry) (x : ExceptionTableEntry) (suf : List ExceptionTableEntry) (htab : c.exceptionTable.toList = pre ++ x :: suf)
    (hpass : ∀ z ∈ pre, covers z pc = false ∨ (z.catchType ≠ 0 ∧ ∃ nm : String, (Cond.classLink own z.catchType nm).before args s = true ∧ va_Nc E nm s)) (hx : covers x pc = true) (h0 : x.catchType ≠ 0) (hlink : Cond.classLink own x.catchType E ∈ Ts)
    (h : ∀ q : Nat, Zs p l e R s m args below meth c Q A D nL x.handlerPc lv [.ref q] ws k n) : Zo p l e R s m args below meth c Q A D nL pc lv E ws k n :=
  fun H locs ls st q ce hP hD hS hl hce hcv hcl => vx_catch C.1.2.2.2.1 pre x suf htab hpass hx h0 (C.1.2.2.2.2 _ hlink) (va_Nw.use (isCD_on rfl) hc) hce hcv hcl (h q H locs ls hP hD hS hl)
theorem w_of {y : MethodName} {w w' : List Cond} {rm : Room} {As : List Value} {wc : va_W} {maxL : Nat} {hh : List (Nat × Nat × Nat × Nat)} {Qo : Int → va_W → Prop} (hy : plainName y.cls = true) (hw : w = Cond.codeWith y cc maxL (some .int) hh :: w') (hown : y.cls = own) (hlen : (lg_sl As).length ≤ maxL) (hlv : lv_args 0 As = lv)
    (body : ∀ (p : Program) (e : Env) (s : State) (m : MethodId) (args : Array Value) (below : List Frame) (meth : Method) (c : Code) (Q : State → Prop) (A : Nat → Prop), Zc p s m args meth c A D tys maxL cc own w (some .int) → ZX l s A → WX s → c.exceptionTable.toList = tableOf hh → (∀ (pc : Nat) (lv : List (Nat × Value)) (z : Int) (ws : va_W), decode cc pc = .ok (.ireturn, 1) → Qo z ws → Zs p l e rm s m args below meth c Q A D maxL pc lv [vI z] ws rm.cells rm.slots) → Zs p l e rm s m args below meth c Q A D maxL 0 lv [] wc 0 0) : Cw l y w rm D tys As wc Qo := by
  intro htr sz
  refine MetFree.of_bodyS (code := cc) (maxLocals := maxL) (ret := some .int) hy ?_ ?_
  · intro args s m h hn
    obtain ⟨m9, meth, c, hn9, h1, h2, h3, h4, -, h5, h6, -⟩ := Cond.codeWith_spec (atoms_spec (ws := w) h _ (by rw [hw]; exact List.mem_cons_self))
    cases hn.symm.trans hn9
    exact ⟨meth, c, h1, h2, h3, h4, h5, h6⟩
  · intro p e s m args below meth c s₁ B hml hv _
    have hh0 : s₁.heap = s.heap := by rw [B.state]; rfl
    obtain ⟨rfl, ⟨hsz, hP, hK, hD0, hNW⟩, hXE, hXZ, hWX⟩ := hv
    subst hsz
    subst hlv
    have hown' : s.vm.findClass own = some m.cls := hown ▸ findClass_of_methodNamed B.named
    have hws := atoms_spec (ws := w) B.pre
    have htab := vx_table (x := y) B (hws _ (by rw [hw]; exact List.mem_cons_self))
    have C0 : Zc p s m As.toArray meth c (va_A wc s.heap.size) D tys maxL cc own w (some .int) := ⟨⟨B.exec, B.bytes, hml, hown', hws⟩, hK, fun q h => Or.inr h, B.notSynchronized, B.returns, hNW⟩
    have key := body p e s m As.toArray below meth c _ _ C0 ⟨htr, hXE, hXZ⟩ hWX htab (fun pc lv z ws hd hq => z_iret C0 hd rfl hq) s.heap [] _ hP (hD0.self) va_S.rf (lv_entry As hlen)
    rw [← lg_entry_eq] at key
    obtain ⟨t, a1, o, b1, b2, b3⟩ := key s₁ hh0 (Stand.of_body B)
    exact ⟨t, o, a1, b1, b2, ⟨b3.1, b3.2⟩⟩
theorem wPc_at (C : Zc p s m args meth c A D tys nL cc own Ts rt) (hX : ZX l s A) (hW9 : WX s) {H : Heap} {locs : List Loc} {isC : List Nat} {wc : va_W} {As : List Value} (hP : va_P D vwCl ws H) (hD : va_D A ws) (hS : va_S A s.heap H locs) (hFc : ∀ q, va_A wc H.size q → A q) (hnC : va_nd isC = true) (hC : isC.map (fun i => ws[i]?) = wc.map some) (hC' : isC.filterMap (fun i => ws[i]?) = wc) : ∀ U : State, U.heap = H → s.WarmedH U.vm → wPc D tys As wc H.size As.toArray U := fun U hU hW =>
  ⟨rfl, ⟨by rw [hU], by rw [hU]; exact hP.sub isC hC', va_K.moved hW.alike C.2.1, (hD.sub isC hnC hC).weaken (fun _ _ _ _ => trivial), C.2.2.2.2.2.warm hW⟩, hX.2.1.warm hW, hX.2.2.at hS.2.1 hFc hW.alike hU, hW9.warm hW⟩
/-- the law calls one of them -/
theorem z_callW (C : Zc p s m args meth c A D tys nL cc own Ts rt) (hX : ZX l s A) (hW9 : WX s) {y : MethodName} {w : List Cond} {rm : Room} {As : List Value} {wc wr : va_W} {stk : List Value} {index maxL nn : Nat} {bytes : ByteArray} {hh : List (Nat × Nat × Nat × Nat)} {Qo : Int → va_W → Prop} (isC isR : List Nat) {k' n' : Nat} (hM : Cw l y w rm D tys As wc Qo) (cw : vx_CSW R s args own index y bytes maxL (some .int) hh w rm rm.cells rm.slots nn) (hnC : va_nd isC = true) (hC : isC.map (fun i => ws[i]?) = wc.map some) (hC' : isC.filterMap (fun i => ws[i]?) = wc) (hnR : va_nd isR = true) (hR : isR.map (fun i => ws[i]?) = wr.map some) (hdis : ∀ i ∈ isR, i ∉ isC) (hst : stk = As.reverse ++ st) (hn : As.length = nn) (hcat : (st.map fun v => v.category).sum ≤ 8) (hk' : k + rm.cells = k') (hn' : n + rm.slots = n') (hfit : k' ≤ R.cells ∧ n' ≤ R.slots) (hd : decode cc pc = .ok (.invokestatic index, 3)) (kk : ∀ (z : Int) (u : va_W), Qo z u → Zs p l e R s m args below meth c Q A D nL (pc + 3) lv (vI z :: st) (wr ++ u) k' n') : Zs p l e R s m args below meth c Q A D nL pc lv stk ws k n := by
  intro H locs ls hP hD hS hl
  subst hst
  subst hk'
  subst hn'
  have hFc := va_free (wc := wc) hD hS C.2.2.1 isC hC
  refine va_calli (vx_runSW (As := As) (rest := st) ⟨C.1.1, C.1.2.1, C.1.2.2.1, C.1.2.2.2⟩ (hM hX.1 H.size) cw ⟨wPc_blind, wPc_at C hX hW9 hP hD hS hFc hnC hC hC'⟩ rfl hn hl.1 rfl (lv_room hcat) hd hfit) hS (fun q _ h => hFc q h) hFc ?_
  rintro r u t H1 locs1 ht hvm ⟨z, rfl, hz⟩ ⟨hP1, hK1, hD1⟩ hz1 hk1 hS1
  rw [ht] at hP1
  obtain ⟨hP2, hD2⟩ := va_join (wr := wr) (w1 := u) hP hD isC isR hC hR hnR hdis hk1 hFc hP1 hD1
  exact kk z u hz H1 locs1 ls hP2 hD2 hS1 hl
end ZL7
