/-! methods that throw: what they need of the start beside their words, and their contracts -/
abbrev xIO : String := "java/lang/IndexOutOfBoundsException"
abbrev xIA : String := "java/lang/IllegalArgumentException"
abbrev xIS : String := "java/lang/IllegalStateException"
abbrev xNm : List String := ["java/lang/RuntimeException", "java/lang/Exception"]
def strW : List (Nat × String) := [(69, "there are 4 lamps"), (78, "a lamp is there"), (102, "there are 6 watchers"), (104, "the cell is not open"), (112, "it cannot creep there"), (223, "x or y is not 0 to 11"), (226, "a cell is not 0 to 143"), (230, "kind is not 0 to 3"), (233, "reach is not 1 to 12"), (235, "what is not told"), (237, "there is no such lamp"), (239, "there is no such watcher")]
/-- the words of the throws that are no good words -/
def oW : List Cond := (vx_atS RX1 225 xIO xNm).filter (fun w => !goodWord w) ++ ((vx_atS RX1 232 xIA xNm).filter (fun w => !goodWord w) ++ (vx_atS RX1 71 xIS xNm).filter (fun w => !goodWord w))
def isCD : Cond → Bool
  | .castable .. => true
  | .declares _ => true
  | _ => false
theorem oW_cd : ∀ w ∈ oW, isCD w = true := by decide +kernel
theorem isCD_on {w : Cond} (h : isCD w = true) : w.onTables = true := by
  cases w <;> first | rfl | (simp [isCD] at h)
theorem isCD_warm {w : Cond} {s U : State} (h : isCD w = true) (hW : s.WarmedH U.vm) (hw : va_Nw w s) : va_Nw w U := by
  cases w <;> first | (simp [isCD] at h; done) | exact va_Nw.warmC hW hw | exact va_Nw.warmD hW hw
def XEs (U : State) : Prop := (∀ q ∈ strW, ∃ a : Nat, vk_R RX1 q.1 q.2 a U) ∧ ∀ w ∈ oW, va_Nw w U
theorem XEs.warm {s U : State} (hW : s.WarmedH U.vm) (h : XEs s) : XEs U := ⟨fun q hq => by
  obtain ⟨a, ha⟩ := h.1 q hq
  exact ⟨a, vk_R.warm hW ha⟩, fun w hw => isCD_warm (oW_cd w hw) hW (h.2 w hw)⟩
theorem XEs.same {u U : State} (hv : u.vm = U.vm) (h : XEs u) : XEs U := ⟨fun q hq => by
  obtain ⟨a, ha⟩ := h.1 q hq
  exact ⟨a, vk_R.same hv.symm ha⟩, fun w hw => va_Nw.same (isCD_on (oW_cd w hw)) hv (h.2 w hw)⟩
abbrev XZ (A : Nat → Prop) (U : State) (H : Heap) : Prop := vx_Zq Bundle.tN "UNASSIGNED_STACK" Bundle.steD A U H ∧ vx_Zq Bundle.tN "SUPPRESSED_SENTINEL" Bundle.listD A U H
theorem XZ.at {A B : Nat → Prop} {s U : State} {H : Heap} (h : XZ A s s.heap) (hk : ∀ q : Nat, q < s.heap.size → ¬ A q → H[q]? = s.heap[q]?) (hAB : ∀ q, B q → A q) (hv : s.vm.Alike U.vm) (hU : U.heap = H) : XZ B U U.heap := by
  rw [hU]
  exact ⟨vx_Zq.moved hv ((h.1.kept hk).narrow hAB), vx_Zq.moved hv ((h.2.kept hk).narrow hAB)⟩
def ZX (l : Launch) (s : State) (A : Nat → Prop) : Prop := l.stackTraces = false ∧ XEs s ∧ XZ A s s.heap
abbrev xPc (D : va_G) (tys : List (ClassId × FieldType)) (As : List Value) (wc : va_W) (sz : Nat) : Array Value → State → Prop := va_Pc As (fun U => (U.heap.size = sz ∧ va_P D vwCl wc U.heap ∧ va_K D vwCl tys U ∧ va_D (fun _ => True) wc ∧ NWs U) ∧ XEs U ∧ XZ (va_A wc sz) U U.heap)
abbrev xB (D : va_G) (tys : List (ClassId × FieldType)) (wc : va_W) (sz : Nat) (E : String) (Xo : va_W → Prop) : String → va_W → State → Prop := fun E' u t => (E' = E ∧ Xo u) ∧ cB D tys wc sz u t
/-- it throws E, always; the world behind it -/
def Xt (l : Launch) (y : MethodName) (w : List Cond) (rm : Room) (D : va_G) (tys : List (ClassId × FieldType)) (As : List Value) (wc : va_W) (E : String) (Xo : va_W → Prop) : Prop :=
  l.stackTraces = false → ∀ sz : Nat, vx_Met l y w rm (xPc D tys As wc sz) (va_Qv (fun _ : va_W => False) (cB D tys wc sz) (va_A wc sz)) (vx_X (fun _ : va_W => True) (xB D tys wc sz E Xo) (va_A wc sz)) rm.cells rm.slots (va_A wc sz)
theorem xPc_blind {D : va_G} {tys : List (ClassId × FieldType)} {As : List Value} {wc : va_W} {sz : Nat} : FrameBlind (xPc D tys As wc sz) := fun a U g mk q => by
  obtain ⟨q0, ⟨q1, q2, q3, q4, q5⟩, q6, q7⟩ := q
  exact ⟨q0, ⟨q1, q2, va_K.moved (u := U) (U := U.calling g mk a) (Vm.Alike.refl U.vm) q3, q4, NWs.same (u := U) (U := U.calling g mk a) rfl q5⟩, XEs.same (u := U) (U := U.calling g mk a) rfl q6, vx_Zq.moved (u := U) (U := U.calling g mk a) (Vm.Alike.refl U.vm) q7.1, vx_Zq.moved (u := U) (U := U.calling g mk a) (Vm.Alike.refl U.vm) q7.2⟩
section XL
variable {p : Program} {l : Launch} {e : Env} {R : Room} {s : State} {m : MethodId} {args : Array Value} {below : List Frame} {meth : Method} {c : Code} {Q : State → Prop} {A : Nat → Prop} {D : va_G} {tys : List (ClassId × FieldType)} {nL : Nat} {cc : ByteArray} {own : String} {Ts : List Cond} {rt : Option FieldType}
variable {pc : Nat} {lv lv' : List (Nat × Value)} {st : List Value} {ws : va_W} {k n : Nat}
/-- with an exception of class E thrown in the world ws -/
def Zo (p : Program) (l : Launch) (e : Env) (R : Room) (s : State) (m : MethodId) (args : Array Value) (below : List Frame) (meth : Method) (c : Code) (Q : State → Prop) (A : Nat → Prop) (D : va_G) (nL : Nat) (pc : Nat) (lv : List (Nat × Value)) (E : String) (ws : va_W) (k n : Nat) : Prop :=
  ∀ (H : Heap) (locs : List Loc) (ls : Array Slot) (st : List Value) (q : Addr) (ce : Cell), va_P D vwCl ws H → va_D A ws → va_S A s.heap H locs → lv_has ls nL lv → H[q]? = some ce → ce.vm = .none → s.vm.findClass E = some ce.cls → vx_W p l e R s m args below meth c H locs k n Q (F0 m pc ls st) q
theorem xPc_at (C : Zc p s m args meth c A D tys nL cc own Ts rt) (hX : ZX l s A) {H : Heap} {locs : List Loc} {isC : List Nat} {wc : va_W} {As : List Value} (hP : va_P D vwCl ws H) (hD : va_D A ws) (hS : va_S A s.heap H locs) (hFc : ∀ q, va_A wc H.size q → A q) (hnC : va_nd isC = true) (hC : isC.map (fun i => ws[i]?) = wc.map some) (hC' : isC.filterMap (fun i => ws[i]?) = wc) : ∀ U : State, U.heap = H → s.WarmedH U.vm → xPc D tys As wc H.size As.toArray U := fun U hU hW =>
  ⟨rfl, ⟨by rw [hU], by rw [hU]; exact hP.sub isC hC', va_K.moved hW.alike C.2.1, (hD.sub isC hnC hC).weaken (fun _ _ _ _ => trivial), C.2.2.2.2.2.warm hW⟩, hX.2.1.warm hW, hX.2.2.at hS.2.1 hFc hW.alike hU⟩
theorem x_callS (C : Zc p s m args meth c A D tys nL cc own Ts rt) (hX : ZX l s A) {y : MethodName} {w : List Cond} {rm : Room} {As : List Value} {wc wr : va_W} {stk : List Value} {index maxL nn k' n' : Nat} {bytes : ByteArray} {ret : Option FieldType} {E : String} {Xo : va_W → Prop} (isC isR : List Nat)
    (hM : Xt l y w rm D tys As wc E Xo) (cw : CallB R s args own index y bytes maxL ret w rm rm.cells rm.slots nn ∧ (Cond.static y).before args s = true)
    (hnC : va_nd isC = true) (hC : isC.map (fun i => ws[i]?) = wc.map some) (hC' : isC.filterMap (fun i => ws[i]?) = wc) (hnR : va_nd isR = true) (hR : isR.map (fun i => ws[i]?) = wr.map some) (hdis : ∀ i ∈ isR, i ∉ isC)
    (hst : stk = As.reverse ++ st) (hn : As.length = nn) (hcat : (st.map fun v => v.category).sum ≤ 8) (hk' : k + rm.cells = k') (hn' : n + rm.slots = n') (hfit : k' ≤ R.cells ∧ n' ≤ R.slots) (hd : decode cc pc = .ok (.invokestatic index, 3))
    (kx : ∀ u, Xo u → Zo p l e R s m args below meth c Q A D nL pc lv E (wr ++ u) k' n') : Zs p l e R s m args below meth c Q A D nL pc lv stk ws k n := by
  intro H locs ls hP hD hS hl
  subst hst; subst hk'; subst hn'
  have hFc := va_free (wc := wc) hD hS C.2.2.1 isC hC
  refine vx_callv (vx_runS (As := As) (rest := st) ⟨C.1.1, C.1.2.1, C.1.2.2.1, C.1.2.2.2⟩ (hM hX.1 H.size) cw ⟨xPc_blind, xPc_at C hX hP hD hS hFc hnC hC hC'⟩ rfl hn hl.1 rfl (lv_room hcat) hd hfit) hS (fun q _ h => hFc q h) hFc (fun q _ h => hFc q h) ?_ (fun u t H1 locs1 _ _ hf => absurd hf id)
  rintro E' ce q9 u t H1 locs1 ht hvm - ⟨⟨rfl, hx⟩, hP1, hK1, hD1⟩ hz1 hk1 hS1 hce hcv hcl
  rw [ht] at hP1
  obtain ⟨hP2, hD2⟩ := va_join (wr := wr) (w1 := u) hP hD isC isR hC hR hnR hdis hk1 hFc hP1 hD1
  exact kx u hx H1 locs1 ls _ q9 ce hP2 hD2 hS1 hl hce hcv hcl
theorem x_callV (C : Zc p s m args meth c A D tys nL cc own Ts rt) (hX : ZX l s A) {y : MethodName} {w : List Cond} {rm : Room} {As : List Value} {wc wr : va_W} {stk : List Value} {index maxL nn k' n' : Nat} {bytes : ByteArray} {ret : Option FieldType} {E : String} {Xo : va_W → Prop} (isC isR : List Nat) {b : Nat} {Cn : String} {ci : Nat} {T : u_T} {N : Nat} {fs : List Value} (q0 : Nat)
    (hM : Xt l y w rm D tys (.ref b :: As) wc E Xo) (cw : CallW R s args own Cn index y bytes maxL ret w rm rm.cells rm.slots nn)
    (hnC : va_nd isC = true) (hC : isC.map (fun i => ws[i]?) = wc.map some) (hC' : isC.filterMap (fun i => ws[i]?) = wc) (hnR : va_nd isR = true) (hR : isR.map (fun i => ws[i]?) = wr.map some) (hdis : ∀ i ∈ isR, i ∉ isC)
    (he : ws[q0]? = some (b, .inr (ci, fs))) (hc : vwCl[ci]? = some (Cn, T, N)) (hst : stk = As.reverse ++ .ref b :: st) (hn : As.length = nn) (hcat : (st.map fun v => v.category).sum ≤ 8) (hk' : k + rm.cells = k') (hn' : n + rm.slots = n') (hfit : k' ≤ R.cells ∧ n' ≤ R.slots) (hd : decode cc pc = .ok (.invokevirtual index, 3))
    (kx : ∀ u, Xo u → Zo p l e R s m args below meth c Q A D nL pc lv E (wr ++ u) k' n') : Zs p l e R s m args below meth c Q A D nL pc lv stk ws k n := by
  intro H locs ls hP hD hS hl
  subst hst; subst hk'; subst hn'
  have hFc := va_free (wc := wc) hD hS C.2.2.1 isC hC
  refine vx_callv (vx_runV (As := As) (rest := st) ⟨C.1.1, C.1.2.1, C.1.2.2.1, C.1.2.2.2⟩ (hM hX.1 H.size) cw ⟨xPc_blind, va_recv C.2.1 hP hc he, xPc_at C hX hP hD hS hFc hnC hC hC'⟩ rfl hn hl.1 rfl (lv_room hcat) hd hfit) hS (fun q _ h => hFc q h) hFc (fun q _ h => hFc q h) ?_ (fun u t H1 locs1 _ _ hf => absurd hf id)
  rintro E' ce q9 u t H1 locs1 ht hvm - ⟨⟨rfl, hx⟩, hP1, hK1, hD1⟩ hz1 hk1 hS1 hce hcv hcl
  rw [ht] at hP1
  obtain ⟨hP2, hD2⟩ := va_join (wr := wr) (w1 := u) hP hD isC isR hC hR hnR hdis hk1 hFc hP1 hD1
  exact kx u hx H1 locs1 ls _ q9 ce hP2 hD2 hS1 hl hce hcv hcl
theorem x_widen {E : String} {k' n' : Nat} (h1 : k ≤ k') (h2 : n ≤ n') (h : Zo p l e R s m args below meth c Q A D nL pc lv E ws k' n') : Zo p l e R s m args below meth c Q A D nL pc lv E ws k n := fun H locs ls st q ce hP hD hS hl hce hcv hcl => vx_widen h1 h2 (h H locs ls st q ce hP hD hS hl hce hcv hcl)
/-- the words of a throw that are no good words -/
theorem hat_of (C : Zc p s m args meth c A D tys nL cc own Ts rt) (hX : ZX l s A) {ic : Nat} {E : String} (hg : ∀ w ∈ (vx_atS RX1 ic E xNm).filter goodWord, w ∈ Ts) (hb : ∀ w ∈ (vx_atS RX1 ic E xNm).filter (fun w => !goodWord w), w ∈ oW) : ∀ w ∈ vx_atS RX1 ic E xNm, w.before args s = true :=
  vx_hat (B := oW) (fun w hw => C.1.2.2.2.2 w (hg w hw)) hb (fun w hw => va_Nw.use (isCD_on (oW_cd w hw)) (hX.2.1.2 w hw))
/-- entry of a method that throws always: the body, with its two ends as hypotheses -/
theorem x_of {y : MethodName} {w w' : List Cond} {rm : Room} {As : List Value} {wc : va_W} {maxL : Nat} {ret : Option FieldType} {E : String} {Xo : va_W → Prop} (hy : plainName y.cls = true) (hw : w = Cond.code y cc maxL ret :: w') (hown : y.cls = RX1) (hlen : (lg_sl As).length ≤ maxL) (hlv : lv_args 0 As = lv)
    (body : ∀ (p : Program) (e : Env) (s : State) (m : MethodId) (args : Array Value) (below : List Frame) (meth : Method) (c : Code) (Q : State → Prop) (A : Nat → Prop), Zc p s m args meth c A D tys maxL cc RX1 w ret → ZX l s A →
      (∀ (pc : Nat) (lv : List (Nat × Value)) (ws : va_W) (k n : Nat), Xo ws → k ≤ rm.cells → n ≤ rm.slots → Zo p l e rm s m args below meth c Q A D maxL pc lv E ws k n) →
      (∀ (pc : Nat) (lv : List (Nat × Value)) (st : List Value) (ws : va_W) (k n ik is ic : Nat) (text : String), Xo ws → (is, text) ∈ strW → E ∈ [xIO, xIA, xIS] → Cond.classLink RX1 ik E ∈ w → Cond.initialized E ∈ w → (∀ w' ∈ (vx_atS RX1 ic E xNm).filter goodWord, w' ∈ w) → (∀ w' ∈ (vx_atS RX1 ic E xNm).filter (fun w => !goodWord w), w' ∈ oW) → Bundle.fit E = true → (∀ n ∈ xNm, Bundle.fit n = true) → (∀ w' ∈ Cond.classLink RX1 ik E :: Cond.initialized E :: vx_atS RX1 ic E xNm, vx_ot w' = true) →
        decode cc pc = .ok (.new ik, 3) → decode cc (pc + 3) = .ok (.dup, 1) → decode cc (pc + 4) = .ok (.ldc is, 2) → decode cc (pc + 6) = .ok (.invokespecial ic, 3) → decode cc (pc + 9) = .ok (.athrow, 1) → 5 < rm.frames → (st.map fun v => v.category).sum + 82 ≤ rm.locals → k + 1 ≤ rm.cells → n + 6 ≤ rm.slots → Zs p l e rm s m args below meth c Q A D maxL pc lv st ws k n) →
      Zs p l e rm s m args below meth c Q A D maxL 0 lv [] wc 0 0) : Xt l y w rm D tys As wc E Xo := by
  intro htr sz
  refine vx_ofW (cc := cc) (maxL := maxL) (ret := ret) hy hw ?_
  intro p e s m args below meth c s₁ B hml htab hv
  obtain ⟨rfl, ⟨hsz, hP, hK, hD0, hNW⟩, hXE, hXZ⟩ := hv
  subst hsz
  subst hlv
  have hown' : s.vm.findClass RX1 = some m.cls := hown ▸ findClass_of_methodNamed B.named
  have C0 : Zc p s m As.toArray meth c (va_A wc s.heap.size) D tys maxL cc RX1 w ret := ⟨⟨B.exec, B.bytes, hml, hown', atoms_spec (ws := w) B.pre⟩, hK, fun q h => Or.inr h, B.notSynchronized, B.returns, hNW⟩
  have hX : ZX l s (va_A wc s.heap.size) := ⟨htr, hXE, hXZ⟩
  rw [lg_entry_eq]
  refine body p e s m As.toArray below meth c _ _ C0 hX ?_ ?_ s.heap [] _ hP (hD0.self) va_S.rf (lv_entry As hlen)
  · intro pc lv ws k n hx hk hn H locs ls st q ce hP hD hS hl hce hcv hcl
    exact vx_out (fun x hx => absurd hx (htab x)) B.notSynchronized hce hcv hcl (fun t ht hW => ⟨ws, trivial, ⟨⟨rfl, hx⟩, by rw [ht]; exact hP, va_K.moved hW C0.2.1, hD⟩, hS.F ht⟩) hS.2.2 hk hn
  · intro pc lv st ws k n ik is ic text hx hstr hE hlk hin hg hb hf1 hf2 hg2 d0 d3 d4 d6 d9 hfr hlo hk hn H locs ls hP hD hS hl
    obtain ⟨sa, hsa⟩ := hX.2.1.1 _ hstr
    refine vx_throwS (own := RX1) (cls := E) (names := xNm) (A := va_A wc s.heap.size) (sa := sa) C0.1.1 C0.1.2.1 htr C0.1.2.2.2.1 hf1 hf2 (C0.1.2.2.2.2 _ hlk) (C0.1.2.2.2.2 _ hin) hsa (hat_of C0 hX hg hb) hg2 hX.2.2.1 hX.2.2.2 hS (hl.1.trans hml.symm) d0 d3 d4 d6 d9 (fun x hx => absurd hx (htab x)) hfr hlo hk hn B.notSynchronized ?_ hS.2.2 hk hn
    intro t hv hz hq
    refine ⟨ws, trivial, ⟨⟨rfl, hx⟩, hP.kept (fun k q hk => hq q.1 (hP k q hk).lt), va_K.moved hv C0.2.1, hD⟩, Nat.le_trans hS.1 hz, fun q h1 h2 => ?_⟩
    rw [hq q (Nat.lt_of_lt_of_le h1 hS.1)]
    exact hS.2.1 q h1 h2
end XL
