section ZL6
variable {p : Program} {l : Launch} {e : Env} {R : Room} {s : State} {m : MethodId} {args : Array Value} {below : List Frame} {meth : Method} {c : Code} {Q : State → Prop} {A : Nat → Prop} {D : va_G} {tys : List (ClassId × FieldType)} {nL : Nat} {cc : ByteArray} {own : String} {Ts : List Cond} {rt : Option FieldType}
variable {pc : Nat} {lv lv' : List (Nat × Value)} {st : List Value} {ws : va_W} {k n : Nat}
theorem z_dconst0 (C : Zc p s m args meth c A D tys nL cc own Ts rt) (hd : decode cc pc = .ok (.dconst 0, 1)) (h : Zs p l e R s m args below meth c Q A D nL (pc + 1) lv (.double FP.dconst0 :: st) ws k n) : Zs p l e R s m args below meth c Q A D nL pc lv st ws k n := by
  intro H locs ls hP hD hS hl
  exact lv_dconst0 C.1.1 C.1.2.1 hd (h H locs ls hP hD hS hl)
theorem z_ofd {y : MethodName} {w w' : List Cond} {rm : Room} {As : List Value} {wc : va_W} {maxL : Nat} {Qo : UInt64 → va_W → Prop} (hy : plainName y.cls = true) (hw : w = Cond.code y cc maxL (some .double) :: w') (hown : y.cls = own) (hlen : (lg_sl As).length ≤ maxL) (hlv : lv_args 0 As = lv)
    (body : ∀ (p : Program) (e : Env) (s : State) (m : MethodId) (args : Array Value) (below : List Frame) (meth : Method) (c : Code) (Q : State → Prop) (A : Nat → Prop), Zc p s m args meth c A D tys maxL cc own w (some .double) → (∀ (d : Drawn) (pc : Nat) (lv : List (Nat × Value)) (r : UInt64) (ws : va_W), s.drawn.sameBut d lw_cs → decode cc pc = .ok (.dreturn, 1) → Qo r ws → Zs p l e rm (s.setDrawn d) m args below meth c Q A D maxL pc lv [.double r] ws rm.cells rm.slots) → Zs p l e rm (s.setDrawn s.drawn) m args below meth c Q A D maxL 0 lv [] wc 0 0) : Cd l y w rm D tys As wc Qo := by
  intro sz
  refine MetD.ofW (cc := cc) (maxL := maxL) (ret := (some .double)) hy hw ?_
  intro p e s m args below meth c s₁ B hml hv _
  obtain ⟨rfl, hsz, hP, hK, hD0, hNW⟩ := hv
  subst hsz
  subst hlv
  have hown' : s.vm.findClass own = some m.cls := hown ▸ findClass_of_methodNamed B.named
  have C0 : Zc p s m As.toArray meth c (va_A wc s.heap.size) D tys maxL cc own w (some .double) := ⟨⟨B.exec, B.bytes, hml, hown', atoms_spec (ws := w) B.pre⟩, hK, fun q h => Or.inr h, B.notSynchronized, B.returns, hNW⟩
  rw [lg_entry_eq]
  refine body p e s m As.toArray below meth c _ _ C0 ?_ s.heap [] _ hP (hD0.self) va_S.rf (lv_entry As hlen)
  intro d pc lv r ws hdd hd hq H locs ls hP hD hS hl
  refine W.endD hdd ?_
  exact W.dret C0.1.1 C0.1.2.1 C0.2.2.2.2.1 (fun t ht hW => ⟨⟨r, ws, rfl, hq, by rw [ht]; exact hP, va_K.moved hW.alike C0.2.1, hD⟩, hS.F ht⟩) hS.2.2 hd C0.2.2.2.1
theorem z_objInit (C : Zc p s m args meth c A D tys nL cc own Ts rt) {idx : Nat} {a : Nat} (hlink : Cond.methodLink own idx objectInit ∈ Ts) (hinst : Cond.instanceMethod objectInit ∈ Ts) (hcode : Cond.code objectInit ⟨#[0xb1]⟩ 1 none ∈ Ts) (hd : decode cc pc = .ok (.invokespecial idx, 3)) (hfr : 1 ≤ R.frames) (hlo : (st.map fun v => v.category).sum + 12 ≤ R.locals)
    (h : Zs p l e R s m args below meth c Q A D nL (pc + 3) lv st ws k n) : Zs p l e R s m args below meth c Q A D nL pc lv (.ref a :: st) ws k n := by
  intro H locs ls hP hD hS hl
  refine W.objInit C.1.1 C.1.2.1 C.1.2.2.2.1 (C.1.2.2.2.2 _ hlink) (C.1.2.2.2.2 _ hinst) (C.1.2.2.2.2 _ hcode) rfl (hl.1.trans C.1.2.2.1.symm) rfl hd hfr ?_ (h H locs ls hP hD hS hl)
  show 2 * (F0 m pc ls (.ref a :: st)).monitorRoom + _ + 12 ≤ _
  have e0 : (F0 m pc ls (.ref a :: st)).monitorRoom = 0 := rfl
  rw [e0]
  omega
theorem z_newa (C : Zc p s m args meth c A D tys nL cc own Ts rt) {v : Int} {cI : ClassId} (N : Nat) (hv : v = (N : Int)) (hN : N < 2 ^ 20) (ht : tys[0]? = some (cI, .int)) (harr : Cond.arrayClass .int ∈ Ts) (hd : decode cc pc = .ok (.newarray .int, 2)) (hk : k + 1 ≤ R.cells) (hn : n + N ≤ R.slots)
    (h : ∀ q : Nat, Zs p l e R s m args below meth c Q A D nL (pc + 2) lv (.ref q :: st) (ws ++ [(q, ri cI N (fun _ => 0))]) (k + 1) (n + N)) : Zs p l e R s m args below meth c Q A D nL pc lv (vI v :: st) ws k n := by
  intro H locs ls hP hD hS hl
  subst hv
  have r1 : rng (N : Int) := by omega
  refine va_newa (atype := .int) (ty := .int) (N' := N) (a0 := (N, .inl (fun j => iI ((fun _ => (0 : Int)) j)))) C.1.1 C.1.2.1 (C.1.2.2.2.2 _ harr) rfl C.2.1 hP hD hS C.2.2.1 (fun cA => rfl) ?_ (by rw [iI_cl r1]; rfl) (by show N * 4 ≤ 536870912; omega) hk hn hd ?_
  · intro q
    have := (iI_lt (b := 0) r1 (by decide)).mp q
    omega
  · intro q cA H1 hK1 hP1 hD1 hS1
    have e1 := va_nm_int (hK1.2 tys.length (cA, .int) (by simp)).2
    have e2 := va_nm_int (C.2.1.2 0 (cI, .int) ht).2
    have e3 : cA = cI := Option.some.inj (e1.symm.trans e2)
    subst e3
    exact h q H1 locs ls hP1 hD1 hS1 hl
theorem z_new (C : Zc p s m args meth c A D tys nL cc own Ts rt) {Cn : String} {T : u_T} {N ci index : Nat} {fs : List Value} (hin : ∀ w ∈ u_ws Cn T N, w ∈ Ts) (ty : Nat → FieldType) (hty : ∀ k, k < N → parseFieldDescriptor (T k).2.2.1 = some (ty k)) (hcl : Cond.classLink own index Cn ∈ Ts) (hinst : Cond.instantiable Cn N ∈ Ts) (hini : Cond.initialized Cn ∈ Ts) (hc : vwCl[ci]? = some (Cn, T, N)) (hfs : ∀ j, j < N → defaultValue (ty j) = vp_V fs j) (hd : decode cc pc = .ok (.new index, 3)) (hk : k + 1 ≤ R.cells) (hn : n + N ≤ R.slots)
    (h : ∀ q : Nat, Zs p l e R s m args below meth c Q A D nL (pc + 3) lv (.ref q :: st) (ws ++ [(q, .inr (ci, fs))]) (k + 1) (n + N)) : Zs p l e R s m args below meth c Q A D nL pc lv st ws k n := by
  intro H locs ls hP hD hS hl
  exact va_new C.1.1 C.1.2.1 C.1.2.2.2.2 hin ty hty C.1.2.2.2.1 (C.1.2.2.2.2 _ hcl) (C.1.2.2.2.2 _ hinst) (C.1.2.2.2.2 _ hini) C.2.1 hP hD hS C.2.2.1 hc hfs hk hn hd (fun q H1 hP1 hD1 hS1 => h q H1 locs ls hP1 hD1 hS1 hl)
theorem z_putF (C : Zc p s m args meth c A D tys nL cc own Ts rt) {ref Cn : String} {T : u_T} {N ci index : Nat} {a : Nat} {fs : List Value} {v : Value} {ty : FieldType} {ws' : va_W} (q0 kf : Nat) (hin : ∀ w ∈ u_ws Cn T N, w ∈ Ts) (ty0 : Nat → FieldType) (hty : ∀ k, k < N → parseFieldDescriptor (T k).2.2.1 = some (ty0 k)) (hnm : ∀ a, a < N → ∀ b, b < N → a ≠ b → (T a).2.1 ≠ (T b).2.1) (he : ws[q0]? = some (a, .inr (ci, fs))) (hc : vwCl[ci]? = some (Cn, T, N)) (hk : kf < N) (hlink : Cond.fieldLink own index ref (T kf).2.1 (T kf).2.2.1 ∈ Ts) (hsame : ∀ x, s.fieldFound? (T kf).1 (T kf).2.1 (T kf).2.2.1 = some x → s.fieldFound? ref (T kf).2.1 (T kf).2.2.1 = some x) (hfin : (T kf).2.2.2 = true) (hini : meth.name = "<init>") (hcs : (T kf).1 = own) (hd0 : parseFieldDescriptor (T kf).2.2.1 = some ty) (hn : narrow ty v = v) (hfit : fits ty v = true) (hl0 : kf < fs.length) (hw : ws.set q0 (a, .inr (ci, fs.set kf v)) = ws') (hd : decode cc pc = .ok (.putfield index, 3)) (h : Zs p l e R s m args below meth c Q A D nL (pc + 3) lv st ws' k n) : Zs p l e R s m args below meth c Q A D nL pc lv (v :: .ref a :: st) ws k n := by
  intro H locs ls hP hD hS hl
  exact va_putF C.1.1 C.1.2.1 C.1.2.2.2.2 hin ty0 hty hnm C.1.2.2.2.1 C.2.1 hP hD hS q0 he hc kf hk (C.1.2.2.2.2 _ hlink) hsame hfin hini hcs hd0 hn hfit hl0 hd (fun H locs hP hD hS => h H locs ls (hw ▸ hP) (hw ▸ hD) hS hl)
end ZL6
