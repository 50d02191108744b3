def Cl (l : Launch) (y : MethodName) (w : List Cond) (rm : Room) (D : va_G) (tys : List (ClassId × FieldType)) (As : List Value) (wc : va_W) (Qo : Int64 → va_W → Prop) : Prop :=
  ∀ sz : Nat, Met l y w rm (cPc D tys As wc sz) (va_Ql Qo (cB D tys wc sz) (va_A wc sz)) rm.cells rm.slots (va_A wc sz)
/-- a method that may draw, which answers a double -/
def Cd (l : Launch) (y : MethodName) (w : List Cond) (rm : Room) (D : va_G) (tys : List (ClassId × FieldType)) (As : List Value) (wc : va_W) (Qo : UInt64 → va_W → Prop) : Prop :=
  ∀ sz : Nat, MetD lw_cs l y w rm (cPc D tys As wc sz) (va_Qd Qo (cB D tys wc sz) (va_A wc sz)) rm.cells rm.slots (va_A wc sz)
section ZL4
variable {p : Program} {l : Launch} {e : Env} {R : Room} {s : State} {m : MethodId} {args : Array Value} {below : List Frame} {meth : Method} {c : Code} {Q : State → Prop} {A : Nat → Prop} {D : va_G} {tys : List (ClassId × FieldType)} {nL : Nat} {cc : ByteArray} {own : String} {Ts : List Cond} {rt : Option FieldType}
variable {pc : Nat} {lv lv' : List (Nat × Value)} {st : List Value} {ws : va_W} {k n : Nat}
theorem z_ldc2 (C : Zc p s m args meth c A D tys nL cc own Ts rt) {index : Nat} {v : Int64} (hc : Cond.constantLong own index v ∈ Ts) (hd : decode cc pc = .ok (.ldc2_w index, 3)) (h : Zs p l e R s m args below meth c Q A D nL (pc + 3) lv (.long v :: st) ws k n) : Zs p l e R s m args below meth c Q A D nL pc lv st ws k n := by
  intro H locs ls hP hD hS hl
  exact lv_ldc2 C.1.1 C.1.2.1 C.1.2.2.2.1 (C.1.2.2.2.2 _ hc) hd (h H locs ls hP hD hS hl)
theorem z_lstore_n (C : Zc p s m args meth c A D tys nL cc own Ts rt) {kk : Fin 4} {x : Int64} (lv' : List (Nat × Value)) (hd : decode cc pc = .ok (.lstore_n kk, 1)) (hn : (kk : Nat) + 1 < nL) (hl' : ((kk : Nat), Value.long x) :: lv.filter (fun q => !(q.1 == (kk : Nat)) && (!(q.1 == (kk : Nat) + 1) && !(q.1 + 1 == (kk : Nat) && q.2.category == 2))) = lv') (h : Zs p l e R s m args below meth c Q A D nL (pc + 1) lv' st ws k n) : Zs p l e R s m args below meth c Q A D nL pc lv (.long x :: st) ws k n := by
  intro H locs ls hP hD hS hl
  exact lv_lstore_n C.1.1 C.1.2.1 hd rfl hl hn hl' (fun ls hl => (h H locs ls hP hD hS hl))
theorem z_lstore (C : Zc p s m args meth c A D tys nL cc own Ts rt) {i : Nat} {x : Int64} (lv' : List (Nat × Value)) (hd : decode cc pc = .ok (.lstore i, 2)) (hn : i + 1 < nL) (hl' : (i, Value.long x) :: lv.filter (fun q => !(q.1 == i) && (!(q.1 == i + 1) && !(q.1 + 1 == i && q.2.category == 2))) = lv') (h : Zs p l e R s m args below meth c Q A D nL (pc + 2) lv' st ws k n) : Zs p l e R s m args below meth c Q A D nL pc lv (.long x :: st) ws k n := by
  intro H locs ls hP hD hS hl
  exact lv_lstore C.1.1 C.1.2.1 hd hl hn hl' (fun ls hl => (h H locs ls hP hD hS hl))
theorem z_dstore_n (C : Zc p s m args meth c A D tys nL cc own Ts rt) {kk : Fin 4} {x : UInt64} (lv' : List (Nat × Value)) (hd : decode cc pc = .ok (.dstore_n kk, 1)) (hn : (kk : Nat) + 1 < nL) (hl' : ((kk : Nat), Value.double x) :: lv.filter (fun q => !(q.1 == (kk : Nat)) && (!(q.1 == (kk : Nat) + 1) && !(q.1 + 1 == (kk : Nat) && q.2.category == 2))) = lv') (h : Zs p l e R s m args below meth c Q A D nL (pc + 1) lv' st ws k n) : Zs p l e R s m args below meth c Q A D nL pc lv (.double x :: st) ws k n := by
  intro H locs ls hP hD hS hl
  exact lv_dstore_n C.1.1 C.1.2.1 hd rfl hl hn hl' (fun ls hl => (h H locs ls hP hD hS hl))
theorem z_dstore (C : Zc p s m args meth c A D tys nL cc own Ts rt) {i : Nat} {x : UInt64} (lv' : List (Nat × Value)) (hd : decode cc pc = .ok (.dstore i, 2)) (hn : i + 1 < nL) (hl' : (i, Value.double x) :: lv.filter (fun q => !(q.1 == i) && (!(q.1 == i + 1) && !(q.1 + 1 == i && q.2.category == 2))) = lv') (h : Zs p l e R s m args below meth c Q A D nL (pc + 2) lv' st ws k n) : Zs p l e R s m args below meth c Q A D nL pc lv (.double x :: st) ws k n := by
  intro H locs ls hP hD hS hl
  exact lv_dstore C.1.1 C.1.2.1 hd hl hn hl' (fun ls hl => (h H locs ls hP hD hS hl))
theorem z_i2d (C : Zc p s m args meth c A D tys nL cc own Ts rt) {a : Int} (hd : decode cc pc = .ok (.i2d, 1)) (h : Zs p l e R s m args below meth c Q A D nL (pc + 1) lv (.double (FP.i2d (iI a)) :: st) ws k n) : Zs p l e R s m args below meth c Q A D nL pc lv (vI a :: st) ws k n := by
  intro H locs ls hP hD hS hl
  exact lv_i2d C.1.1 C.1.2.1 hd (h H locs ls hP hD hS hl)
theorem z_lret {wc : va_W} {sz : Nat} (C : Zc p s m args meth c (va_A wc sz) D tys nL cc own Ts rt) {Qo : Int64 → va_W → Prop} {z : Int64} (hd : decode cc pc = .ok (.lreturn, 1)) (hr : rt = some .long) (hq : Qo z ws) : Zs p l e R s m args below meth c (MQ below (va_Ql Qo (cB D tys wc sz) (va_A wc sz)) args s k n (va_A wc sz)) (va_A wc sz) D nL pc lv [.long z] ws k n := by
  intro H locs ls hP hD hS hl
  exact W.lret C.1.1 C.1.2.1 (C.2.2.2.2.1.trans hr) (fun t ht hW => ⟨⟨z, ws, rfl, hq, by rw [ht]; exact hP, va_K.moved hW.alike C.2.1, hD⟩, hS.F ht⟩) hS.2.2 hd C.2.2.2.1
theorem z_ofl {y : MethodName} {w w' : List Cond} {rm : Room} {As : List Value} {wc : va_W} {maxL : Nat} {Qo : Int64 → va_W → Prop} (hy : plainName y.cls = true) (hw : w = Cond.code y cc maxL (some .long) :: w') (hown : y.cls = own) (hlen : (lg_sl As).length ≤ maxL) (hlv : lv_args 0 As = lv)
    (body : ∀ (p : Program) (e : Env) (s : State) (m : MethodId) (args : Array Value) (below : List Frame) (meth : Method) (c : Code) (Q : State → Prop) (A : Nat → Prop), Zc p s m args meth c A D tys maxL cc own w (some .long) → (∀ (pc : Nat) (lv : List (Nat × Value)) (z : Int64) (ws : va_W), decode cc pc = .ok (.lreturn, 1) → Qo z ws → Zs p l e rm s m args below meth c Q A D maxL pc lv [.long z] ws rm.cells rm.slots) → Zs p l e rm s m args below meth c Q A D maxL 0 lv [] wc 0 0) : Cl l y w rm D tys As wc Qo := by
  intro sz
  refine Met.ofW (cc := cc) (maxL := maxL) (ret := (some .long)) hy hw ?_
  intro p e s m args below meth c s₁ B hml hv
  obtain ⟨rfl, hsz, hP, hK, hD0, hNW⟩ := hv
  subst hsz
  subst hlv
  have hown' : s.vm.findClass own = some m.cls := hown ▸ findClass_of_methodNamed B.named
  have C0 : Zc p s m As.toArray meth c (va_A wc s.heap.size) D tys maxL cc own w (some .long) := ⟨⟨B.exec, B.bytes, hml, hown', atoms_spec (ws := w) B.pre⟩, hK, fun q h => Or.inr h, B.notSynchronized, B.returns, hNW⟩
  rw [lg_entry_eq]
  exact body p e s m As.toArray below meth c _ _ C0 (fun pc lv z ws hd hq => z_lret C0 hd rfl hq) s.heap [] _ hP (hD0.self) va_S.rf (lv_entry As hlen)
theorem Zc.drawn (C : Zc p s m args meth c A D tys nL cc own Ts rt) (d : Drawn) : Zc p (s.setDrawn d) m args meth c A D tys nL cc own Ts rt :=
  ⟨⟨C.1.1, C.1.2.1, C.1.2.2.1, C.1.2.2.2.1, dr_words C.1.2.2.2.2 d⟩, C.2.1, C.2.2.1, C.2.2.2.1, C.2.2.2.2.1, fun w hw => va_Nw.same (by simp only [nestW, List.mem_cons, List.not_mem_nil, or_false] at hw; rcases hw with rfl | rfl | rfl | rfl <;> rfl) (u := s) (U := s.setDrawn d) rfl (C.2.2.2.2.2 w hw)⟩
/-- a division of doubles: any answer alike the quotient; the record of draws may have moved -/
theorem z_ddiv {d0 : Drawn} (hd0 : s.drawn.sameBut d0 lw_cs) (hx : p.tables.exec = Jvm.exec) (hb : c.code = cc) {x y : UInt64} (hd : decode cc pc = .ok (.ddiv, 1))
    (h : ∀ (r : UInt64) (d' : Drawn), alike64 r (FP.ddiv x y) = true → s.drawn.sameBut d' lw_cs → Zs p l e R (s.setDrawn d') m args below meth c Q A D nL (pc + 1) lv (.double r :: st) ws k n) :
    Zs p l e R (s.setDrawn d0) m args below meth c Q A D nL pc lv (.double y :: .double x :: st) ws k n := by
  intro H locs ls hP hD hS hl
  exact lv_ddiv_any hd0 lw_bits hx hb hd (fun r d' hal hd' => h r d' hal hd' H locs ls hP hD hS hl)
theorem z_dconst (C : Zc p s m args meth c A D tys nL cc own Ts rt) {j : Fin 2} {v : UInt64} (hd : decode cc pc = .ok (.dconst j, 1)) (hv : v = v) (h : Zs p l e R s m args below meth c Q A D nL (pc + 1) lv (.double v :: st) ws k n) (hz : ∀ H locs ls, W p l e R s m args below meth c H locs k n Q (F0 m (pc + 1) ls (.double v :: st)) → W p l e R s m args below meth c H locs k n Q (F0 m pc ls st)) : Zs p l e R s m args below meth c Q A D nL pc lv st ws k n :=
  fun H locs ls hP hD hS hl => hz H locs ls (h H locs ls hP hD hS hl)
end ZL4
/-! the checksum -/
def dst (d : Int64) (z : Int) : Int64 := d * 31 + (iI z).toInt64
def dgF (f : Nat → Int) (d : Int64) : Nat → Int64
  | 0 => d
  | n + 1 => dst (dgF f d n) (f n)
def dgC (σ : YS) (LT : Nat → Int) (d : Int64) : Nat → Int64
  | 0 => d
  | n + 1 => dst (dst (dgC σ LT d n) (σ 0 n)) (sm (fun k => bI (bt (LT n) k)) 4)
def dgL (σ : YS) (LT : Nat → Int) (d : Int64) : Nat → Int64
  | 0 => d
  | n + 1 => dgF (fun wh => aboV σ LT n (wh : Int)) (dgL σ LT d n) 4
def dgW (σ : YS) (LT : Nat → Int) (d : Int64) : Nat → Int64
  | 0 => d
  | n + 1 => dgF (fun wh => seaV σ LT n (wh : Int)) (dgW σ LT d n) 5
def digV (σ : YS) (LT : Nat → Int) : Int64 := dgW σ LT (dgL σ LT (dgC σ LT (dgF (fun wh => couV σ LT (wh : Int)) 1447 8) 144) (nLa σ)) (nWa σ)
def meanV (σ : YS) (LT : Nat → Int) : UInt64 := FP.ddiv (FP.i2d (iI (sm (brC σ LT) 144))) (FP.i2d (iI (litC LT)))
