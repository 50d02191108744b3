/-! whole numbers for ints -/
def iI (z : Int) : Int32 := Int32.ofInt z
abbrev vI (z : Int) : Value := .int (iI z)
abbrev rng (z : Int) : Prop := -2147483648 ≤ z ∧ z ≤ 2147483647
theorem iI_add (a b : Int) : iI a + iI b = iI (a + b) := (Int32.ofInt_add a b).symm
theorem iI_sub (a b : Int) : iI a - iI b = iI (a - b) := (Int32.ofInt_sub a b).symm
theorem iI_mul (a b : Int) : iI a * iI b = iI (a * b) := (Int32.ofInt_mul a b).symm
theorem iI_neg (a : Int) : -iI a = iI (-a) := (Int32.ofInt_neg a).symm
theorem iI_toInt {a : Int} (h : rng a) : (iI a).toInt = a := Int32.toInt_ofInt_of_le (by omega) (by omega)
theorem iI_of (x : Int32) : ∃ z, rng z ∧ x = iI z := ⟨x.toInt, ⟨by have := x.le_toInt; omega, by have := x.toInt_lt; omega⟩, (Int32.ofInt_toInt x).symm⟩
theorem iI_eq {a b : Int} (ha : rng a) (hb : rng b) : iI a = iI b ↔ a = b := by
  rw [← Int32.toInt_inj, iI_toInt ha, iI_toInt hb]
theorem iI_lt {a b : Int} (ha : rng a) (hb : rng b) : iI a < iI b ↔ a < b := by
  rw [Int32.lt_iff_toInt_lt, iI_toInt ha, iI_toInt hb]
theorem iI_le {a b : Int} (ha : rng a) (hb : rng b) : iI a ≤ iI b ↔ a ≤ b := by
  rw [Int32.le_iff_toInt_le, iI_toInt ha, iI_toInt hb]
theorem iI_0 : iI 0 = 0 := rfl
theorem iI_cl {a : Int} (h : rng a) : (iI a).toNatClampNeg = a.toNat := by
  show (iI a).toInt.toNat = a.toNat
  rw [iI_toInt h]
theorem iI_in {a : Int} {N : Nat} (h : 0 ≤ a ∧ a < (N : Int)) (hN : N < 2 ^ 31) : vp_in (iI a) N := by
  refine vp_in_iff.mpr ?_
  rw [iI_toInt (by omega)]
  exact h
theorem iI_nI (k : Nat) : iI (k : Int) = nI k := Int32.ofInt_eq_ofNat
/-! the judgement: from every state of the machine that the picture (locals lv, stack st, world ws) fits -/
section ZL
variable {p : Program} {l : Launch} {e : Env} {R : Room} {s : State} {m : MethodId} {args : Array Value} {below : List Frame} {meth : Method} {c : Code} {Q : State → Prop} {A : Nat → Prop} {D : va_G} {tys : List (ClassId × FieldType)} {nL : Nat} {cc : ByteArray} {own : String} {Ts : List Cond} {rt : Option FieldType}
variable {pc : Nat} {lv lv' : List (Nat × Value)} {st : List Value} {ws : va_W} {k n : Nat}
/-- links between nest mates: words that are no part of a method's own list -/
def nestW : List Cond := [.methodLinkNest RX1 33 yX0_init RX1, .methodLinkNest RX0 7 yX1_columnOf RX1, .methodLinkNest RX0 19 yX1_rowOf RX1, .methodLinkNest RX0 57 yX1_cellAt RX1]
def NWs (U : State) : Prop := ∀ w ∈ nestW, va_Nw w U
theorem NWs.warm {s U : State} (hW : s.WarmedH U.vm) (h : NWs s) : NWs U := by
  intro w hw
  have h1 := h w hw
  simp only [nestW, List.mem_cons, List.not_mem_nil, or_false] at hw
  rcases hw with rfl | rfl | rfl | rfl <;> exact va_Nw.warmM hW h1
theorem NWs.same {u U : State} (hv : u.vm = U.vm) (h : NWs u) : NWs U := by
  intro w hw
  have h1 := h w hw
  simp only [nestW, List.mem_cons, List.not_mem_nil, or_false] at hw
  rcases hw with rfl | rfl | rfl | rfl <;> exact va_Nw.same rfl hv h1
def Zc (p : Program) (s : State) (m : MethodId) (args : Array Value) (meth : Method) (c : Code) (A : Nat → Prop) (D : va_G) (tys : List (ClassId × FieldType)) (nL : Nat) (cc : ByteArray) (own : String) (Ts : List Cond) (rt : Option FieldType) : Prop :=
  (p.tables.exec = Jvm.exec ∧ c.code = cc ∧ c.maxLocals = nL ∧ s.vm.findClass own = some m.cls ∧ ∀ w ∈ Ts, w.before args s = true) ∧ va_K D vwCl tys s ∧ (∀ q : Nat, s.heap.size ≤ q → A q) ∧ meth.locks = false ∧ meth.sig.returnType = rt ∧ NWs s
def Zs (p : Program) (l : Launch) (e : Env) (R : Room) (s : State) (m : MethodId) (args : Array Value) (below : List Frame) (meth : Method) (c : Code) (Q : State → Prop) (A : Nat → Prop) (D : va_G) (nL : Nat) (pc : Nat) (lv : List (Nat × Value)) (st : List Value) (ws : va_W) (k n : Nat) : Prop :=
  ∀ (H : Heap) (locs : List Loc) (ls : Array Slot), va_P D vwCl ws H → va_D A ws → va_S A s.heap H locs → lv_has ls nL lv → W p l e R s m args below meth c H locs k n Q (F0 m pc ls st)
theorem z_iconst (C : Zc p s m args meth c A D tys nL cc own Ts rt) {v : Int} (hd : decode cc pc = .ok (.iconst v, 1)) (h : Zs p l e R s m args below meth c Q A D nL (pc + 1) lv (vI v :: st) ws k n) : Zs p l e R s m args below meth c Q A D nL pc lv st ws k n := by
  intro H locs ls hP hD hS hl
  exact lv_iconst (v := iI v) C.1.1 C.1.2.1 hd rfl (h H locs ls hP hD hS hl)
theorem z_bipush (C : Zc p s m args meth c A D tys nL cc own Ts rt) {v : Int} (hd : decode cc pc = .ok (.bipush v, 2)) (hv : (Int8.ofInt v).toInt32 = iI v) (h : Zs p l e R s m args below meth c Q A D nL (pc + 2) lv (vI v :: st) ws k n) : Zs p l e R s m args below meth c Q A D nL pc lv st ws k n := by
  intro H locs ls hP hD hS hl
  exact lv_bipush (v := iI v) C.1.1 C.1.2.1 hd hv (h H locs ls hP hD hS hl)
theorem z_sipush (C : Zc p s m args meth c A D tys nL cc own Ts rt) {v : Int} (hd : decode cc pc = .ok (.sipush v, 3)) (hv : (Int16.ofInt v).toInt32 = iI v) (h : Zs p l e R s m args below meth c Q A D nL (pc + 3) lv (vI v :: st) ws k n) : Zs p l e R s m args below meth c Q A D nL pc lv st ws k n := by
  intro H locs ls hP hD hS hl
  exact lv_sipush (v := iI v) C.1.1 C.1.2.1 hd hv (h H locs ls hP hD hS hl)
theorem z_lconst (C : Zc p s m args meth c A D tys nL cc own Ts rt) {v : Fin 2} {w : Int64} (hd : decode cc pc = .ok (.lconst v, 1)) (hv : Int64.ofNat (v : Nat) = w) (h : Zs p l e R s m args below meth c Q A D nL (pc + 1) lv (.long w :: st) ws k n) : Zs p l e R s m args below meth c Q A D nL pc lv st ws k n := by
  intro H locs ls hP hD hS hl
  exact lv_lconst C.1.1 C.1.2.1 hd hv (h H locs ls hP hD hS hl)
theorem z_iload_n (C : Zc p s m args meth c A D tys nL cc own Ts rt) {kk : Fin 4} {x : Int} (q : Nat) (hd : decode cc pc = .ok (.iload_n kk, 1)) (hq : lv[q]? = some ((kk : Nat), vI x)) (h : Zs p l e R s m args below meth c Q A D nL (pc + 1) lv (vI x :: st) ws k n) : Zs p l e R s m args below meth c Q A D nL pc lv st ws k n := by
  intro H locs ls hP hD hS hl
  exact lv_iload_n C.1.1 C.1.2.1 hd rfl (lv_at hl q hq) (h H locs ls hP hD hS hl)
theorem z_iload (C : Zc p s m args meth c A D tys nL cc own Ts rt) {i : Nat} {x : Int} (q : Nat) (hd : decode cc pc = .ok (.iload i, 2)) (hq : lv[q]? = some (i, vI x)) (h : Zs p l e R s m args below meth c Q A D nL (pc + 2) lv (vI x :: st) ws k n) : Zs p l e R s m args below meth c Q A D nL pc lv st ws k n := by
  intro H locs ls hP hD hS hl
  exact lv_iload C.1.1 C.1.2.1 hd (lv_at hl q hq) (h H locs ls hP hD hS hl)
theorem z_aload_n (C : Zc p s m args meth c A D tys nL cc own Ts rt) {kk : Fin 4} {x : Nat} (q : Nat) (hd : decode cc pc = .ok (.aload_n kk, 1)) (hq : lv[q]? = some ((kk : Nat), .ref x)) (h : Zs p l e R s m args below meth c Q A D nL (pc + 1) lv (.ref x :: st) ws k n) : Zs p l e R s m args below meth c Q A D nL pc lv st ws k n := by
  intro H locs ls hP hD hS hl
  exact lv_aload_n C.1.1 C.1.2.1 hd rfl (lv_at hl q hq) (h H locs ls hP hD hS hl)
theorem z_aload (C : Zc p s m args meth c A D tys nL cc own Ts rt) {i : Nat} {x : Nat} (q : Nat) (hd : decode cc pc = .ok (.aload i, 2)) (hq : lv[q]? = some (i, .ref x)) (h : Zs p l e R s m args below meth c Q A D nL (pc + 2) lv (.ref x :: st) ws k n) : Zs p l e R s m args below meth c Q A D nL pc lv st ws k n := by
  intro H locs ls hP hD hS hl
  exact lv_aload C.1.1 C.1.2.1 hd (lv_at hl q hq) (h H locs ls hP hD hS hl)
theorem z_lload_n (C : Zc p s m args meth c A D tys nL cc own Ts rt) {kk : Fin 4} {x : Int64} (q : Nat) (hd : decode cc pc = .ok (.lload_n kk, 1)) (hq : lv[q]? = some ((kk : Nat), .long x)) (h : Zs p l e R s m args below meth c Q A D nL (pc + 1) lv (.long x :: st) ws k n) : Zs p l e R s m args below meth c Q A D nL pc lv st ws k n := by
  intro H locs ls hP hD hS hl
  exact lv_lload_n C.1.1 C.1.2.1 hd rfl (lv_at hl q hq) (h H locs ls hP hD hS hl)
theorem z_lload (C : Zc p s m args meth c A D tys nL cc own Ts rt) {i : Nat} {x : Int64} (q : Nat) (hd : decode cc pc = .ok (.lload i, 2)) (hq : lv[q]? = some (i, .long x)) (h : Zs p l e R s m args below meth c Q A D nL (pc + 2) lv (.long x :: st) ws k n) : Zs p l e R s m args below meth c Q A D nL pc lv st ws k n := by
  intro H locs ls hP hD hS hl
  exact lv_lload C.1.1 C.1.2.1 hd (lv_at hl q hq) (h H locs ls hP hD hS hl)
theorem z_dload_n (C : Zc p s m args meth c A D tys nL cc own Ts rt) {kk : Fin 4} {x : UInt64} (q : Nat) (hd : decode cc pc = .ok (.dload_n kk, 1)) (hq : lv[q]? = some ((kk : Nat), .double x)) (h : Zs p l e R s m args below meth c Q A D nL (pc + 1) lv (.double x :: st) ws k n) : Zs p l e R s m args below meth c Q A D nL pc lv st ws k n := by
  intro H locs ls hP hD hS hl
  exact lv_dload_n C.1.1 C.1.2.1 hd rfl (lv_at hl q hq) (h H locs ls hP hD hS hl)
theorem z_dload (C : Zc p s m args meth c A D tys nL cc own Ts rt) {i : Nat} {x : UInt64} (q : Nat) (hd : decode cc pc = .ok (.dload i, 2)) (hq : lv[q]? = some (i, .double x)) (h : Zs p l e R s m args below meth c Q A D nL (pc + 2) lv (.double x :: st) ws k n) : Zs p l e R s m args below meth c Q A D nL pc lv st ws k n := by
  intro H locs ls hP hD hS hl
  exact lv_dload C.1.1 C.1.2.1 hd (lv_at hl q hq) (h H locs ls hP hD hS hl)
theorem z_istore_n (C : Zc p s m args meth c A D tys nL cc own Ts rt) {kk : Fin 4} {x : Int} (lv' : List (Nat × Value)) (hd : decode cc pc = .ok (.istore_n kk, 1)) (hn : (kk : Nat) < nL) (hl' : ((kk : Nat), vI x) :: lv.filter (fun q => !(q.1 == (kk : Nat)) && !(q.1 + 1 == (kk : Nat) && q.2.category == 2)) = lv') (h : Zs p l e R s m args below meth c Q A D nL (pc + 1) lv' st ws k n) : Zs p l e R s m args below meth c Q A D nL pc lv (vI x :: st) ws k n := by
  intro H locs ls hP hD hS hl
  exact lv_istore_n C.1.1 C.1.2.1 hd rfl hl hn hl' (fun ls hl => (h H locs ls hP hD hS hl))
theorem z_istore (C : Zc p s m args meth c A D tys nL cc own Ts rt) {i : Nat} {x : Int} (lv' : List (Nat × Value)) (hd : decode cc pc = .ok (.istore i, 2)) (hn : i < nL) (hl' : (i, vI x) :: lv.filter (fun q => !(q.1 == i) && !(q.1 + 1 == i && q.2.category == 2)) = lv') (h : Zs p l e R s m args below meth c Q A D nL (pc + 2) lv' st ws k n) : Zs p l e R s m args below meth c Q A D nL pc lv (vI x :: st) ws k n := by
  intro H locs ls hP hD hS hl
  exact lv_istore C.1.1 C.1.2.1 hd hl hn hl' (fun ls hl => (h H locs ls hP hD hS hl))
theorem z_astore_n (C : Zc p s m args meth c A D tys nL cc own Ts rt) {kk : Fin 4} {x : Nat} (lv' : List (Nat × Value)) (hd : decode cc pc = .ok (.astore_n kk, 1)) (hn : (kk : Nat) < nL) (hl' : ((kk : Nat), .ref x) :: lv.filter (fun q => !(q.1 == (kk : Nat)) && !(q.1 + 1 == (kk : Nat) && q.2.category == 2)) = lv') (h : Zs p l e R s m args below meth c Q A D nL (pc + 1) lv' st ws k n) : Zs p l e R s m args below meth c Q A D nL pc lv (.ref x :: st) ws k n := by
  intro H locs ls hP hD hS hl
  exact lv_astore_n C.1.1 C.1.2.1 hd rfl hl hn hl' (fun ls hl => (h H locs ls hP hD hS hl))
theorem z_astore (C : Zc p s m args meth c A D tys nL cc own Ts rt) {i : Nat} {x : Nat} (lv' : List (Nat × Value)) (hd : decode cc pc = .ok (.astore i, 2)) (hn : i < nL) (hl' : (i, .ref x) :: lv.filter (fun q => !(q.1 == i) && !(q.1 + 1 == i && q.2.category == 2)) = lv') (h : Zs p l e R s m args below meth c Q A D nL (pc + 2) lv' st ws k n) : Zs p l e R s m args below meth c Q A D nL pc lv (.ref x :: st) ws k n := by
  intro H locs ls hP hD hS hl
  exact lv_astore C.1.1 C.1.2.1 hd hl hn hl' (fun ls hl => (h H locs ls hP hD hS hl))
theorem z_iinc (C : Zc p s m args meth c A D tys nL cc own Ts rt) {i : Nat} {v x : Int} (q : Nat) (lv' : List (Nat × Value)) (hd : decode cc pc = .ok (.iinc i v, 3)) (hq : lv[q]? = some (i, vI x)) (hn : i < nL) (hl' : (i, vI (x + v)) :: lv.filter (fun q => !(q.1 == i) && !(q.1 + 1 == i && q.2.category == 2)) = lv') (h : Zs p l e R s m args below meth c Q A D nL (pc + 3) lv' st ws k n) : Zs p l e R s m args below meth c Q A D nL pc lv st ws k n := by
  intro H locs ls hP hD hS hl
  exact lv_iinc C.1.1 C.1.2.1 hd hl hq (iI_add x v) hn hl' (fun ls hl => (h H locs ls hP hD hS hl))
theorem z_iadd (C : Zc p s m args meth c A D tys nL cc own Ts rt) {a b : Int} (hd : decode cc pc = .ok (.iadd, 1)) (h : Zs p l e R s m args below meth c Q A D nL (pc + 1) lv (vI (a + b) :: st) ws k n) : Zs p l e R s m args below meth c Q A D nL pc lv (vI b :: vI a :: st) ws k n := by
  intro H locs ls hP hD hS hl
  refine lv_iadd C.1.1 C.1.2.1 hd ?_
  rw [iI_add]
  exact (h H locs ls hP hD hS hl)
theorem z_isub (C : Zc p s m args meth c A D tys nL cc own Ts rt) {a b : Int} (hd : decode cc pc = .ok (.isub, 1)) (h : Zs p l e R s m args below meth c Q A D nL (pc + 1) lv (vI (a - b) :: st) ws k n) : Zs p l e R s m args below meth c Q A D nL pc lv (vI b :: vI a :: st) ws k n := by
  intro H locs ls hP hD hS hl
  refine lv_isub C.1.1 C.1.2.1 hd ?_
  rw [iI_sub]
  exact (h H locs ls hP hD hS hl)
theorem z_imul (C : Zc p s m args meth c A D tys nL cc own Ts rt) {a b : Int} (hd : decode cc pc = .ok (.imul, 1)) (h : Zs p l e R s m args below meth c Q A D nL (pc + 1) lv (vI (a * b) :: st) ws k n) : Zs p l e R s m args below meth c Q A D nL pc lv (vI b :: vI a :: st) ws k n := by
  intro H locs ls hP hD hS hl
  refine lv_imul C.1.1 C.1.2.1 hd ?_
  rw [iI_mul]
  exact (h H locs ls hP hD hS hl)
theorem z_ineg (C : Zc p s m args meth c A D tys nL cc own Ts rt) {a : Int} (hd : decode cc pc = .ok (.ineg, 1)) (h : Zs p l e R s m args below meth c Q A D nL (pc + 1) lv (vI (-a) :: st) ws k n) : Zs p l e R s m args below meth c Q A D nL pc lv (vI a :: st) ws k n := by
  intro H locs ls hP hD hS hl
  refine lv_ineg C.1.1 C.1.2.1 hd ?_
  rw [iI_neg]
  exact (h H locs ls hP hD hS hl)
theorem z_iand (C : Zc p s m args meth c A D tys nL cc own Ts rt) {a b r : Int} (hd : decode cc pc = .ok (.iand, 1)) (hr : iI a &&& iI b = iI r) (h : Zs p l e R s m args below meth c Q A D nL (pc + 1) lv (vI r :: st) ws k n) : Zs p l e R s m args below meth c Q A D nL pc lv (vI b :: vI a :: st) ws k n := by
  intro H locs ls hP hD hS hl
  refine lv_iand C.1.1 C.1.2.1 hd ?_
  rw [hr]
  exact (h H locs ls hP hD hS hl)
theorem z_ior (C : Zc p s m args meth c A D tys nL cc own Ts rt) {a b r : Int} (hd : decode cc pc = .ok (.ior, 1)) (hr : iI a ||| iI b = iI r) (h : Zs p l e R s m args below meth c Q A D nL (pc + 1) lv (vI r :: st) ws k n) : Zs p l e R s m args below meth c Q A D nL pc lv (vI b :: vI a :: st) ws k n := by
  intro H locs ls hP hD hS hl
  refine lv_ior C.1.1 C.1.2.1 hd ?_
  rw [hr]
  exact (h H locs ls hP hD hS hl)
theorem z_ixor (C : Zc p s m args meth c A D tys nL cc own Ts rt) {a b r : Int} (hd : decode cc pc = .ok (.ixor, 1)) (hr : iI a ^^^ iI b = iI r) (h : Zs p l e R s m args below meth c Q A D nL (pc + 1) lv (vI r :: st) ws k n) : Zs p l e R s m args below meth c Q A D nL pc lv (vI b :: vI a :: st) ws k n := by
  intro H locs ls hP hD hS hl
  refine lv_ixor C.1.1 C.1.2.1 hd ?_
  rw [hr]
  exact (h H locs ls hP hD hS hl)
theorem z_ishl (C : Zc p s m args meth c A D tys nL cc own Ts rt) {a b r : Int} (hd : decode cc pc = .ok (.ishl, 1)) (hr : iI a <<< (iI b &&& 31) = iI r) (h : Zs p l e R s m args below meth c Q A D nL (pc + 1) lv (vI r :: st) ws k n) : Zs p l e R s m args below meth c Q A D nL pc lv (vI b :: vI a :: st) ws k n := by
  intro H locs ls hP hD hS hl
  refine lv_ishl C.1.1 C.1.2.1 hd ?_
  rw [hr]
  exact (h H locs ls hP hD hS hl)
theorem z_idiv (C : Zc p s m args meth c A D tys nL cc own Ts rt) {a b r : Int} (hd : decode cc pc = .ok (.idiv, 1)) (hb : ¬ iI b = 0) (hr : iI a / iI b = iI r) (h : Zs p l e R s m args below meth c Q A D nL (pc + 1) lv (vI r :: st) ws k n) : Zs p l e R s m args below meth c Q A D nL pc lv (vI b :: vI a :: st) ws k n := by
  intro H locs ls hP hD hS hl
  refine lv_idiv C.1.1 C.1.2.1 hd hb ?_
  rw [hr]
  exact (h H locs ls hP hD hS hl)
theorem z_irem (C : Zc p s m args meth c A D tys nL cc own Ts rt) {a b r : Int} (hd : decode cc pc = .ok (.irem, 1)) (hb : ¬ iI b = 0) (hr : iI a - iI a / iI b * iI b = iI r) (h : Zs p l e R s m args below meth c Q A D nL (pc + 1) lv (vI r :: st) ws k n) : Zs p l e R s m args below meth c Q A D nL pc lv (vI b :: vI a :: st) ws k n := by
  intro H locs ls hP hD hS hl
  refine lv_irem C.1.1 C.1.2.1 hd hb ?_
  rw [hr]
  exact (h H locs ls hP hD hS hl)
theorem z_i2l (C : Zc p s m args meth c A D tys nL cc own Ts rt) {a : Int} (hd : decode cc pc = .ok (.i2l, 1)) (h : Zs p l e R s m args below meth c Q A D nL (pc + 1) lv (.long (iI a).toInt64 :: st) ws k n) : Zs p l e R s m args below meth c Q A D nL pc lv (vI a :: st) ws k n := by
  intro H locs ls hP hD hS hl
  exact lv_i2l C.1.1 C.1.2.1 hd rfl (h H locs ls hP hD hS hl)
theorem z_ladd (C : Zc p s m args meth c A D tys nL cc own Ts rt) {a b : Int64} (hd : decode cc pc = .ok (.ladd, 1)) (h : Zs p l e R s m args below meth c Q A D nL (pc + 1) lv (.long (a + b) :: st) ws k n) : Zs p l e R s m args below meth c Q A D nL pc lv (.long b :: .long a :: st) ws k n := by
  intro H locs ls hP hD hS hl
  exact lv_ladd C.1.1 C.1.2.1 hd (h H locs ls hP hD hS hl)
theorem z_lmul (C : Zc p s m args meth c A D tys nL cc own Ts rt) {a b : Int64} (hd : decode cc pc = .ok (.lmul, 1)) (h : Zs p l e R s m args below meth c Q A D nL (pc + 1) lv (.long (a * b) :: st) ws k n) : Zs p l e R s m args below meth c Q A D nL pc lv (.long b :: .long a :: st) ws k n := by
  intro H locs ls hP hD hS hl
  exact lv_lmul C.1.1 C.1.2.1 hd (h H locs ls hP hD hS hl)
theorem z_dup (C : Zc p s m args meth c A D tys nL cc own Ts rt) {v : Value} (hd : decode cc pc = .ok (.dup, 1)) (hv : v.category = 1) (h : Zs p l e R s m args below meth c Q A D nL (pc + 1) lv (v :: v :: st) ws k n) : Zs p l e R s m args below meth c Q A D nL pc lv (v :: st) ws k n := by
  intro H locs ls hP hD hS hl
  exact lv_dup C.1.1 C.1.2.1 hd hv (h H locs ls hP hD hS hl)
theorem z_pop (C : Zc p s m args meth c A D tys nL cc own Ts rt) {v : Value} (hd : decode cc pc = .ok (.pop, 1)) (hv : v.category = 1) (h : Zs p l e R s m args below meth c Q A D nL (pc + 1) lv st ws k n) : Zs p l e R s m args below meth c Q A D nL pc lv (v :: st) ws k n := by
  intro H locs ls hP hD hS hl
  exact lv_pop C.1.1 C.1.2.1 hd hv (h H locs ls hP hD hS hl)
theorem z_dup2 (C : Zc p s m args meth c A D tys nL cc own Ts rt) {v w : Value} (hd : decode cc pc = .ok (.dup2, 1)) (hv : v.category = 1) (hw : w.category = 1) (h : Zs p l e R s m args below meth c Q A D nL (pc + 1) lv (v :: w :: v :: w :: st) ws k n) : Zs p l e R s m args below meth c Q A D nL pc lv (v :: w :: st) ws k n := by
  intro H locs ls hP hD hS hl
  exact lv_dup2_11 C.1.1 C.1.2.1 hd hv hw (h H locs ls hP hD hS hl)
/-! branches: the target first -/
theorem z_if_eq (C : Zc p s m args meth c A D tys nL cc own Ts rt) {a : Int} {off : Int} {tgt : Nat} (hd : decode cc pc = .ok (.ifCond .eq off, 3)) (ht : (pc : Int) + off = (tgt : Int)) (ha : rng a) (kt : a = 0 → Zs p l e R s m args below meth c Q A D nL tgt lv st ws k n) (kf : ¬ a = 0 → Zs p l e R s m args below meth c Q A D nL (pc + 3) lv st ws k n) : Zs p l e R s m args below meth c Q A D nL pc lv (vI a :: st) ws k n := by
  intro H locs ls hP hD hS hl
  have hb : rng 0 := by decide
  have hi := (iI_eq ha hb)
  exact lv_if_eq C.1.1 C.1.2.1 hd ht (fun q => kt (hi.mp q) H locs ls hP hD hS hl) (fun q => kf (fun r => q (hi.mpr r)) H locs ls hP hD hS hl)
theorem z_icmp_eq (C : Zc p s m args meth c A D tys nL cc own Ts rt) {a b : Int} {off : Int} {tgt : Nat} (hd : decode cc pc = .ok (.if_icmp .eq off, 3)) (ht : (pc : Int) + off = (tgt : Int)) (ha : rng a) (hb : rng b) (kt : a = b → Zs p l e R s m args below meth c Q A D nL tgt lv st ws k n) (kf : ¬ a = b → Zs p l e R s m args below meth c Q A D nL (pc + 3) lv st ws k n) : Zs p l e R s m args below meth c Q A D nL pc lv (vI b :: vI a :: st) ws k n := by
  intro H locs ls hP hD hS hl
  have hi := (iI_eq ha hb)
  exact lv_icmp_eq C.1.1 C.1.2.1 hd ht (fun q => kt (hi.mp q) H locs ls hP hD hS hl) (fun q => kf (fun r => q (hi.mpr r)) H locs ls hP hD hS hl)
theorem z_if_ne (C : Zc p s m args meth c A D tys nL cc own Ts rt) {a : Int} {off : Int} {tgt : Nat} (hd : decode cc pc = .ok (.ifCond .ne off, 3)) (ht : (pc : Int) + off = (tgt : Int)) (ha : rng a) (kt : a ≠ 0 → Zs p l e R s m args below meth c Q A D nL tgt lv st ws k n) (kf : a = 0 → Zs p l e R s m args below meth c Q A D nL (pc + 3) lv st ws k n) : Zs p l e R s m args below meth c Q A D nL pc lv (vI a :: st) ws k n := by
  intro H locs ls hP hD hS hl
  have hb : rng 0 := by decide
  have hi := (iI_eq ha hb)
  exact lv_if_ne C.1.1 C.1.2.1 hd ht (fun q => kt (fun r => q (hi.mpr r)) H locs ls hP hD hS hl) (fun q => kf (hi.mp q) H locs ls hP hD hS hl)
theorem z_icmp_ne (C : Zc p s m args meth c A D tys nL cc own Ts rt) {a b : Int} {off : Int} {tgt : Nat} (hd : decode cc pc = .ok (.if_icmp .ne off, 3)) (ht : (pc : Int) + off = (tgt : Int)) (ha : rng a) (hb : rng b) (kt : a ≠ b → Zs p l e R s m args below meth c Q A D nL tgt lv st ws k n) (kf : a = b → Zs p l e R s m args below meth c Q A D nL (pc + 3) lv st ws k n) : Zs p l e R s m args below meth c Q A D nL pc lv (vI b :: vI a :: st) ws k n := by
  intro H locs ls hP hD hS hl
  have hi := (iI_eq ha hb)
  exact lv_icmp_ne C.1.1 C.1.2.1 hd ht (fun q => kt (fun r => q (hi.mpr r)) H locs ls hP hD hS hl) (fun q => kf (hi.mp q) H locs ls hP hD hS hl)
theorem z_if_lt (C : Zc p s m args meth c A D tys nL cc own Ts rt) {a : Int} {off : Int} {tgt : Nat} (hd : decode cc pc = .ok (.ifCond .lt off, 3)) (ht : (pc : Int) + off = (tgt : Int)) (ha : rng a) (kt : a < 0 → Zs p l e R s m args below meth c Q A D nL tgt lv st ws k n) (kf : ¬ a < 0 → Zs p l e R s m args below meth c Q A D nL (pc + 3) lv st ws k n) : Zs p l e R s m args below meth c Q A D nL pc lv (vI a :: st) ws k n := by
  intro H locs ls hP hD hS hl
  have hb : rng 0 := by decide
  have hi := (iI_lt ha hb)
  exact lv_if_lt C.1.1 C.1.2.1 hd ht (fun q => kt (hi.mp q) H locs ls hP hD hS hl) (fun q => kf (fun r => q (hi.mpr r)) H locs ls hP hD hS hl)
theorem z_icmp_lt (C : Zc p s m args meth c A D tys nL cc own Ts rt) {a b : Int} {off : Int} {tgt : Nat} (hd : decode cc pc = .ok (.if_icmp .lt off, 3)) (ht : (pc : Int) + off = (tgt : Int)) (ha : rng a) (hb : rng b) (kt : a < b → Zs p l e R s m args below meth c Q A D nL tgt lv st ws k n) (kf : ¬ a < b → Zs p l e R s m args below meth c Q A D nL (pc + 3) lv st ws k n) : Zs p l e R s m args below meth c Q A D nL pc lv (vI b :: vI a :: st) ws k n := by
  intro H locs ls hP hD hS hl
  have hi := (iI_lt ha hb)
  exact lv_icmp_lt C.1.1 C.1.2.1 hd ht (fun q => kt (hi.mp q) H locs ls hP hD hS hl) (fun q => kf (fun r => q (hi.mpr r)) H locs ls hP hD hS hl)
theorem z_if_ge (C : Zc p s m args meth c A D tys nL cc own Ts rt) {a : Int} {off : Int} {tgt : Nat} (hd : decode cc pc = .ok (.ifCond .ge off, 3)) (ht : (pc : Int) + off = (tgt : Int)) (ha : rng a) (kt : a ≥ 0 → Zs p l e R s m args below meth c Q A D nL tgt lv st ws k n) (kf : ¬ a ≥ 0 → Zs p l e R s m args below meth c Q A D nL (pc + 3) lv st ws k n) : Zs p l e R s m args below meth c Q A D nL pc lv (vI a :: st) ws k n := by
  intro H locs ls hP hD hS hl
  have hb : rng 0 := by decide
  have hi := (iI_le hb ha)
  exact lv_if_ge C.1.1 C.1.2.1 hd ht (fun q => kt (hi.mp q) H locs ls hP hD hS hl) (fun q => kf (fun r => q (hi.mpr r)) H locs ls hP hD hS hl)
theorem z_icmp_ge (C : Zc p s m args meth c A D tys nL cc own Ts rt) {a b : Int} {off : Int} {tgt : Nat} (hd : decode cc pc = .ok (.if_icmp .ge off, 3)) (ht : (pc : Int) + off = (tgt : Int)) (ha : rng a) (hb : rng b) (kt : a ≥ b → Zs p l e R s m args below meth c Q A D nL tgt lv st ws k n) (kf : ¬ a ≥ b → Zs p l e R s m args below meth c Q A D nL (pc + 3) lv st ws k n) : Zs p l e R s m args below meth c Q A D nL pc lv (vI b :: vI a :: st) ws k n := by
  intro H locs ls hP hD hS hl
  have hi := (iI_le hb ha)
  exact lv_icmp_ge C.1.1 C.1.2.1 hd ht (fun q => kt (hi.mp q) H locs ls hP hD hS hl) (fun q => kf (fun r => q (hi.mpr r)) H locs ls hP hD hS hl)
theorem z_if_gt (C : Zc p s m args meth c A D tys nL cc own Ts rt) {a : Int} {off : Int} {tgt : Nat} (hd : decode cc pc = .ok (.ifCond .gt off, 3)) (ht : (pc : Int) + off = (tgt : Int)) (ha : rng a) (kt : a > 0 → Zs p l e R s m args below meth c Q A D nL tgt lv st ws k n) (kf : ¬ a > 0 → Zs p l e R s m args below meth c Q A D nL (pc + 3) lv st ws k n) : Zs p l e R s m args below meth c Q A D nL pc lv (vI a :: st) ws k n := by
  intro H locs ls hP hD hS hl
  have hb : rng 0 := by decide
  have hi := (iI_lt hb ha)
  exact lv_if_gt C.1.1 C.1.2.1 hd ht (fun q => kt (hi.mp q) H locs ls hP hD hS hl) (fun q => kf (fun r => q (hi.mpr r)) H locs ls hP hD hS hl)
theorem z_icmp_gt (C : Zc p s m args meth c A D tys nL cc own Ts rt) {a b : Int} {off : Int} {tgt : Nat} (hd : decode cc pc = .ok (.if_icmp .gt off, 3)) (ht : (pc : Int) + off = (tgt : Int)) (ha : rng a) (hb : rng b) (kt : a > b → Zs p l e R s m args below meth c Q A D nL tgt lv st ws k n) (kf : ¬ a > b → Zs p l e R s m args below meth c Q A D nL (pc + 3) lv st ws k n) : Zs p l e R s m args below meth c Q A D nL pc lv (vI b :: vI a :: st) ws k n := by
  intro H locs ls hP hD hS hl
  have hi := (iI_lt hb ha)
  exact lv_icmp_gt C.1.1 C.1.2.1 hd ht (fun q => kt (hi.mp q) H locs ls hP hD hS hl) (fun q => kf (fun r => q (hi.mpr r)) H locs ls hP hD hS hl)
theorem z_if_le (C : Zc p s m args meth c A D tys nL cc own Ts rt) {a : Int} {off : Int} {tgt : Nat} (hd : decode cc pc = .ok (.ifCond .le off, 3)) (ht : (pc : Int) + off = (tgt : Int)) (ha : rng a) (kt : a ≤ 0 → Zs p l e R s m args below meth c Q A D nL tgt lv st ws k n) (kf : ¬ a ≤ 0 → Zs p l e R s m args below meth c Q A D nL (pc + 3) lv st ws k n) : Zs p l e R s m args below meth c Q A D nL pc lv (vI a :: st) ws k n := by
  intro H locs ls hP hD hS hl
  have hb : rng 0 := by decide
  have hi := (iI_le ha hb)
  exact lv_if_le C.1.1 C.1.2.1 hd ht (fun q => kt (hi.mp q) H locs ls hP hD hS hl) (fun q => kf (fun r => q (hi.mpr r)) H locs ls hP hD hS hl)
theorem z_icmp_le (C : Zc p s m args meth c A D tys nL cc own Ts rt) {a b : Int} {off : Int} {tgt : Nat} (hd : decode cc pc = .ok (.if_icmp .le off, 3)) (ht : (pc : Int) + off = (tgt : Int)) (ha : rng a) (hb : rng b) (kt : a ≤ b → Zs p l e R s m args below meth c Q A D nL tgt lv st ws k n) (kf : ¬ a ≤ b → Zs p l e R s m args below meth c Q A D nL (pc + 3) lv st ws k n) : Zs p l e R s m args below meth c Q A D nL pc lv (vI b :: vI a :: st) ws k n := by
  intro H locs ls hP hD hS hl
  have hi := (iI_le ha hb)
  exact lv_icmp_le C.1.1 C.1.2.1 hd ht (fun q => kt (hi.mp q) H locs ls hP hD hS hl) (fun q => kf (fun r => q (hi.mpr r)) H locs ls hP hD hS hl)
theorem z_goto (C : Zc p s m args meth c A D tys nL cc own Ts rt) {off : Int} {tgt : Nat} (hd : decode cc pc = .ok (.goto off, 3)) (ht : (pc : Int) + off = (tgt : Int)) (h : Zs p l e R s m args below meth c Q A D nL tgt lv st ws k n) : Zs p l e R s m args below meth c Q A D nL pc lv st ws k n := by
  intro H locs ls hP hD hS hl
  exact lv_goto C.1.1 C.1.2.1 hd ht (h H locs ls hP hD hS hl)
theorem z_sub (ks : List Nat) (hk : lv_pick lv ks = lv') (h : Zs p l e R s m args below meth c Q A D nL pc lv' st ws k n) : Zs p l e R s m args below meth c Q A D nL pc lv st ws k n := fun H locs ls hP hD hS hl => h H locs ls hP hD hS (lv_sub hl ks hk)
theorem z_widen {k' n' : Nat} (h1 : k ≤ k') (h2 : n ≤ n') (h : Zs p l e R s m args below meth c Q A D nL pc lv st ws k' n') : Zs p l e R s m args below meth c Q A D nL pc lv st ws k n := fun H locs ls hP hD hS hl => W.widen h1 h2 (h H locs ls hP hD hS hl)
theorem z_ws {ws' : va_W} (hw : ws = ws') (h : Zs p l e R s m args below meth c Q A D nL pc lv st ws' k n) : Zs p l e R s m args below meth c Q A D nL pc lv st ws k n := by subst hw; exact h
theorem z_st {v v' : Int} (hv : v = v') (h : Zs p l e R s m args below meth c Q A D nL pc lv (vI v' :: st) ws k n) : Zs p l e R s m args below meth c Q A D nL pc lv (vI v :: st) ws k n := by subst hv; exact h
theorem z_wP (h : ∀ H : Heap, va_P D vwCl ws H → Zs p l e R s m args below meth c Q A D nL pc lv st ws k n) : Zs p l e R s m args below meth c Q A D nL pc lv st ws k n := fun H locs ls hP hD hS hl => h H hP H locs ls hP hD hS hl
theorem z_tabOut (C : Zc p s m args meth c A D tys nL cc own Ts rt) {dflt lo hi : Int} {offs : Array Int} {len : Nat} {a : Int} {tgt : Nat} (hd : decode cc pc = .ok (.tableswitch dflt lo hi offs, len)) (ha : rng a) (hx : a < lo ∨ hi < a) (ht : (pc : Int) + dflt = (tgt : Int)) (h : Zs p l e R s m args below meth c Q A D nL tgt lv st ws k n) : Zs p l e R s m args below meth c Q A D nL pc lv (vI a :: st) ws k n := by
  intro H locs ls hP hD hS hl
  exact lv_tableOut C.1.1 C.1.2.1 hd (by rw [iI_toInt ha]; exact hx) ht (h H locs ls hP hD hS hl)
theorem z_tabIn (C : Zc p s m args meth c A D tys nL cc own Ts rt) {dflt lo hi : Int} {offs : Array Int} {len : Nat} {a off : Int} {tgt : Nat} (hd : decode cc pc = .ok (.tableswitch dflt lo hi offs, len)) (ha : rng a) (h1 : ¬ a < lo) (h2 : ¬ hi < a) (ho : offs[(a - lo).toNat]? = some off) (ht : (pc : Int) + off = (tgt : Int)) (h : Zs p l e R s m args below meth c Q A D nL tgt lv st ws k n) : Zs p l e R s m args below meth c Q A D nL pc lv (vI a :: st) ws k n := by
  intro H locs ls hP hD hS hl
  exact lv_tableIn C.1.1 C.1.2.1 hd (by rw [iI_toInt ha]; exact h1) (by rw [iI_toInt ha]; exact h2) (by rw [iI_toInt ha]; exact ho) ht (h H locs ls hP hD hS hl)
theorem z_get (C : Zc p s m args meth c A D tys nL cc own Ts rt) {ref Cn : String} {T : u_T} {N ci index : Nat} {a : Nat} {fs : List Value} {v : Value} (q0 kf : Nat) (hin : ∀ w ∈ u_ws Cn T N, w ∈ Ts) (he : ws[q0]? = some (a, .inr (ci, fs))) (hc : vwCl[ci]? = some (Cn, T, N)) (hk : kf < N) (hlink : Cond.fieldLink own index ref (T kf).2.1 (T kf).2.2.1 ∈ Ts) (hsame : ∀ x, s.fieldFound? (T kf).1 (T kf).2.1 (T kf).2.2.1 = some x → s.fieldFound? ref (T kf).2.1 (T kf).2.2.1 = some x) (hv : fs[kf]? = some v) (hd : decode cc pc = .ok (.getfield index, 3)) (h : Zs p l e R s m args below meth c Q A D nL (pc + 3) lv (v :: st) ws k n) : Zs p l e R s m args below meth c Q A D nL pc lv (.ref a :: st) ws k n := by
  intro H locs ls hP hD hS hl
  exact va_get C.1.1 C.1.2.1 C.1.2.2.2.2 hin C.1.2.2.2.1 C.2.1 hP q0 he hc kf hk (C.1.2.2.2.2 _ hlink) hsame hv hd (h H locs ls hP hD hS hl)
theorem z_put (C : Zc p s m args meth c A D tys nL cc own Ts rt) {ref Cn : String} {T : u_T} {N ci index : Nat} {a : Nat} {fs : List Value} {v : Value} {ty : FieldType} {ws' : va_W} (q0 kf : Nat) (hin : ∀ w ∈ u_ws Cn T N, w ∈ Ts) (ty0 : Nat → FieldType) (hty : ∀ k, k < N → parseFieldDescriptor (T k).2.2.1 = some (ty0 k)) (hnm : ∀ a, a < N → ∀ b, b < N → a ≠ b → (T a).2.1 ≠ (T b).2.1) (he : ws[q0]? = some (a, .inr (ci, fs))) (hc : vwCl[ci]? = some (Cn, T, N)) (hk : kf < N) (hlink : Cond.fieldLink own index ref (T kf).2.1 (T kf).2.2.1 ∈ Ts) (hsame : ∀ x, s.fieldFound? (T kf).1 (T kf).2.1 (T kf).2.2.1 = some x → s.fieldFound? ref (T kf).2.1 (T kf).2.2.1 = some x) (hfin : (T kf).2.2.2 = false) (hd0 : parseFieldDescriptor (T kf).2.2.1 = some ty) (hn : narrow ty v = v) (hfit : fits ty v = true) (hl0 : kf < fs.length) (hw : ws.set q0 (a, .inr (ci, fs.set kf v)) = ws') (hd : decode cc pc = .ok (.putfield index, 3)) (h : Zs p l e R s m args below meth c Q A D nL (pc + 3) lv st ws' k n) : Zs p l e R s m args below meth c Q A D nL pc lv (v :: .ref a :: st) ws k n := by
  intro H locs ls hP hD hS hl
  exact va_put C.1.1 C.1.2.1 C.1.2.2.2.2 hin ty0 hty hnm C.1.2.2.2.1 C.2.1 hP hD hS q0 he hc kf hk (C.1.2.2.2.2 _ hlink) hsame hfin hd0 hn hfit hl0 hd (fun H locs hP hD hS => h H locs ls (hw ▸ hP) (hw ▸ hD) hS hl)
theorem z_iald (C : Zc p s m args meth c A D tys nL cc own Ts rt) {a N : Nat} {cA : ClassId} {f : Nat → Int} {i : Int} (q0 t0 : Nat) (ha : ws[q0]? = some (a, .inl (cA, N, .inl (fun j => iI (f j))))) (ht : tys[t0]? = some (cA, .int)) (hN : N < 2 ^ 31) (hi : 0 ≤ i ∧ i < (N : Int)) (hd : decode cc pc = .ok (.iaload, 1)) (h : Zs p l e R s m args below meth c Q A D nL (pc + 1) lv (vI (f i.toNat) :: st) ws k n) : Zs p l e R s m args below meth c Q A D nL pc lv (vI i :: .ref a :: st) ws k n := by
  intro H locs ls hP hD hS hl
  refine va_iald C.1.1 C.1.2.1 C.2.1 hP q0 t0 ha ht (iI_in hi hN) hd ?_
  rw [iI_cl (by omega)]
  exact (h H locs ls hP hD hS hl)
theorem z_upd {f : Nat → Int} {i v : Int} (hi : rng i) : upd (fun j => iI (f j)) (iI i).toNatClampNeg (iI v) = fun j => iI (if j = i.toNat then v else f j) := by
  funext j
  rw [iI_cl hi]
  unfold upd
  split <;> rfl
theorem z_iast (C : Zc p s m args meth c A D tys nL cc own Ts rt) {a N : Nat} {cA : ClassId} {f : Nat → Int} {i v : Int} {ws' : va_W} (q0 t0 : Nat) (ha : ws[q0]? = some (a, .inl (cA, N, .inl (fun j => iI (f j))))) (ht : tys[t0]? = some (cA, .int)) (hN : N < 2 ^ 31) (hi : 0 ≤ i ∧ i < (N : Int)) (hw : ws.set q0 (a, .inl (cA, N, .inl (fun j => iI (if j = i.toNat then v else f j)))) = ws') (hd : decode cc pc = .ok (.iastore, 1)) (h : Zs p l e R s m args below meth c Q A D nL (pc + 1) lv st ws' k n) : Zs p l e R s m args below meth c Q A D nL pc lv (vI v :: vI i :: .ref a :: st) ws k n := by
  intro H locs ls hP hD hS hl
  refine va_iast C.1.1 C.1.2.1 C.2.1 hP hD hS q0 t0 ha ht (iI_in hi hN) hd (fun H locs hP hD hS => ?_)
  rw [z_upd (by omega), hw] at hP hD
  exact (h H locs ls hP hD hS hl)
theorem z_alen (C : Zc p s m args meth c A D tys nL cc own Ts rt) {a : Nat} {cA : ClassId} {x : vp_A} {ty : FieldType} {v : Int} (q0 t0 : Nat) (ha : ws[q0]? = some (a, .inl (cA, x))) (ht : tys[t0]? = some (cA, ty)) (hv : Int32.ofNat x.1 = iI v) (hd : decode cc pc = .ok (.arraylength, 1)) (h : Zs p l e R s m args below meth c Q A D nL (pc + 1) lv (vI v :: st) ws k n) : Zs p l e R s m args below meth c Q A D nL pc lv (.ref a :: st) ws k n := by
  intro H locs ls hP hD hS hl
  exact va_alen C.1.1 C.1.2.1 C.2.1 hP q0 t0 ha ht hv hd (h H locs ls hP hD hS hl)
theorem z_mabs (C : Zc p s m args meth c A D tys nL cc own Ts rt) {index : Nat} {a : Int} (hd : decode cc pc = .ok (.invokestatic index, 3)) (hlink : Cond.methodLink own index Lib.Math.abs.name ∈ Ts) (hstat : Cond.static Lib.Math.abs.name ∈ Ts) (hini : Cond.initialized "java/lang/Math" ∈ Ts) (hcode : Cond.code Lib.Math.abs.name Lib.Math.abs.code 1 (some .int) ∈ Ts) (hframes : 1 ≤ R.frames) (hlocals : (st.map fun v => v.category).sum + 13 ≤ R.locals) (hc : k ≤ R.cells) (hs : n ≤ R.slots) (ha : rng a) (h : Zs p l e R s m args below meth c Q A D nL (pc + 3) lv (vI (if 0 ≤ a then a else -a) :: st) ws k n) : Zs p l e R s m args below meth c Q A D nL pc lv (vI a :: st) ws k n := by
  intro H locs ls hP hD hS hl
  refine va_mabs C.1.1 C.1.2.1 (C.1.2.2.1.trans hl.1.symm) C.1.2.2.2.1 (C.1.2.2.2.2 _ hlink) (C.1.2.2.2.2 _ hstat) (C.1.2.2.2.2 _ hini) (C.1.2.2.2.2 _ hcode) hframes hlocals hc hs hd ?_
  have e1 : (if 0 ≤ iI a then iI a else 0 - iI a) = iI (if 0 ≤ a then a else -a) := by
    by_cases h0 : 0 ≤ a
    · have h1 : (0 : Int32) ≤ iI a := (iI_le (a := 0) (by decide) ha).mpr h0
      rw [if_pos h0, if_pos h1]
    · have h1 : ¬ (0 : Int32) ≤ iI a := fun q => h0 ((iI_le (a := 0) (by decide) ha).mp q)
      rw [if_neg h0, if_neg h1, ← iI_0, iI_sub]
      simp
  rw [e1]
  exact (h H locs ls hP hD hS hl)
theorem z_mmax (C : Zc p s m args meth c A D tys nL cc own Ts rt) {index : Nat} {a b : Int} (hd : decode cc pc = .ok (.invokestatic index, 3)) (hlink : Cond.methodLink own index Lib.Math.max.name ∈ Ts) (hstat : Cond.static Lib.Math.max.name ∈ Ts) (hini : Cond.initialized "java/lang/Math" ∈ Ts) (hcode : Cond.code Lib.Math.max.name Lib.Math.max.code 2 (some .int) ∈ Ts) (hframes : 1 ≤ R.frames) (hlocals : (st.map fun v => v.category).sum + 13 ≤ R.locals) (hc : k ≤ R.cells) (hs : n ≤ R.slots) (ha : rng a) (hb : rng b) (h : Zs p l e R s m args below meth c Q A D nL (pc + 3) lv (vI (if a < b then b else a) :: st) ws k n) : Zs p l e R s m args below meth c Q A D nL pc lv (vI b :: vI a :: st) ws k n := by
  intro H locs ls hP hD hS hl
  refine va_mmax C.1.1 C.1.2.1 (C.1.2.2.1.trans hl.1.symm) C.1.2.2.2.1 (C.1.2.2.2.2 _ hlink) (C.1.2.2.2.2 _ hstat) (C.1.2.2.2.2 _ hini) (C.1.2.2.2.2 _ hcode) hframes hlocals hc hs hd ?_
  have e1 : (if iI a < iI b then iI b else iI a) = iI (if a < b then b else a) := by
    by_cases h0 : a < b
    · rw [if_pos h0, if_pos ((iI_lt ha hb).mpr h0)]
    · rw [if_neg h0, if_neg (fun q => h0 ((iI_lt ha hb).mp q))]
  rw [e1]
  exact (h H locs ls hP hD hS hl)
theorem z_chg (q : Nat) {i : Nat} {x x' : Int} (hq : lv[q]? = some (i, vI x)) (hx : x = x') (hl' : lv.set q (i, vI x') = lv') (h : Zs p l e R s m args below meth c Q A D nL pc lv' st ws k n) : Zs p l e R s m args below meth c Q A D nL pc lv st ws k n := by
  subst hx
  have e1 : lv.set q (i, vI x) = lv := by
    apply List.ext_getElem?
    intro j
    rw [List.getElem?_set]
    split
    · next h1 =>
      subst h1
      have h2 : q < lv.length := (List.getElem?_eq_some_iff.mp hq).1
      simp only [h2, if_true]
      rw [hq]
    · rfl
  rw [e1] at hl'
  subst hl'
  exact h
/-! contracts: the callee's world wc; what it answers and the world behind it -/
abbrev cPc (D : va_G) (tys : List (ClassId × FieldType)) (As : List Value) (wc : va_W) (sz : Nat) : Array Value → State → Prop := va_Pc As (fun U => U.heap.size = sz ∧ va_P D vwCl wc U.heap ∧ va_K D vwCl tys U ∧ va_D (fun _ => True) wc ∧ NWs U)
abbrev cB (D : va_G) (tys : List (ClassId × FieldType)) (wc : va_W) (sz : Nat) : va_W → State → Prop := fun u t => va_P D vwCl u t.heap ∧ va_K D vwCl tys t ∧ va_D (va_A wc sz) u
def Ci (l : Launch) (y : MethodName) (w : List Cond) (rm : Room) (D : va_G) (tys : List (ClassId × FieldType)) (As : List Value) (wc : va_W) (Qo : Int → va_W → Prop) : Prop :=
  ∀ sz : Nat, Met l y w rm (cPc D tys As wc sz) (va_Qi (fun r u => ∃ z : Int, r = iI z ∧ Qo z u) (cB D tys wc sz) (va_A wc sz)) rm.cells rm.slots (va_A wc sz)
def Cv (l : Launch) (y : MethodName) (w : List Cond) (rm : Room) (D : va_G) (tys : List (ClassId × FieldType)) (As : List Value) (wc : va_W) (Qo : va_W → Prop) : Prop :=
  ∀ sz : Nat, Met l y w rm (cPc D tys As wc sz) (va_Qv Qo (cB D tys wc sz) (va_A wc sz)) rm.cells rm.slots (va_A wc sz)
theorem cPc_blind {As : List Value} {wc : va_W} {sz : Nat} : FrameBlind (cPc D tys As wc sz) := fun a U g mk q => by
  obtain ⟨q0, q1, q2, q3, q4, q5⟩ := q
  exact ⟨q0, q1, q2, va_K.moved (u := U) (U := U.calling g mk a) (Vm.Alike.refl U.vm) q3, q4, NWs.same (u := U) (U := U.calling g mk a) rfl q5⟩
theorem cPc_at (C : Zc p s m args meth c A D tys nL cc own Ts rt) {H : Heap} {isC : List Nat} {wc : va_W} {As : List Value} (hP : va_P D vwCl ws H) (hD : va_D A ws) (hnC : va_nd isC = true) (hC : isC.map (fun i => ws[i]?) = wc.map some) (hC' : isC.filterMap (fun i => ws[i]?) = wc) : ∀ U : State, U.heap = H → s.WarmedH U.vm → cPc D tys As wc H.size As.toArray U := fun U hU hW =>
  ⟨rfl, by rw [hU], by rw [hU]; exact hP.sub isC hC', va_K.moved hW.alike C.2.1, (hD.sub isC hnC hC).weaken (fun _ _ _ _ => trivial), C.2.2.2.2.2.warm hW⟩
theorem z_callVi (C : Zc p s m args meth c A D tys nL cc own Ts rt) {y : MethodName} {w : List Cond} {rm : Room} {As : List Value} {wc wr : va_W} {stk : List Value} {index maxL nn : Nat} {bytes : ByteArray} {ret : Option FieldType} {Qo : Int → va_W → Prop} (isC isR : List Nat) {k' n' : Nat} {b : Nat} {Cn : String} {ci : Nat} {T : u_T} {N : Nat} {fs : List Value} (q0 : Nat) (hM : Ci l y w rm D tys (.ref b :: As) wc Qo) (cw : CallW R s args own Cn index y bytes maxL ret w rm rm.cells rm.slots nn) (hnC : va_nd isC = true) (hC : isC.map (fun i => ws[i]?) = wc.map some) (hC' : isC.filterMap (fun i => ws[i]?) = wc) (hnR : va_nd isR = true) (hR : isR.map (fun i => ws[i]?) = wr.map some) (hdis : ∀ i ∈ isR, i ∉ isC) (he : ws[q0]? = some (b, .inr (ci, fs))) (hc : vwCl[ci]? = some (Cn, T, N)) (hst : stk = As.reverse ++ .ref b :: st) (hn : As.length = nn) (hcat : (st.map fun v => v.category).sum ≤ 8) (hk' : k + rm.cells = k') (hn' : n + rm.slots = n') (hfit : k' ≤ R.cells ∧ n' ≤ R.slots) (hd : decode cc pc = .ok (.invokevirtual index, 3)) (kk : ∀ (z : Int) (u : va_W), Qo z u → Zs p l e R s m args below meth c Q A D nL (pc + 3) lv (vI z :: st) (wr ++ u) k' n') : Zs p l e R s m args below meth c Q A D nL pc lv stk ws k n := by
  intro H locs ls hP hD hS hl
  subst hst
  subst hk'
  subst hn'
  have hFc := va_free (wc := wc) hD hS C.2.2.1 isC hC
  refine va_calli (va_runV (As := As) (rest := st) ⟨C.1.1, C.1.2.1, C.1.2.2.1, C.1.2.2.2⟩ (hM H.size) cw ⟨cPc_blind, va_recv C.2.1 hP hc he, cPc_at C hP hD hnC hC hC'⟩ rfl hn hl.1 rfl (lv_room hcat) hd hfit) hS (fun q _ h => hFc q h) hFc ?_
  rintro r u t H1 locs1 ht hvm ⟨z, rfl, hz⟩ ⟨hP1, hK1, hD1⟩ hz1 hk1 hS1
  rw [ht] at hP1
  obtain ⟨hP2, hD2⟩ := va_join (wr := wr) (w1 := u) hP hD isC isR hC hR hnR hdis hk1 hFc hP1 hD1
  exact kk z u hz H1 locs1 ls hP2 hD2 hS1 hl
theorem z_callVv (C : Zc p s m args meth c A D tys nL cc own Ts rt) {y : MethodName} {w : List Cond} {rm : Room} {As : List Value} {wc wr : va_W} {stk : List Value} {index maxL nn : Nat} {bytes : ByteArray} {ret : Option FieldType} {Qo : va_W → Prop} (isC isR : List Nat) {k' n' : Nat} {b : Nat} {Cn : String} {ci : Nat} {T : u_T} {N : Nat} {fs : List Value} (q0 : Nat) (hM : Cv l y w rm D tys (.ref b :: As) wc Qo) (cw : CallW R s args own Cn index y bytes maxL ret w rm rm.cells rm.slots nn) (hnC : va_nd isC = true) (hC : isC.map (fun i => ws[i]?) = wc.map some) (hC' : isC.filterMap (fun i => ws[i]?) = wc) (hnR : va_nd isR = true) (hR : isR.map (fun i => ws[i]?) = wr.map some) (hdis : ∀ i ∈ isR, i ∉ isC) (he : ws[q0]? = some (b, .inr (ci, fs))) (hc : vwCl[ci]? = some (Cn, T, N)) (hst : stk = As.reverse ++ .ref b :: st) (hn : As.length = nn) (hcat : (st.map fun v => v.category).sum ≤ 8) (hk' : k + rm.cells = k') (hn' : n + rm.slots = n') (hfit : k' ≤ R.cells ∧ n' ≤ R.slots) (hd : decode cc pc = .ok (.invokevirtual index, 3)) (kk : ∀ (u : va_W), Qo u → Zs p l e R s m args below meth c Q A D nL (pc + 3) lv st (wr ++ u) k' n') : Zs p l e R s m args below meth c Q A D nL pc lv stk ws k n := by
  intro H locs ls hP hD hS hl
  subst hst
  subst hk'
  subst hn'
  have hFc := va_free (wc := wc) hD hS C.2.2.1 isC hC
  refine va_callv (va_runV (As := As) (rest := st) ⟨C.1.1, C.1.2.1, C.1.2.2.1, C.1.2.2.2⟩ (hM H.size) cw ⟨cPc_blind, va_recv C.2.1 hP hc he, cPc_at C hP hD hnC hC hC'⟩ rfl hn hl.1 rfl (lv_room hcat) hd hfit) hS (fun q _ h => hFc q h) hFc ?_
  rintro u t H1 locs1 ht hvm hz ⟨hP1, hK1, hD1⟩ hz1 hk1 hS1
  rw [ht] at hP1
  obtain ⟨hP2, hD2⟩ := va_join (wr := wr) (w1 := u) hP hD isC isR hC hR hnR hdis hk1 hFc hP1 hD1
  exact kk u hz H1 locs1 ls hP2 hD2 hS1 hl
theorem z_callSi (C : Zc p s m args meth c A D tys nL cc own Ts rt) {y : MethodName} {w : List Cond} {rm : Room} {As : List Value} {wc wr : va_W} {stk : List Value} {index maxL nn : Nat} {bytes : ByteArray} {ret : Option FieldType} {Qo : Int → va_W → Prop} (isC isR : List Nat) {k' n' : Nat} (hM : Ci l y w rm D tys As wc Qo) (cw : CallB R s args own index y bytes maxL ret w rm rm.cells rm.slots nn ∧ (Cond.static y).before args s = true) (hnC : va_nd isC = true) (hC : isC.map (fun i => ws[i]?) = wc.map some) (hC' : isC.filterMap (fun i => ws[i]?) = wc) (hnR : va_nd isR = true) (hR : isR.map (fun i => ws[i]?) = wr.map some) (hdis : ∀ i ∈ isR, i ∉ isC) (hst : stk = As.reverse ++ st) (hn : As.length = nn) (hcat : (st.map fun v => v.category).sum ≤ 8) (hk' : k + rm.cells = k') (hn' : n + rm.slots = n') (hfit : k' ≤ R.cells ∧ n' ≤ R.slots) (hd : decode cc pc = .ok (.invokestatic index, 3)) (kk : ∀ (z : Int) (u : va_W), Qo z u → Zs p l e R s m args below meth c Q A D nL (pc + 3) lv (vI z :: st) (wr ++ u) k' n') : Zs p l e R s m args below meth c Q A D nL pc lv stk ws k n := by
  intro H locs ls hP hD hS hl
  subst hst
  subst hk'
  subst hn'
  have hFc := va_free (wc := wc) hD hS C.2.2.1 isC hC
  refine va_calli (va_runS (As := As) (rest := st) ⟨C.1.1, C.1.2.1, C.1.2.2.1, C.1.2.2.2⟩ (hM H.size) cw ⟨cPc_blind, cPc_at C hP hD hnC hC hC'⟩ rfl hn hl.1 rfl (lv_room hcat) hd hfit) hS (fun q _ h => hFc q h) hFc ?_
  rintro r u t H1 locs1 ht hvm ⟨z, rfl, hz⟩ ⟨hP1, hK1, hD1⟩ hz1 hk1 hS1
  rw [ht] at hP1
  obtain ⟨hP2, hD2⟩ := va_join (wr := wr) (w1 := u) hP hD isC isR hC hR hnR hdis hk1 hFc hP1 hD1
  exact kk z u hz H1 locs1 ls hP2 hD2 hS1 hl
theorem z_callSv (C : Zc p s m args meth c A D tys nL cc own Ts rt) {y : MethodName} {w : List Cond} {rm : Room} {As : List Value} {wc wr : va_W} {stk : List Value} {index maxL nn : Nat} {bytes : ByteArray} {ret : Option FieldType} {Qo : va_W → Prop} (isC isR : List Nat) {k' n' : Nat} (hM : Cv l y w rm D tys As wc Qo) (cw : CallB R s args own index y bytes maxL ret w rm rm.cells rm.slots nn ∧ (Cond.static y).before args s = true) (hnC : va_nd isC = true) (hC : isC.map (fun i => ws[i]?) = wc.map some) (hC' : isC.filterMap (fun i => ws[i]?) = wc) (hnR : va_nd isR = true) (hR : isR.map (fun i => ws[i]?) = wr.map some) (hdis : ∀ i ∈ isR, i ∉ isC) (hst : stk = As.reverse ++ st) (hn : As.length = nn) (hcat : (st.map fun v => v.category).sum ≤ 8) (hk' : k + rm.cells = k') (hn' : n + rm.slots = n') (hfit : k' ≤ R.cells ∧ n' ≤ R.slots) (hd : decode cc pc = .ok (.invokestatic index, 3)) (kk : ∀ (u : va_W), Qo u → Zs p l e R s m args below meth c Q A D nL (pc + 3) lv st (wr ++ u) k' n') : Zs p l e R s m args below meth c Q A D nL pc lv stk ws k n := by
  intro H locs ls hP hD hS hl
  subst hst
  subst hk'
  subst hn'
  have hFc := va_free (wc := wc) hD hS C.2.2.1 isC hC
  refine va_callv (va_runS (As := As) (rest := st) ⟨C.1.1, C.1.2.1, C.1.2.2.1, C.1.2.2.2⟩ (hM H.size) cw ⟨cPc_blind, cPc_at C hP hD hnC hC hC'⟩ rfl hn hl.1 rfl (lv_room hcat) hd hfit) hS (fun q _ h => hFc q h) hFc ?_
  rintro u t H1 locs1 ht hvm hz ⟨hP1, hK1, hD1⟩ hz1 hk1 hS1
  rw [ht] at hP1
  obtain ⟨hP2, hD2⟩ := va_join (wr := wr) (w1 := u) hP hD isC isR hC hR hnR hdis hk1 hFc hP1 hD1
  exact kk u hz H1 locs1 ls hP2 hD2 hS1 hl
theorem z_callNi (C : Zc p s m args meth c A D tys nL cc own Ts rt) {y : MethodName} {w : List Cond} {rm : Room} {As : List Value} {wc wr : va_W} {stk : List Value} {index maxL nn : Nat} {bytes : ByteArray} {ret : Option FieldType} {Qo : Int → va_W → Prop} (isC isR : List Nat) {k' n' : Nat} {host : String} (hM : Ci l y w rm D tys As wc Qo) (cw : va_CN R s args own index y host bytes maxL ret w rm rm.cells rm.slots nn ∧ (Cond.static y).before args s = true ∧ True) (hnC : va_nd isC = true) (hC : isC.map (fun i => ws[i]?) = wc.map some) (hC' : isC.filterMap (fun i => ws[i]?) = wc) (hnR : va_nd isR = true) (hR : isR.map (fun i => ws[i]?) = wr.map some) (hdis : ∀ i ∈ isR, i ∉ isC) (hst : stk = As.reverse ++ st) (hn : As.length = nn) (hcat : (st.map fun v => v.category).sum ≤ 8) (hk' : k + rm.cells = k') (hn' : n + rm.slots = n') (hfit : k' ≤ R.cells ∧ n' ≤ R.slots) (hd : decode cc pc = .ok (.invokestatic index, 3)) (kk : ∀ (z : Int) (u : va_W), Qo z u → Zs p l e R s m args below meth c Q A D nL (pc + 3) lv (vI z :: st) (wr ++ u) k' n') : Zs p l e R s m args below meth c Q A D nL pc lv stk ws k n := by
  intro H locs ls hP hD hS hl
  subst hst
  subst hk'
  subst hn'
  have hFc := va_free (wc := wc) hD hS C.2.2.1 isC hC
  refine va_calli (va_runSN (As := As) (rest := st) ⟨C.1.1, C.1.2.1, C.1.2.2.1, C.1.2.2.2⟩ (hM H.size) cw ⟨cPc_blind, cPc_at C hP hD hnC hC hC'⟩ rfl hn hl.1 rfl (lv_room hcat) hd hfit) hS (fun q _ h => hFc q h) hFc ?_
  rintro r u t H1 locs1 ht hvm ⟨z, rfl, hz⟩ ⟨hP1, hK1, hD1⟩ hz1 hk1 hS1
  rw [ht] at hP1
  obtain ⟨hP2, hD2⟩ := va_join (wr := wr) (w1 := u) hP hD isC isR hC hR hnR hdis hk1 hFc hP1 hD1
  exact kk z u hz H1 locs1 ls hP2 hD2 hS1 hl
theorem z_iret {wc : va_W} {sz : Nat} (C : Zc p s m args meth c (va_A wc sz) D tys nL cc own Ts rt) {Qo : Int → va_W → Prop} {z : Int} (hd : decode cc pc = .ok (.ireturn, 1)) (hr : rt = some .int) (hq : Qo z ws) : Zs p l e R s m args below meth c (MQ below (va_Qi (fun r u => ∃ z : Int, r = iI z ∧ Qo z u) (cB D tys wc sz) (va_A wc sz)) args s k n (va_A wc sz)) (va_A wc sz) D nL pc lv [vI z] ws k n := by
  intro H locs ls hP hD hS hl
  exact W.iret C.1.1 C.1.2.1 (C.2.2.2.2.1.trans hr) (fun t ht hW => ⟨⟨iI z, ws, rfl, ⟨z, rfl, hq⟩, by rw [ht]; exact hP, va_K.moved hW.alike C.2.1, hD⟩, hS.F ht⟩) hS.2.2 hd C.2.2.2.1
theorem z_zret {wc : va_W} {sz : Nat} (C : Zc p s m args meth c (va_A wc sz) D tys nL cc own Ts rt) {Qo : Int → va_W → Prop} {z : Int} (hd : decode cc pc = .ok (.ireturn, 1)) (hr : rt = some .boolean) (hz : z = 0 ∨ z = 1) (hq : Qo z ws) : Zs p l e R s m args below meth c (MQ below (va_Qi (fun r u => ∃ z : Int, r = iI z ∧ Qo z u) (cB D tys wc sz) (va_A wc sz)) args s k n (va_A wc sz)) (va_A wc sz) D nL pc lv [vI z] ws k n := by
  intro H locs ls hP hD hS hl
  exact W.zret C.1.1 C.1.2.1 (C.2.2.2.2.1.trans hr) (by rcases hz with rfl | rfl <;> rfl) (fun t ht hW => ⟨⟨iI z, ws, rfl, ⟨z, rfl, hq⟩, by rw [ht]; exact hP, va_K.moved hW.alike C.2.1, hD⟩, hS.F ht⟩) hS.2.2 hd C.2.2.2.1
theorem z_vret {wc : va_W} {sz : Nat} (C : Zc p s m args meth c (va_A wc sz) D tys nL cc own Ts rt) {Qo : va_W → Prop} (hd : decode cc pc = .ok (.return_, 1)) (hr : rt = none) (hq : Qo ws) : Zs p l e R s m args below meth c (MQ below (va_Qv Qo (cB D tys wc sz) (va_A wc sz)) args s k n (va_A wc sz)) (va_A wc sz) D nL pc lv [] ws k n := by
  intro H locs ls hP hD hS hl
  exact W.vret C.1.1 C.1.2.1 (C.2.2.2.2.1.trans hr) (fun t ht hW => ⟨⟨ws, rfl, hq, by rw [ht]; exact hP, va_K.moved hW.alike C.2.1, hD⟩, hS.F ht⟩) hS.2.2 hd C.2.2.2.1
theorem z_ofi {y : MethodName} {w w' : List Cond} {rm : Room} {As : List Value} {wc : va_W} {maxL : Nat} {Qo : Int → va_W → Prop} (hy : plainName y.cls = true) (hw : w = Cond.code y cc maxL (some .int) :: w') (hown : y.cls = own) (hlen : (lg_sl As).length ≤ maxL) (hlv : lv_args 0 As = lv)
    (body : ∀ (p : Program) (e : Env) (s : State) (m : MethodId) (args : Array Value) (below : List Frame) (meth : Method) (c : Code) (Q : State → Prop) (A : Nat → Prop), Zc p s m args meth c A D tys maxL cc own w (some .int) → (∀ (pc : Nat) (lv : List (Nat × Value)) (z : Int) (ws : va_W), decode cc pc = .ok (.ireturn, 1) → Qo z ws → Zs p l e rm s m args below meth c Q A D maxL pc lv [vI z] ws rm.cells rm.slots) → Zs p l e rm s m args below meth c Q A D maxL 0 lv [] wc 0 0) : Ci l y w rm D tys As wc Qo := by
  intro sz
  refine Met.ofW (cc := cc) (maxL := maxL) (ret := (some .int)) hy hw ?_
  intro p e s m args below meth c s₁ B hml hv
  obtain ⟨rfl, hsz, hP, hK, hD0, hNW⟩ := hv
  subst hsz
  subst hlv
  have hown' : s.vm.findClass own = some m.cls := hown ▸ findClass_of_methodNamed B.named
  have C0 : Zc p s m As.toArray meth c (va_A wc s.heap.size) D tys maxL cc own w (some .int) := ⟨⟨B.exec, B.bytes, hml, hown', atoms_spec (ws := w) B.pre⟩, hK, fun q h => Or.inr h, B.notSynchronized, B.returns, hNW⟩
  rw [lg_entry_eq]
  exact body p e s m As.toArray below meth c _ _ C0 (fun pc lv z ws hd hq => z_iret C0 hd rfl hq) s.heap [] _ hP (hD0.self) va_S.rf (lv_entry As hlen)
theorem z_ofz {y : MethodName} {w w' : List Cond} {rm : Room} {As : List Value} {wc : va_W} {maxL : Nat} {Qo : Int → va_W → Prop} (hy : plainName y.cls = true) (hw : w = Cond.code y cc maxL (some .boolean) :: w') (hown : y.cls = own) (hlen : (lg_sl As).length ≤ maxL) (hlv : lv_args 0 As = lv)
    (body : ∀ (p : Program) (e : Env) (s : State) (m : MethodId) (args : Array Value) (below : List Frame) (meth : Method) (c : Code) (Q : State → Prop) (A : Nat → Prop), Zc p s m args meth c A D tys maxL cc own w (some .boolean) → (∀ (pc : Nat) (lv : List (Nat × Value)) (z : Int) (ws : va_W), decode cc pc = .ok (.ireturn, 1) → (z = 0 ∨ z = 1) → Qo z ws → Zs p l e rm s m args below meth c Q A D maxL pc lv [vI z] ws rm.cells rm.slots) → Zs p l e rm s m args below meth c Q A D maxL 0 lv [] wc 0 0) : Ci l y w rm D tys As wc Qo := by
  intro sz
  refine Met.ofW (cc := cc) (maxL := maxL) (ret := (some .boolean)) hy hw ?_
  intro p e s m args below meth c s₁ B hml hv
  obtain ⟨rfl, hsz, hP, hK, hD0, hNW⟩ := hv
  subst hsz
  subst hlv
  have hown' : s.vm.findClass own = some m.cls := hown ▸ findClass_of_methodNamed B.named
  have C0 : Zc p s m As.toArray meth c (va_A wc s.heap.size) D tys maxL cc own w (some .boolean) := ⟨⟨B.exec, B.bytes, hml, hown', atoms_spec (ws := w) B.pre⟩, hK, fun q h => Or.inr h, B.notSynchronized, B.returns, hNW⟩
  rw [lg_entry_eq]
  exact body p e s m As.toArray below meth c _ _ C0 (fun pc lv z ws hd hz hq => z_zret C0 hd rfl hz hq) s.heap [] _ hP (hD0.self) va_S.rf (lv_entry As hlen)
theorem z_ofv {y : MethodName} {w w' : List Cond} {rm : Room} {As : List Value} {wc : va_W} {maxL : Nat} {Qo : va_W → Prop} (hy : plainName y.cls = true) (hw : w = Cond.code y cc maxL none :: w') (hown : y.cls = own) (hlen : (lg_sl As).length ≤ maxL) (hlv : lv_args 0 As = lv)
    (body : ∀ (p : Program) (e : Env) (s : State) (m : MethodId) (args : Array Value) (below : List Frame) (meth : Method) (c : Code) (Q : State → Prop) (A : Nat → Prop), Zc p s m args meth c A D tys maxL cc own w none → (∀ (pc : Nat) (lv : List (Nat × Value)) (ws : va_W), decode cc pc = .ok (.return_, 1) → Qo ws → Zs p l e rm s m args below meth c Q A D maxL pc lv [] ws rm.cells rm.slots) → Zs p l e rm s m args below meth c Q A D maxL 0 lv [] wc 0 0) : Cv l y w rm D tys As wc Qo := by
  intro sz
  refine Met.ofW (cc := cc) (maxL := maxL) (ret := none) hy hw ?_
  intro p e s m args below meth c s₁ B hml hv
  obtain ⟨rfl, hsz, hP, hK, hD0, hNW⟩ := hv
  subst hsz
  subst hlv
  have hown' : s.vm.findClass own = some m.cls := hown ▸ findClass_of_methodNamed B.named
  have C0 : Zc p s m As.toArray meth c (va_A wc s.heap.size) D tys maxL cc own w none := ⟨⟨B.exec, B.bytes, hml, hown', atoms_spec (ws := w) B.pre⟩, hK, fun q h => Or.inr h, B.notSynchronized, B.returns, hNW⟩
  rw [lg_entry_eq]
  exact body p e s m As.toArray below meth c _ _ C0 (fun pc lv ws hd hq => z_vret C0 hd rfl hq) s.heap [] _ hP (hD0.self) va_S.rf (lv_entry As hlen)
end ZL
