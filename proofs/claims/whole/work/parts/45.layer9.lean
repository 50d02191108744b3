/-! numbers alike, compared; a constructor called by the law -/
theorem nan_v {x : UInt64} (h : isNaN64 x = true) : FP.Core.val64 x = .nan := by
  refine Classical.byContradiction fun q => ?_
  have h1 := (FP.Core.ne_nan x).mp q
  have h2 := isNaN64_iff.mp h
  have e : x.toNat &&& 0x7fffffffffffffff = x.toNat % 2 ^ 63 := Nat.and_two_pow_sub_one_eq_mod x.toNat 63
  rw [e] at h2
  omega
/-- two numbers that are each like a third one: equal, or both none -/
theorem al_cmp {x y V : UInt64} (hx : alike64 x V = true) (hy : alike64 y V = true) : FP.dcmp x y = some .eq ∨ (FP.dcmp x y = none ∧ FP.dcmp x x = none ∧ FP.dcmp y y = none) := by
  have hn : ∀ z : UInt64, FP.Core.val64 z = .nan → FP.dcmp z z = none := fun z h => (FP.Core.dcmp_none z z).mpr (Or.inl h)
  unfold alike64 at hx hy
  rw [Bool.or_eq_true, Bool.and_eq_true, decide_eq_true_eq] at hx hy
  by_cases q : FP.Core.val64 V = .nan
  · have g : ∀ z : UInt64, (z = V ∨ isNaN64 z = true ∧ isNaN64 V = true) → FP.Core.val64 z = .nan := fun z h => h.elim (fun e => e ▸ q) (fun e => nan_v e.1)
    exact Or.inr ⟨(FP.Core.dcmp_none x y).mpr (Or.inl (g x hx)), hn x (g x hx), hn y (g y hy)⟩
  · have g : ∀ z : UInt64, (z = V ∨ isNaN64 z = true ∧ isNaN64 V = true) → z = V := fun z h => h.elim id (fun e => absurd (nan_v e.2) q)
    rw [g x hx, g y hy]
    exact Or.inl (FP.Core.dcmp_self q)
theorem z_callI {p : Program} {l : Launch} {e : Env} {R : Room} {s : State} {m : MethodId} {args : Array Value} {below : List Frame} {meth : Method} {c : Code} {Q : State → Prop} {A : Nat → Prop} {D : va_G} {tys : List (ClassId × FieldType)} {nL : Nat} {cc : ByteArray} {own : String} {Ts : List Cond} {rt : Option FieldType} {pc : Nat} {lv : List (Nat × Value)} {st : List Value} {ws : va_W} {k n : Nat} (C : Zc p s m args meth c A D tys nL cc own Ts rt) {y : MethodName} {w : List Cond} {rm : Room} {As : List Value} {wc wr : va_W} {stk : List Value} {index maxL nn k' n' b : Nat} {bytes : ByteArray} {Qo : va_W → Prop} (isC isR : List Nat)
    (hM : Cv l y w rm D tys (.ref b :: As) wc Qo) (cw : CallB R s args own index y bytes maxL none w rm rm.cells rm.slots nn ∧ y.name = "<init>" ∧ (Cond.instanceMethod y).before args s = true) (hnC : va_nd isC = true) (hC : isC.map (fun i => ws[i]?) = wc.map some) (hC' : isC.filterMap (fun i => ws[i]?) = wc) (hnR : va_nd isR = true) (hR : isR.map (fun i => ws[i]?) = wr.map some) (hdis : ∀ i ∈ isR, i ∉ isC)
    (hst : stk = As.reverse ++ .ref b :: st) (hn : As.length = nn) (hcat : (st.map fun v => v.category).sum ≤ 8) (hk' : k + rm.cells = k') (hn' : n + rm.slots = n') (hfit : k' ≤ R.cells ∧ n' ≤ R.slots) (hd : decode cc pc = .ok (.invokespecial index, 3))
    (kk : ∀ (u : va_W), Qo u → Zs p l e R s m args below meth c Q A D nL (pc + 3) lv st (wr ++ u) k' n') : Zs p l e R s m args below meth c Q A D nL pc lv stk ws k n := by
  intro H locs ls hP hD hS hl
  subst hst; subst hk'; subst hn'
  have hFc := va_free (wc := wc) hD hS C.2.2.1 isC hC
  refine va_callv (va_runI (As := As) (rest := st) ⟨C.1.1, C.1.2.1, C.1.2.2.1, C.1.2.2.2⟩ (hM H.size) cw ⟨cPc_blind, cPc_at C hP hD hnC hC hC'⟩ rfl hn hl.1 rfl (lv_room hcat) hd hfit) hS (fun q _ h => hFc q h) hFc ?_
  rintro u t H1 locs1 ht hvm hz ⟨hP1, hK1, hD1⟩ hz1 hk1 hS1
  rw [ht] at hP1
  obtain ⟨hP2, hD2⟩ := va_join (wr := wr) (w1 := u) hP hD isC isR hC hR hnR hdis hk1 hFc hP1 hD1
  exact kk u hz H1 locs1 ls hP2 hD2 hS1 hl
theorem z_newaL {p : Program} {l : Launch} {e : Env} {R : Room} {s : State} {m : MethodId} {args : Array Value} {below : List Frame} {meth : Method} {c : Code} {Q : State → Prop} {A : Nat → Prop} {D : va_G} {tys : List (ClassId × FieldType)} {nL : Nat} {cc : ByteArray} {own : String} {Ts : List Cond} {rt : Option FieldType} {pc : Nat} {lv : List (Nat × Value)} {st : List Value} {ws : va_W} {k n : Nat} (C : Zc p s m args meth c A D tys nL cc own Ts rt) {cJ : ClassId} (ht : tys[1]? = some (cJ, .long)) (harr : Cond.arrayClass .long ∈ Ts) (hd : decode cc pc = .ok (.newarray .long, 2)) (hk : k + 1 ≤ R.cells) (hn : n + 1 ≤ R.slots)
    (h : ∀ (q : Nat) (f : Nat → Int64), Zs p l e R s m args below meth c Q A D nL (pc + 2) lv (.ref q :: st) (ws ++ [(q, lo cJ f)]) (k + 1) (n + 1)) : Zs p l e R s m args below meth c Q A D nL pc lv (vI 1 :: st) ws k n := by
  intro H locs ls hP hD hS hl
  refine va_newa (atype := .long) (ty := .long) (N' := 1) (a0 := (1, .inr (.inl (fun _ => 0)))) C.1.1 C.1.2.1 (C.1.2.2.2.2 _ harr) rfl C.2.1 hP hD hS C.2.2.1 (fun cA => rfl) (by decide) (by decide) (by decide) hk hn hd ?_
  intro q cA H1 hK1 hP1 hD1 hS1
  have e1 : s.vm.findClass ("[" ++ FieldType.long.toString) = some cA := (hK1.2 tys.length (cA, .long) (by simp)).2
  have e2 : s.vm.findClass ("[" ++ FieldType.long.toString) = some cJ := (C.2.1.2 1 (cJ, .long) ht).2
  have e3 : cA = cJ := Option.some.inj (e1.symm.trans e2)
  subst e3
  exact h q _ H1 locs ls hP1 hD1 hS1 hl
theorem and31 (x : Int32) : 0 ≤ (x &&& 31).toInt ∧ (x &&& 31).toInt < 32 := by
  have h : (x &&& 31).toBitVec.toNat ≤ 31 := by
    rw [Int32.toBitVec_and, BitVec.toNat_and]
    exact Nat.and_le_right
  have e : (x &&& 31).toInt = ((x &&& 31).toBitVec.toNat : Int) := by
    show (x &&& 31).toBitVec.toInt = _
    rw [BitVec.toInt_eq_toNat_of_lt (by omega)]
  omega
theorem i32_r (x : Int32) : rng x.toInt := by
  have h1 := x.le_toInt
  have h2 := x.toInt_lt
  omega
