/-! the law's own rules: its script, numbers with a point, long against long -/
section ZL8
variable {p : Program} {l : Launch} {e : Env} {R : Room} {s : State} {m : MethodId} {args : Array Value} {below : List Frame} {meth : Method} {c : Code} {Q : State → Prop} {A : Nat → Prop} {D : va_G} {tys : List (ClassId × FieldType)} {nL : Nat} {cc : ByteArray} {own : String} {Ts : List Cond} {rt : Option FieldType}
variable {pc : Nat} {lv lv' : List (Nat × Value)} {st : List Value} {ws : va_W} {k n : Nat}
theorem z_sld (C : Zc p s m args meth c A D tys nL cc own Ts rt) {b L : Nat} {xs : Nat → Int32} (hX : va_X b L xs s s.heap) (hbl : b < s.heap.size) (hbA : ¬ A b) (hL : L ≤ 2048) {i : Int} (hi : 0 ≤ i ∧ i < (L : Int)) (hd : decode cc pc = .ok (.iaload, 1))
    (h : Zs p l e R s m args below meth c Q A D nL (pc + 1) lv (vI (xs i.toNat).toInt :: st) ws k n) : Zs p l e R s m args below meth c Q A D nL pc lv (vI i :: .ref b :: st) ws k n := by
  intro H locs ls hP hD hS hl
  refine va_sld C.1.1 C.1.2.1 hX hbl hbA hS (iI_in hi (by omega)) hd ?_
  rw [iI_cl (by omega)]
  have e : Value.int (xs i.toNat) = vI (xs i.toNat).toInt := by
    show Value.int (xs i.toNat) = Value.int (Int32.ofInt (xs i.toNat).toInt)
    rw [Int32.ofInt_toInt]
  rw [e]
  exact h H locs ls hP hD hS hl
theorem z_slen (C : Zc p s m args meth c A D tys nL cc own Ts rt) {b L : Nat} {xs : Nat → Int32} (hX : va_X b L xs s s.heap) (hbl : b < s.heap.size) (hbA : ¬ A b) (hd : decode cc pc = .ok (.arraylength, 1))
    (h : Zs p l e R s m args below meth c Q A D nL (pc + 1) lv (vI (L : Int) :: st) ws k n) : Zs p l e R s m args below meth c Q A D nL pc lv (.ref b :: st) ws k n := by
  intro H locs ls hP hD hS hl
  refine va_slen C.1.1 C.1.2.1 hX hbl hbA hS hd ?_
  have e : Value.int (Int32.ofNat L) = vI (L : Int) := by
    show Value.int (Int32.ofNat L) = Value.int (iI (L : Int))
    rw [iI_nI]; rfl
  rw [e]
  exact h H locs ls hP hD hS hl
/-- a method that draws is called -/
theorem z_callVd {d0 : Drawn} (hd0 : s.drawn.sameBut d0 lw_cs) (C : Zc p (s.setDrawn d0) m args meth c A D tys nL cc own Ts rt) {y : MethodName} {w : List Cond} {rm : Room} {As : List Value} {wc wr : va_W} {stk : List Value} {index maxL nn : Nat} {bytes : ByteArray} {ret : Option FieldType} {Qo : UInt64 → va_W → Prop} (isC isR : List Nat) {k' n' : Nat} {b : Nat} {Cn : String} {ci : Nat} {T : u_T} {N : Nat} {fs : List Value} (q0 : Nat) (hM : Cd l y w rm D tys (.ref b :: As) wc Qo) (cw : CallW R (s.setDrawn d0) args own Cn index y bytes maxL ret w rm rm.cells rm.slots nn) (hnC : va_nd isC = true) (hC : isC.map (fun i => ws[i]?) = wc.map some) (hC' : isC.filterMap (fun i => ws[i]?) = wc) (hnR : va_nd isR = true) (hR : isR.map (fun i => ws[i]?) = wr.map some) (hdis : ∀ i ∈ isR, i ∉ isC) (he : ws[q0]? = some (b, .inr (ci, fs))) (hc : vwCl[ci]? = some (Cn, T, N)) (hst : stk = As.reverse ++ .ref b :: st) (hn : As.length = nn) (hcat : (st.map fun v => v.category).sum ≤ 8) (hk' : k + rm.cells = k') (hn' : n + rm.slots = n') (hfit : k' ≤ R.cells ∧ n' ≤ R.slots) (hd : decode cc pc = .ok (.invokevirtual index, 3))
    (kk : ∀ (r : UInt64) (u : va_W) (d' : Drawn), Qo r u → s.drawn.sameBut d' lw_cs → Zs p l e R (s.setDrawn d') m args below meth c Q A D nL (pc + 3) lv (.double r :: st) (wr ++ u) k' n') : Zs p l e R (s.setDrawn d0) m args below meth c Q A D nL pc lv stk ws k n := by
  intro H locs ls hP hD hS hl
  subst hst
  subst hk'
  subst hn'
  have hFc := va_free (wc := wc) hD hS C.2.2.1 isC hC
  refine va_calldD hd0 (va_runV_D (As := As) (rest := st) ⟨C.1.1, C.1.2.1, C.1.2.2.1, C.1.2.2.2⟩ (hM H.size) cw ⟨cPc_blind, va_recv C.2.1 hP hc he, cPc_at C hP hD hnC hC hC'⟩ rfl hn hl.1 rfl (lv_room hcat) hd hfit) hS (fun q _ h => hFc q h) hFc ?_
  rintro r u t H1 locs1 ht hvm hz ⟨hP1, hK1, hD1⟩ hz1 hk1 hS1 d' hd'
  rw [ht] at hP1
  obtain ⟨hP2, hD2⟩ := va_join (wr := wr) (w1 := u) hP hD isC isR hC hR hnR hdis hk1 hFc hP1 hD1
  exact kk r u d' hz hd' H1 locs1 ls hP2 hD2 hS1 hl
end ZL8
section ZL9
variable {p : Program} {l : Launch} {e : Env} {R : Room} {s : State} {m : MethodId} {args : Array Value} {below : List Frame} {meth : Method} {c : Code} {Q : State → Prop} {A : Nat → Prop} {D : va_G} {tys : List (ClassId × FieldType)} {nL : Nat} {cc : ByteArray} {own : String} {Ts : List Cond} {rt : Option FieldType}
variable {pc : Nat} {lv lv' : List (Nat × Value)} {st : List Value} {ws : va_W} {k n : Nat}
/-- alike longs compared -/
theorem z_lcmpE (C : Zc p s m args meth c A D tys nL cc own Ts rt) {x y : Int64} (hxy : x = y) (hd : decode cc pc = .ok (.lcmp, 1)) (h : Zs p l e R s m args below meth c Q A D nL (pc + 1) lv (vI 0 :: st) ws k n) : Zs p l e R s m args below meth c Q A D nL pc lv (.long y :: .long x :: st) ws k n := by
  intro H locs ls hP hD hS hl
  subst hxy
  refine W.lcmp C.1.1 C.1.2.1 hd ?_
  have e0 : lg_cmp x x = 0 := by unfold lg_cmp; simp
  rw [e0]
  exact h H locs ls hP hD hS hl
theorem z_dcmp (C : Zc p s m args meth c A D tys nL cc own Ts rt) {x y : UInt64} {v : Int} (hv : Op.cmpValue (FP.dcmp x y) .l = iI v) (hd : decode cc pc = .ok (.dcmp .l, 1)) (h : Zs p l e R s m args below meth c Q A D nL (pc + 1) lv (vI v :: st) ws k n) : Zs p l e R s m args below meth c Q A D nL pc lv (.double y :: .double x :: st) ws k n := by
  intro H locs ls hP hD hS hl
  refine lv_dcmp C.1.1 C.1.2.1 hd ?_
  rw [hv]
  exact h H locs ls hP hD hS hl
end ZL9
