section ZL5
variable {p : Program} {l : Launch} {e : Env} {R : Room} {s : State} {m : MethodId} {args : Array Value} {below : List Frame} {meth : Method} {c : Code} {Q : State → Prop} {A : Nat → Prop} {D : va_G} {tys : List (ClassId × FieldType)} {nL : Nat} {cc : ByteArray} {own : String} {Ts : List Cond} {rt : Option FieldType}
variable {pc : Nat} {lv lv' : List (Nat × Value)} {st : List Value} {ws : va_W} {k n : Nat}
theorem z_chgl (q : Nat) {i : Nat} {x x' : Int64} (hq : lv[q]? = some (i, .long x)) (hx : x = x') (hl' : lv.set q (i, .long x') = lv') (h : Zs p l e R s m args below meth c Q A D nL pc lv' st ws k n) : Zs p l e R s m args below meth c Q A D nL pc lv st ws k n := by
  subst hx
  have e1 : lv.set q (i, .long x) = lv := by
    apply List.ext_getElem?
    intro j
    rw [List.getElem?_set]
    split
    · next h1 =>
      subst h1
      have h2 : q < lv.length := (List.getElem?_eq_some_iff.mp hq).1
      simp only [h2, if_true]
      rw [hq]
    · rfl
  rw [e1] at hl'
  subst hl'
  exact h
end ZL5
