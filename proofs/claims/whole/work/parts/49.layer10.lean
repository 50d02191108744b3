section ZL10
variable {p : Program} {l : Launch} {e : Env} {R : Room} {s : State} {m : MethodId} {args : Array Value} {below : List Frame} {meth : Method} {c : Code} {Q : State → Prop} {A : Nat → Prop} {D : va_G} {tys : List (ClassId × FieldType)} {nL : Nat} {cc : ByteArray} {own : String} {Ts : List Cond} {rt : Option FieldType}
variable {pc : Nat} {lv lv' : List (Nat × Value)} {st : List Value} {ws : va_W} {k n : Nat}
/-- the script read, its int by a name -/
theorem z_sldv (C : Zc p s m args meth c A D tys nL cc own Ts rt) {b L : Nat} {xs : Nat → Int32} (hX : va_X b L xs s s.heap) (hbl : b < s.heap.size) (hbA : ¬ A b) (hL : L ≤ 2048) {i v : Int} (hi : 0 ≤ i ∧ i < (L : Int)) (hv : (xs i.toNat).toInt = v) (hd : decode cc pc = .ok (.iaload, 1))
    (h : Zs p l e R s m args below meth c Q A D nL (pc + 1) lv (vI v :: st) ws k n) : Zs p l e R s m args below meth c Q A D nL pc lv (vI i :: .ref b :: st) ws k n := by
  subst hv
  exact z_sld C hX hbl hbA hL hi hd h
end ZL10
