section ZL2
variable {p : Program} {l : Launch} {e : Env} {R : Room} {s : State} {m : MethodId} {args : Array Value} {below : List Frame} {meth : Method} {c : Code} {Q : State → Prop} {A : Nat → Prop} {D : va_G} {tys : List (ClassId × FieldType)} {nL : Nat} {cc : ByteArray} {own : String} {Ts : List Cond} {rt : Option FieldType}
variable {pc : Nat} {lv lv' : List (Nat × Value)} {st : List Value} {ws : va_W} {k n : Nat}
theorem z_lookup (C : Zc p s m args meth c A D tys nL cc own Ts rt) {dflt : Int} {ps : Array (Int × Int)} {len : Nat} {a off : Int} {tgt : Nat} (hd : decode cc pc = .ok (.lookupswitch dflt ps, len)) (hp : (ps.toList.zip (ps.toList.drop 1)).all (fun (a, next) => a.1 < next.1) = true) (ha : rng a) (ho : Op.lookupswitch.offset ps.toList dflt a = off) (ht : (pc : Int) + off = (tgt : Int)) (h : Zs p l e R s m args below meth c Q A D nL tgt lv st ws k n) : Zs p l e R s m args below meth c Q A D nL pc lv (vI a :: st) ws k n := by
  intro H locs ls hP hD hS hl
  exact lv_lookup C.1.1 C.1.2.1 hd hp (by rw [iI_toInt ha]; exact ho) ht (h H locs ls hP hD hS hl)
theorem z_ishr (C : Zc p s m args meth c A D tys nL cc own Ts rt) {a b r : Int} (hd : decode cc pc = .ok (.ishr, 1)) (hr : iI a >>> (iI b &&& 31) = iI r) (h : Zs p l e R s m args below meth c Q A D nL (pc + 1) lv (vI r :: st) ws k n) : Zs p l e R s m args below meth c Q A D nL pc lv (vI b :: vI a :: st) ws k n := by
  intro H locs ls hP hD hS hl
  refine lv_ishr C.1.1 C.1.2.1 hd ?_
  rw [hr]
  exact (h H locs ls hP hD hS hl)
theorem z_iushr (C : Zc p s m args meth c A D tys nL cc own Ts rt) {a b r : Int} (hd : decode cc pc = .ok (.iushr, 1)) (hr : ((iI a).toUInt32 >>> ((iI b).toUInt32 &&& Int32.toUInt32 31)).toInt32 = iI r) (h : Zs p l e R s m args below meth c Q A D nL (pc + 1) lv (vI r :: st) ws k n) : Zs p l e R s m args below meth c Q A D nL pc lv (vI b :: vI a :: st) ws k n := by
  intro H locs ls hP hD hS hl
  exact lv_iushr C.1.1 C.1.2.1 hd hr (h H locs ls hP hD hS hl)
theorem z_ldcw (C : Zc p s m args meth c A D tys nL cc own Ts rt) {index : Nat} {v : Int} (hc : Cond.constant own index (iI v) ∈ Ts) (hd : decode cc pc = .ok (.ldc_w index, 3)) (h : Zs p l e R s m args below meth c Q A D nL (pc + 3) lv (vI v :: st) ws k n) : Zs p l e R s m args below meth c Q A D nL pc lv st ws k n := by
  intro H locs ls hP hD hS hl
  exact lv_ldcw C.1.1 C.1.2.1 C.1.2.2.2.1 (C.1.2.2.2.2 _ hc) hd (h H locs ls hP hD hS hl)
end ZL2
theorem mulr {a b A B : Int} (h : 0 ≤ a ∧ a ≤ A) (g : 0 ≤ b ∧ b ≤ B) : 0 ≤ a * b ∧ a * b ≤ A * B := ⟨Int.mul_nonneg h.1 g.1, Int.le_trans (Int.mul_le_mul_of_nonneg_right h.2 g.1) (Int.mul_le_mul_of_nonneg_left g.2 (by omega))⟩
