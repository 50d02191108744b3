section ZL3
variable {p : Program} {l : Launch} {e : Env} {R : Room} {s : State} {m : MethodId} {args : Array Value} {below : List Frame} {meth : Method} {c : Code} {Q : State → Prop} {A : Nat → Prop} {D : va_G} {tys : List (ClassId × FieldType)} {nL : Nat} {cc : ByteArray} {own : String} {Ts : List Cond} {rt : Option FieldType}
variable {pc : Nat} {lv lv' : List (Nat × Value)} {st : List Value} {ws : va_W} {k n : Nat}
theorem z_wsub {ws' : va_W} (is : List Nat) (hn : va_nd is = true) (hs : is.map (fun i => ws[i]?) = ws'.map some) (hf : is.filterMap (fun i => ws[i]?) = ws') (h : Zs p l e R s m args below meth c Q A D nL pc lv st ws' k n) : Zs p l e R s m args below meth c Q A D nL pc lv st ws k n := fun H locs ls hP hD hS hl => h H locs ls (hP.sub is hf) (hD.sub is hn hs) hS hl
end ZL3
/-- one row alone -/
def aw (cI : ClassId) (a : Nat) (f : Nat → Int) : va_W := [(a, ri cI 144 f)]
def flI (f : Nat → Int) (v : Int) (i : Nat) : Nat → Int := fun j => if j < i then v else f j
theorem flI_0 (f : Nat → Int) (v : Int) : flI f v 0 = f := by funext j; simp [flI]
theorem flI_s (f : Nat → Int) (v : Int) (i : Nat) : fU (flI f v i) i v = flI f v (i + 1) := by
  funext j
  unfold fU flI
  by_cases h : j = i
  · subst h; simp
  · rw [if_neg h]
    by_cases h2 : j < i
    · rw [if_pos h2, if_pos (by omega)]
    · rw [if_neg h2, if_neg (by omega)]
def nbN (b s : Nat) : Int := nb b s
def frB (σ : YS) (LT : Nat → Int) (c : Nat) : Bool := decide (σ 0 c = 0) && decide (LT c = 0)
abbrev St7 (σ : YS) (LT : Nat → Int) (st : Nat) (S : Nat → Int) : Prop := DistP nbN (frB σ LT) st S
