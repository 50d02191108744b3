/-- the law's end: it answers 1 -/
theorem law_1 {p : Program} {l : Launch} {e : Env} {s : State} {m : MethodId} {below : List Frame} {meth : Method} {c : Code} {D : va_G} {tys : List (ClassId × FieldType)} {b : Nat} {d : Drawn} (hd0 : s.drawn.sameBut d lw_cs) (C : Zc p (s.setDrawn d) m #[.ref b] meth c (Av s) D tys 9 cL_law RL wsL_law (some .boolean)) {lv : List (Nat × Value)} {ws : va_W} {k n : Nat} (hk : k ≤ 601024) (hn : n ≤ 7293034) :
    Zs p l e room_1 (s.setDrawn d) m #[.ref b] below meth c (lw_Z below #[.ref b] s) (Av s) D 9 1357 lv [] ws k n := by
  refine z_iconst C dL_law_1357 ?_
  intro H locs ls hP hD hS hl
  refine va_forget (fun q hq => hS.2.2 q hq) ?_
  refine W.widen hk hn ?_
  exact lw_ret hd0 C.1.1 C.1.2.1 C.2.2.2.2.1 C.2.2.2.1 dL_law_1358
