abbrev Av (s : State) : Nat → Prop := fun q => s.heap.size ≤ q
set_option maxHeartbeats 4000000 in
set_option maxRecDepth 100000 in
/-- the law up to its loop -/
theorem law_0 {p : Program} {l : Launch} {e : Env} {s : State} {m : MethodId} {args : Array Value} {below : List Frame} {meth : Method} {c : Code} {Q : State → Prop} {D : va_G} {cI cJ : ClassId} {b : Nat} (C : Zc p s m args meth c (Av s) D [(cI, .int), (cJ, .long)] 9 cL_law RL wsL_law (some .boolean))
    (h : ∀ (h g : Nat → Nat) (a3 : Nat) (o : Nat → Int64), Zs p l e room_1 s m args below meth c Q (Av s) D 9 23 [(0, .ref b), (1, .ref (h 0)), (2, .ref (g 0)), (3, .ref a3), (4, vI 0)] [] ((a3, lo cJ o) :: (cw cI h (fun _ _ => 0) (fun _ => 0) (fun _ _ => 0) (fun _ => 0) ++ mx cI g (fun _ _ => 0) (fun _ => 0) (fun _ => 0) (fun _ _ => 0) (fun _ => 0) 0)) 19 1359) :
    Zs p l e room_1 s m args below meth c Q (Av s) D 9 0 [(0, .ref b)] [] [] 0 0 := by
  refine z_new C (Cn := RX1) (T := TX1) (N := 11) (ci := 1) (fs := [.null, .null, .null, .null, .null, .null, .null, .null, .int 0, .int 0, .int 0]) (by decide +kernel) tyX1 tyX1_ok (by decide +kernel) (by decide +kernel) (by decide +kernel) rfl (fun j hj => by rcases (show j = 0 ∨ j = 1 ∨ j = 2 ∨ j = 3 ∨ j = 4 ∨ j = 5 ∨ j = 6 ∨ j = 7 ∨ j = 8 ∨ j = 9 ∨ j = 10 by omega) with rfl | rfl | rfl | rfl | rfl | rfl | rfl | rfl | rfl | rfl | rfl <;> rfl) dL_law_0 (Nat.le_of_ble_eq_true rfl) (Nat.le_of_ble_eq_true rfl) (fun q1 => ?_)
  refine z_dup C dL_law_3 rfl ?_
  refine z_callI C (y := yX1_init) (w := wsX1_init) (rm := rm_X1_init) (wr := []) (As := []) (st := [.ref q1]) (k' := 9) (n' := 610) [0] [] (c_X1_init l D cI cJ q1) ⟨callB_of 0 C.1.2.2.2.2 gL_law_X1_init rfl rfl rfl (C.1.2.2.2.2 _ (by decide +kernel)) (C.1.2.2.2.2 _ (by decide +kernel)) (by decide +kernel) ⟨Nat.le_of_ble_eq_true rfl, Nat.le_of_ble_eq_true rfl⟩, rfl, C.1.2.2.2.2 _ (by decide +kernel)⟩ rfl rfl rfl rfl rfl (by decide) rfl rfl (Nat.le_of_ble_eq_true rfl) rfl rfl ⟨Nat.le_of_ble_eq_true rfl, Nat.le_of_ble_eq_true rfl⟩ dL_law_4 ?_
  rintro _ ⟨h1, rfl, rfl⟩
  refine z_astore_n C [(1, .ref (h1 0)), (0, .ref b)] dL_law_7 (by decide) rfl ?_
  refine z_new C (Cn := RX2) (T := TX2) (N := 14) (ci := 2) (fs := [.int 0, .null, .int 0, .null, .null, .int 0, .null, .int 0, .null, .null, .null, .null, .int 0, .int 0]) (by decide +kernel) tyX2 tyX2_ok (by decide +kernel) (by decide +kernel) (by decide +kernel) rfl (fun j hj => by rcases (show j = 0 ∨ j = 1 ∨ j = 2 ∨ j = 3 ∨ j = 4 ∨ j = 5 ∨ j = 6 ∨ j = 7 ∨ j = 8 ∨ j = 9 ∨ j = 10 ∨ j = 11 ∨ j = 12 ∨ j = 13 by omega) with rfl | rfl | rfl | rfl | rfl | rfl | rfl | rfl | rfl | rfl | rfl | rfl | rfl | rfl <;> rfl) dL_law_8 (Nat.le_of_ble_eq_true rfl) (Nat.le_of_ble_eq_true rfl) (fun q2 => ?_)
  refine z_dup C dL_law_11 rfl ?_
  refine z_callI C (y := yX2_init) (w := wsX2_init) (rm := rm_X2_init) (wr := cw cI h1 (fun _ _ => 0) (fun _ => 0) (fun _ _ => 0) (fun _ => 0)) (As := []) (st := [.ref q2]) (k' := 18) (n' := 1358) [9] [0, 1, 2, 3, 4, 5, 6, 7, 8] (c_X2_init l D cI cJ q2) ⟨callB_of 0 C.1.2.2.2.2 gL_law_X2_init rfl rfl rfl (C.1.2.2.2.2 _ (by decide +kernel)) (C.1.2.2.2.2 _ (by decide +kernel)) (by decide +kernel) ⟨Nat.le_of_ble_eq_true rfl, Nat.le_of_ble_eq_true rfl⟩, rfl, C.1.2.2.2.2 _ (by decide +kernel)⟩ rfl rfl rfl rfl rfl (by decide) rfl rfl (Nat.le_of_ble_eq_true rfl) rfl rfl ⟨Nat.le_of_ble_eq_true rfl, Nat.le_of_ble_eq_true rfl⟩ dL_law_12 ?_
  rintro _ ⟨h2, rfl, rfl⟩
  refine z_astore_n C [(2, .ref (h2 0)), (1, .ref (h1 0)), (0, .ref b)] dL_law_15 (by decide) rfl ?_
  refine z_iconst C dL_law_16 ?_
  refine z_newaL C rfl (by decide +kernel) dL_law_17 (Nat.le_of_ble_eq_true rfl) (Nat.le_of_ble_eq_true rfl) (fun a3 o => ?_)
  refine z_wsub (ws' := (a3, lo cJ o) :: (cw cI h1 (fun _ _ => 0) (fun _ => 0) (fun _ _ => 0) (fun _ => 0) ++ mx cI h2 (fun _ _ => 0) (fun _ => 0) (fun _ => 0) (fun _ _ => 0) (fun _ => 0) 0)) [18, 0, 1, 2, 3, 4, 5, 6, 7, 8, 9, 10, 11, 12, 13, 14, 15, 16, 17] rfl rfl rfl ?_
  refine z_astore_n C [(3, .ref a3), (2, .ref (h2 0)), (1, .ref (h1 0)), (0, .ref b)] dL_law_19 (by decide) rfl ?_
  refine z_iconst C dL_law_20 ?_
  refine z_istore C [(4, vI 0), (3, .ref a3), (2, .ref (h2 0)), (1, .ref (h1 0)), (0, .ref b)] dL_law_21 (by decide) rfl ?_
  refine z_sub (lv' := [(0, .ref b), (1, .ref (h1 0)), (2, .ref (h2 0)), (3, .ref a3), (4, vI 0)]) [4, 3, 2, 1, 0] rfl ?_
  exact h h1 h2 a3 o
