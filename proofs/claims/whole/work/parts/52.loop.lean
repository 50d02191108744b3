/-! the law's loop, and the whole -/
set_option maxHeartbeats 4000000 in
set_option maxRecDepth 100000 in
theorem law_loop {p : Program} {l : Launch} {e : Env} {s : State} {m : MethodId} {below : List Frame} {meth : Method} {c : Code} {D : va_G} {cI cJ : ClassId} {b : Nat} (C0 : Zc p s m #[.ref b] meth c (Av s) D [(cI, .int), (cJ, .long)] 9 cL_law RL wsL_law (some .boolean)) (hX0 : ZX l s (Av s)) (hW0 : WX s) {L : Nat} {xs : Nat → Int32} (hX90 : va_X b L xs s s.heap) (hbl : b < s.heap.size) (hL2 : L ≤ 2048) (h g : Nat → Nat) (a3 : Nat) :
    ∀ (d9 i : Nat) (d : Drawn) (o : Nat → Int64) (σ : YS) (LT : Nat → Int) (γ : YS) (φ : Nat → Int) (LI BR : Nat → Int) (γ2 : YS) (φ2 : Nat → Int) (θ : Int) (k n : Nat), L + 1 ≤ i + d9 → i ≤ L → s.drawn.sameBut d lw_cs → Ok σ → LR LT → LOk σ LT → LI4 LI → BR9 BR → k ≤ 19 + i → n ≤ 1359 + 6 * i → Zs p l e room_1 (s.setDrawn d) m #[.ref b] below meth c (lw_Z below #[.ref b] s) (Av s) D 9 23 (lwL b h g a3 i) [] (lwW cI cJ h g a3 o σ LT γ φ LI BR γ2 φ2 θ) k n := by
  intro d9
  induction d9 with
  | zero =>
    intro i d o σ LT γ φ LI BR γ2 φ2 θ k n hf hi
    exfalso; omega
  | succ d9 ih =>
    intro i d o σ LT γ φ LI BR γ2 φ2 θ k n hf hi0 hd0 hO hL hK hI hB hk hn
    have C : Zc p (s.setDrawn d) m #[.ref b] meth c (Av s) D [(cI, .int), (cJ, .long)] 9 cL_law RL wsL_law (some .boolean) := C0.drawn d
    have hX : ZX l (s.setDrawn d) (Av s) := ⟨hX0.1, XEs.same (u := s) rfl hX0.2.1, vx_Zq.moved (u := s) (Vm.Alike.refl _) hX0.2.2.1, vx_Zq.moved (u := s) (Vm.Alike.refl _) hX0.2.2.2⟩
    have hW9 : WX (s.setDrawn d) := WX.same (u := s) rfl hW0
    have hX9 : va_X b L xs (s.setDrawn d) (s.setDrawn d).heap := va_X.moved (u := s) (Vm.Alike.refl _) hX90
    refine z_iload C 4 dL_law_23 rfl ?_
    refine z_aload_n C 0 dL_law_25 rfl ?_
    refine z_slen C hX9 hbl (Nat.not_le.mpr hbl) dL_law_26 ?_
    refine z_iconst C dL_law_27 ?_
    refine z_isub C dL_law_28 ?_
    refine z_icmp_gt C (tgt := 1357) dL_law_29 (by decide) (by omega) (by omega) (fun _ => ?_) (fun c9 => ?_)
    · exact law_1 hd0 C (by omega) (by omega)
    have hi : i + 4 ≤ L := by omega
    have hk9 : k + 1 ≤ room_1.cells := show k + 1 ≤ 601024 by omega
    have hn9 : n + 6 ≤ room_1.slots := show n + 6 ≤ 7293034 by omega
    have kk1 : ∀ d1 : Drawn, s.drawn.sameBut d1 lw_cs → KK p l e (s.setDrawn d1) m #[.ref b] below meth c (lw_Z below #[.ref b] s) D cI cJ b h g a3 i (k + 1) (n + 6) := by
      intro d1 hd1 o1 σ1 LT1 γ1 φ1 LI1 BR1 γ3 φ3 θ1 hO1 hL1 hK1 hI1 hB1
      have C1 : Zc p (s.setDrawn d1) m #[.ref b] meth c (Av s) D [(cI, .int), (cJ, .long)] 9 cL_law RL wsL_law (some .boolean) := C0.drawn d1
      refine z_iinc C1 4 [(4, vI ((i : Int) + 4)), (0, .ref b), (1, .ref (h 0)), (2, .ref (g 0)), (3, .ref a3)] dL_law_1351 rfl (by decide) rfl ?_
      refine z_goto C1 (tgt := 23) dL_law_1354 (by decide) ?_
      refine z_sub (lv' := lwL b h g a3 (i + 4)) [1, 2, 3, 4, 0] rfl ?_
      exact ih (i + 4) d1 o1 σ1 LT1 γ1 φ1 LI1 BR1 γ3 φ3 θ1 (k + 1) (n + 6) (by omega) hi hd1 hO1 hL1 hK1 hI1 hB1 (by omega) (by omega)
    refine z_aload_n C 0 dL_law_32 rfl ?_
    refine z_iload C 4 dL_law_33 rfl ?_
    refine z_sld C hX9 hbl (Nat.not_le.mpr hbl) hL2 (by omega) dL_law_35 ?_
    refine z_bipush C dL_law_36 (by decide) ?_
    refine z_iand C (r := (xs ((i : Int).toNat) &&& 31).toInt) dL_law_38 (by show Int32.ofInt (xs ((i : Int).toNat)).toInt &&& Int32.ofInt 31 = Int32.ofInt (xs ((i : Int).toNat) &&& 31).toInt; rw [Int32.ofInt_toInt, Int32.ofInt_toInt]; try rfl) ?_
    have hv := and31 (xs ((i : Int).toNat))
    generalize (xs ((i : Int).toNat) &&& 31).toInt = v at hv ⊢
    rcases (show v = 0 ∨ v = 1 ∨ v = 2 ∨ v = 3 ∨ v = 4 ∨ v = 5 ∨ v = 6 ∨ v = 7 ∨ v = 8 ∨ v = 9 ∨ v = 10 ∨ v = 11 ∨ v = 12 ∨ v = 13 ∨ v = 14 ∨ v = 15 ∨ v = 16 ∨ v = 17 ∨ v = 18 ∨ 18 < v by omega) with rfl | rfl | rfl | rfl | rfl | rfl | rfl | rfl | rfl | rfl | rfl | rfl | rfl | rfl | rfl | rfl | rfl | rfl | rfl | hv9
    · refine z_tabIn C (off := 89) (tgt := 128) dL_law_39 (by decide) (by decide) (by decide) rfl (by decide) ?_
      exact op_set C hX hW9 hX9 hbl hL2 hi hO hL hK hI hB hk9 hn9 rfl (i32_r _) rfl (i32_r _) rfl (i32_r _) (kk1 d hd0)
    · refine z_tabIn C (off := 169) (tgt := 208) dL_law_39 (by decide) (by decide) (by decide) rfl (by decide) ?_
      exact op_lamp C hX hW9 hX9 hbl hL2 hi hO hL hK hI hB hk9 hn9 rfl (i32_r _) rfl (i32_r _) rfl (i32_r _) (kk1 d hd0)
    · refine z_tabIn C (off := 249) (tgt := 288) dL_law_39 (by decide) (by decide) (by decide) rfl (by decide) ?_
      exact op_carry C hX hW9 hX9 hbl hL2 hi hO hL hK hI hB hk9 hn9 rfl (i32_r _) rfl (i32_r _) rfl (i32_r _) (kk1 d hd0)
    · refine z_tabIn C (off := 329) (tgt := 368) dL_law_39 (by decide) (by decide) (by decide) rfl (by decide) ?_
      exact op_turn C hX hW9 hX9 hbl hL2 hi hO hL hK hI hB hk9 hn9 rfl (i32_r _) rfl (i32_r _) (kk1 d hd0)
    · refine z_tabIn C (off := 397) (tgt := 436) dL_law_39 (by decide) (by decide) (by decide) rfl (by decide) ?_
      exact op_watcher C hX hW9 hX9 hbl hL2 hi hO hL hK hI hB hk9 hn9 rfl (i32_r _) rfl (i32_r _) (kk1 d hd0)
    · refine z_tabIn C (off := 465) (tgt := 504) dL_law_39 (by decide) (by decide) (by decide) rfl (by decide) ?_
      exact op_creep C hX hW9 hX9 hbl hL2 hi hO hL hK hI hB hk9 hn9 rfl (i32_r _) rfl (i32_r _) rfl (i32_r _) (kk1 d hd0)
    · refine z_tabIn C (off := 545) (tgt := 584) dL_law_39 (by decide) (by decide) (by decide) rfl (by decide) ?_
      exact op_told C hX hW9 hX9 hbl hL2 hi hO hL hK hI hB hk9 hn9 rfl (i32_r _) rfl (i32_r _) rfl (i32_r _) (kk1 d hd0)
    · refine z_tabIn C (off := 625) (tgt := 664) dL_law_39 (by decide) (by decide) (by decide) rfl (by decide) ?_
      exact op_about C hX hW9 hX9 hbl hL2 hi hO hL hK hI hB hk9 hn9 rfl (i32_r _) rfl (i32_r _) (kk1 d hd0)
    · refine z_tabIn C (off := 693) (tgt := 732) dL_law_39 (by decide) (by decide) (by decide) rfl (by decide) ?_
      exact op_seat C hX hW9 hX9 hbl hL2 hi hO hL hK hI hB hk9 hn9 rfl (i32_r _) rfl (i32_r _) (kk1 d hd0)
    · refine z_tabIn C (off := 761) (tgt := 800) dL_law_39 (by decide) (by decide) (by decide) rfl (by decide) ?_
      exact op_sees C hX hW9 hX9 hbl hL2 hi hO hL hK hI hB hk9 hn9 rfl (i32_r _) rfl (i32_r _) (kk1 d hd0)
    · refine z_tabIn C (off := 836) (tgt := 875) dL_law_39 (by decide) (by decide) (by decide) rfl (by decide) ?_
      exact op_count C hX hW9 hX9 hbl hL2 hi hO hL hK hI hB hk9 hn9 rfl (i32_r _) (kk1 d hd0)
    · refine z_tabIn C (off := 892) (tgt := 931) dL_law_39 (by decide) (by decide) (by decide) rfl (by decide) ?_
      exact op_far C hX hW9 hX9 hbl hL2 hi hO hL hK hI hB hk9 hn9 rfl (i32_r _) rfl (i32_r _) (kk1 d hd0)
    · refine z_tabIn C (off := 960) (tgt := 999) dL_law_39 (by decide) (by decide) (by decide) rfl (by decide) ?_
      exact op_stops C hX hW9 hX9 hbl hL2 hi hO hL hK hI hB hk9 hn9 rfl (i32_r _) rfl (i32_r _) (kk1 d hd0)
    · refine z_tabIn C (off := 1028) (tgt := 1067) dL_law_39 (by decide) (by decide) (by decide) rfl (by decide) ?_
      exact op_creeps C hX hW9 hX9 hbl hL2 hi hO hL hK hI hB hk9 hn9 rfl (i32_r _) rfl (i32_r _) rfl (i32_r _) (kk1 d hd0)
    · refine z_tabIn C (off := 1108) (tgt := 1147) dL_law_39 (by decide) (by decide) (by decide) rfl (by decide) ?_
      exact op_would C hX hW9 hX9 hbl hL2 hi hO hL hK hI hB hk9 hn9 rfl (i32_r _) rfl (i32_r _) rfl (i32_r _) (kk1 d hd0)
    · refine z_tabIn C (off := 1188) (tgt := 1227) dL_law_39 (by decide) (by decide) (by decide) rfl (by decide) ?_
      exact op_advise C hX hW9 hX9 hbl hL2 hi hO hL hK hI hB hk9 hn9 rfl (i32_r _) (kk1 d hd0)
    · refine z_tabIn C (off := 1244) (tgt := 1283) dL_law_39 (by decide) (by decide) (by decide) rfl (by decide) ?_
      exact op_darkest C hX hW9 hX9 hbl hL2 hi hO hL hK hI hB hk9 hn9 (kk1 d hd0)
    · refine z_tabIn C (off := 1257) (tgt := 1296) dL_law_39 (by decide) (by decide) (by decide) rfl (by decide) ?_
      exact op_mean hd0 C hO hL hK hI hB hk9 hn9 kk1
    · refine z_tabIn C (off := 1298) (tgt := 1337) dL_law_39 (by decide) (by decide) (by decide) rfl (by decide) ?_
      exact op_digest C hX hW9 hX9 hbl hL2 hi hO hL hK hI hB hk9 hn9 (kk1 d hd0)
    · refine z_tabOut C (tgt := 1351) dL_law_39 (by omega) (Or.inr hv9) (by decide) ?_
      refine z_widen (k' := k + 1) (n' := n + 6) (Nat.le_add_right _ _) (Nat.le_add_right _ _) ?_
      exact kk1 d hd0 _ _ _ _ _ _ _ _ _ _ hO hL hK hI hB
theorem z0_Ok : Ok (fun _ _ => 0) := ⟨⟨by decide, by decide⟩, ⟨by decide, by decide⟩, fun k hk => absurd hk (by show ¬ (k : Int) < 0; omega), fun k hk => absurd hk (by show ¬ (k : Int) < 0; omega), fun c => ⟨Int.le_refl 0, (by decide : (0 : Int) ≤ 3)⟩⟩
theorem z0_LR : LR (fun _ => 0) := fun _ => ⟨Int.le_refl 0, (by decide : (0 : Int) < 16)⟩
theorem z0_LI : LI4 (fun _ => 0) := fun _ => ⟨Int.le_refl 0, (by decide : (0 : Int) ≤ 4)⟩
theorem z0_BR : BR9 (fun _ => 0) := fun _ => ⟨(by decide : (-100 : Int) ≤ 0), (by decide : (0 : Int) ≤ 100)⟩
theorem z0_LOk : LOk (fun _ _ => 0) (fun _ => 0) := fun c _ j hj => by
  have e : bt 0 j = false := by rcases (show j = 0 ∨ j = 1 ∨ j = 2 ∨ j = 3 by omega) with rfl | rfl | rfl | rfl <;> rfl
  show bt 0 j = (decide (j < 0) && _)
  rw [e, decide_eq_false (Nat.not_lt_zero j)]; rfl
set_option maxHeartbeats 4000000 in
set_option maxRecDepth 100000 in
/-- YOUR PART -/
theorem whole_start {p : Program} {e : Env} {s : State} {m : MethodId} {below : List Frame} {meth : Method} {c : Code} (l : Launch) (hflags : l.flags = flags0) {b L : Nat} {xs : Nat → Int32} (hL : L ≤ 2048) (C0 : lw_At p s m meth c b L xs) : W p l e room_1 s m #[Value.ref b] below meth c s.heap [] 0 0 (lw_Z below #[Value.ref b] s) (entryFrame m ([Value.ref b] : List Value).toArray 9) := by
  obtain ⟨hx, hcode, hret, hml, hown, hts, hX9, hbl, hlk, hgv⟩ := C0
  obtain ⟨D, cI, cJ, hK⟩ := st_K hts
  have C : Zc p s m #[.ref b] meth c (Av s) D [(cI, .int), (cJ, .long)] 9 cL_law RL wsL_law (some .boolean) := ⟨⟨hx, hcode, hml, hown, fun w hw => hts w (wsL_law_in w hw)⟩, hK, fun q hq => hq, hlk, hret, st_N hts⟩
  have hX : ZX l s (Av s) := ⟨by unfold Launch.stackTraces; rw [hflags]; decide, st_E hts hgv, st_Z hts hgv (fun a ha hq => absurd ha (Nat.not_lt.mpr hq))⟩
  have hW9 : WX s := st_W hts hgv
  have key : Zs p l e room_1 s m #[.ref b] below meth c (lw_Z below #[.ref b] s) (Av s) D 9 0 [(0, .ref b)] [] [] 0 0 := law_0 C (fun h g a3 o => law_loop C hX hW9 hX9 hbl hL h g a3 (L + 1) 0 s.drawn o (fun _ _ => 0) (fun _ => 0) (fun _ _ => 0) (fun _ => 0) (fun _ => 0) (fun _ => 0) (fun _ _ => 0) (fun _ => 0) 0 19 1359 (by omega) (Nat.zero_le _) (Drawn.sameBut.refl s.drawn lw_cs) z0_Ok z0_LR z0_LOk z0_LI z0_BR (by omega) (by omega))
  rw [lg_entry_eq]
  exact key s.heap [] _ (fun k q hq => absurd hq (by simp)) ⟨fun i j p q hp hq => absurd hp (by simp), fun k q hq => absurd hq (by simp)⟩ va_S.rf (lv_entry [Value.ref b] (Nat.le_of_ble_eq_true rfl))
