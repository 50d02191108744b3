theorem ansI {P : Int → Prop} {a : Int} {N : Nat} (h : 0 ≤ a ∧ a < (N : Int)) (g : ∀ n : Nat, n < N → P n) : P a := by
  have := g a.toNat (by omega)
  rw [Int.toNat_of_nonneg h.1] at this
  exact this
theorem ansJ {P : Int → Prop} {a : Int} (h : -143 ≤ a ∧ a ≤ 143) (g : ∀ n : Nat, n < 287 → P ((n : Int) - 143)) : P a := by
  have := g (a + 143).toNat (by omega)
  rw [Int.toNat_of_nonneg (by omega), Int.add_sub_cancel] at this
  exact this
def wB (f t : Int) : Nat → Int := fun i => match i with
  | 0 => f % 12
  | 1 => f / 12
  | 2 => sgZ (t % 12 - f % 12)
  | 3 => sgZ (t / 12 - f / 12)
  | 4 => abZ (t % 12 - f % 12)
  | 5 => abZ (t / 12 - f / 12)
  | _ => 0
/-- the way stands at (ix, iy) between f and t -/
def WayAt (φ : Nat → Int) (f t ix iy : Int) : Prop := φ 0 = f % 12 + sgZ (t % 12 - f % 12) * ix ∧ φ 1 = f / 12 + sgZ (t / 12 - f / 12) * iy ∧ φ 2 = sgZ (t % 12 - f % 12) ∧ φ 3 = sgZ (t / 12 - f / 12) ∧ φ 4 = abZ (t % 12 - f % 12) ∧ φ 5 = abZ (t / 12 - f / 12) ∧ φ 6 = ix ∧ φ 7 = iy ∧ (0 ≤ ix ∧ ix ≤ abZ (t % 12 - f % 12)) ∧ 0 ≤ iy ∧ iy ≤ abZ (t / 12 - f / 12)
theorem way_0 (f t : Int) : WayAt (wB f t) f t 0 0 := by
  have a1 := abZ_c (t % 12 - f % 12)
  have a2 := abZ_c (t / 12 - f / 12)
  refine ⟨?_, ?_, rfl, rfl, rfl, rfl, rfl, rfl, by omega, by omega⟩
  · show f % 12 = _; simp
  · show f / 12 = _; simp
theorem sb_e {K : Nat → Int} {z c : Int} (h : z = K c.toNat) : (z = 1 → 3 = sbK K c) ∧ (z = 2 → 1 = sbK K c) ∧ (z ≠ 1 ∧ z ≠ 2 → 0 = sbK K c) := by
  subst h
  unfold sbK
  refine ⟨fun q => ?_, fun q => ?_, fun q => ?_⟩
  · rw [if_pos q]
  · rw [if_neg (by omega), if_pos q]
  · rw [if_neg q.1, if_neg q.2]
abbrev rm_J6_signum_0f7a4 : Room := { frames := 0, cells := 0, slots := 0, locals := 0 }
set_option maxHeartbeats 4000000 in
set_option maxRecDepth 100000 in
theorem c_J6_signum_0f7a4 (l : Launch) (D : va_G) (cI cJ : ClassId)  (a : Int) (ha : -143 ≤ a ∧ a ≤ 143) : Ci l yJ6_signum_0f7a4 wsJ6_signum_0f7a4 rm_J6_signum_0f7a4 D [(cI, .int), (cJ, .long)] [vI a] [] (fun z u => u = [] ∧ z = sgZ a) := by
  refine z_ofi (own := RJ6) (cc := cJ6_signum_0f7a4) (maxL := 1) (lv := [(0, vI a)]) (by decide) rfl rfl (Nat.le_of_ble_eq_true rfl) rfl ?_
  intro p e s m args below meth cd Q A C hret
  refine z_iload_n C 0 dJ6_signum_0f7a4_0 rfl ?_
  refine z_bipush C dJ6_signum_0f7a4_1 (by decide) ?_
  refine z_ishr C (r := (iI a >>> (iI 31 &&& 31)).toInt) dJ6_signum_0f7a4_3 ((Int32.ofInt_toInt _).symm) ?_
  refine z_iload_n C 0 dJ6_signum_0f7a4_4 rfl ?_
  refine z_ineg C dJ6_signum_0f7a4_5 ?_
  refine z_bipush C dJ6_signum_0f7a4_6 (by decide) ?_
  refine z_iushr C (r := (((iI (-a)).toUInt32 >>> ((iI 31).toUInt32 &&& Int32.toUInt32 31)).toInt32).toInt) dJ6_signum_0f7a4_8 ((Int32.ofInt_toInt _).symm) ?_
  refine z_ior C (r := (iI ((iI a >>> (iI 31 &&& 31)).toInt) ||| iI ((((iI (-a)).toUInt32 >>> ((iI 31).toUInt32 &&& Int32.toUInt32 31)).toInt32).toInt)).toInt) dJ6_signum_0f7a4_9 ((Int32.ofInt_toInt _).symm) ?_
  exact hret _ _ _ _ dJ6_signum_0f7a4_10 ⟨rfl, ansJ (P := fun a => (iI ((iI a >>> (iI 31 &&& 31)).toInt) ||| iI ((((iI (-a)).toUInt32 >>> ((iI 31).toUInt32 &&& Int32.toUInt32 31)).toInt32).toInt)).toInt = sgZ a) (by omega) (by decide +kernel)⟩

abbrev rm_J6_bitCount_0f7a4 : Room := { frames := 0, cells := 0, slots := 0, locals := 0 }
set_option maxHeartbeats 4000000 in
set_option maxRecDepth 100000 in
theorem c_J6_bitCount_0f7a4 (l : Launch) (D : va_G) (cI cJ : ClassId)  (a : Int) (ha : 0 ≤ a ∧ a < 16) : Ci l yJ6_bitCount_0f7a4 wsJ6_bitCount_0f7a4 rm_J6_bitCount_0f7a4 D [(cI, .int), (cJ, .long)] [vI a] [] (fun z u => u = [] ∧ z = sm (fun k => bI (bt a k)) 4) := by
  refine z_ofi (own := RJ6) (cc := cJ6_bitCount_0f7a4) (maxL := 1) (lv := [(0, vI a)]) (by decide) rfl rfl (Nat.le_of_ble_eq_true rfl) rfl ?_
  intro p e s m args below meth cd Q A C hret
  refine z_iload_n C 0 dJ6_bitCount_0f7a4_0 rfl ?_
  refine z_iload_n C 0 dJ6_bitCount_0f7a4_1 rfl ?_
  refine z_iconst C dJ6_bitCount_0f7a4_2 ?_
  refine z_iushr C (r := (((iI a).toUInt32 >>> ((iI 1).toUInt32 &&& Int32.toUInt32 31)).toInt32).toInt) dJ6_bitCount_0f7a4_3 ((Int32.ofInt_toInt _).symm) ?_
  refine z_ldcw C (v := 1431655765) (by decide +kernel) dJ6_bitCount_0f7a4_4 ?_
  refine z_iand C (r := (iI ((((iI a).toUInt32 >>> ((iI 1).toUInt32 &&& Int32.toUInt32 31)).toInt32).toInt) &&& iI 1431655765).toInt) dJ6_bitCount_0f7a4_7 ((Int32.ofInt_toInt _).symm) ?_
  refine z_isub C dJ6_bitCount_0f7a4_8 ?_
  refine z_istore_n C [(0, vI (a - ((iI ((((iI a).toUInt32 >>> ((iI 1).toUInt32 &&& Int32.toUInt32 31)).toInt32).toInt) &&& iI 1431655765).toInt)))] dJ6_bitCount_0f7a4_9 (by decide) rfl ?_
  refine z_iload_n C 0 dJ6_bitCount_0f7a4_10 rfl ?_
  refine z_ldcw C (v := 858993459) (by decide +kernel) dJ6_bitCount_0f7a4_11 ?_
  refine z_iand C (r := (iI (a - ((iI ((((iI a).toUInt32 >>> ((iI 1).toUInt32 &&& Int32.toUInt32 31)).toInt32).toInt) &&& iI 1431655765).toInt)) &&& iI 858993459).toInt) dJ6_bitCount_0f7a4_14 ((Int32.ofInt_toInt _).symm) ?_
  refine z_iload_n C 0 dJ6_bitCount_0f7a4_15 rfl ?_
  refine z_iconst C dJ6_bitCount_0f7a4_16 ?_
  refine z_iushr C (r := (((iI (a - ((iI ((((iI a).toUInt32 >>> ((iI 1).toUInt32 &&& Int32.toUInt32 31)).toInt32).toInt) &&& iI 1431655765).toInt))).toUInt32 >>> ((iI 2).toUInt32 &&& Int32.toUInt32 31)).toInt32).toInt) dJ6_bitCount_0f7a4_17 ((Int32.ofInt_toInt _).symm) ?_
  refine z_ldcw C (v := 858993459) (by decide +kernel) dJ6_bitCount_0f7a4_18 ?_
  refine z_iand C (r := (iI ((((iI (a - ((iI ((((iI a).toUInt32 >>> ((iI 1).toUInt32 &&& Int32.toUInt32 31)).toInt32).toInt) &&& iI 1431655765).toInt))).toUInt32 >>> ((iI 2).toUInt32 &&& Int32.toUInt32 31)).toInt32).toInt) &&& iI 858993459).toInt) dJ6_bitCount_0f7a4_21 ((Int32.ofInt_toInt _).symm) ?_
  refine z_iadd C dJ6_bitCount_0f7a4_22 ?_
  refine z_istore_n C [(0, vI (((iI (a - ((iI ((((iI a).toUInt32 >>> ((iI 1).toUInt32 &&& Int32.toUInt32 31)).toInt32).toInt) &&& iI 1431655765).toInt)) &&& iI 858993459).toInt) + ((iI ((((iI (a - ((iI ((((iI a).toUInt32 >>> ((iI 1).toUInt32 &&& Int32.toUInt32 31)).toInt32).toInt) &&& iI 1431655765).toInt))).toUInt32 >>> ((iI 2).toUInt32 &&& Int32.toUInt32 31)).toInt32).toInt) &&& iI 858993459).toInt)))] dJ6_bitCount_0f7a4_23 (by decide) rfl ?_
  refine z_iload_n C 0 dJ6_bitCount_0f7a4_24 rfl ?_
  refine z_iload_n C 0 dJ6_bitCount_0f7a4_25 rfl ?_
  refine z_iconst C dJ6_bitCount_0f7a4_26 ?_
  refine z_iushr C (r := (((iI (((iI (a - ((iI ((((iI a).toUInt32 >>> ((iI 1).toUInt32 &&& Int32.toUInt32 31)).toInt32).toInt) &&& iI 1431655765).toInt)) &&& iI 858993459).toInt) + ((iI ((((iI (a - ((iI ((((iI a).toUInt32 >>> ((iI 1).toUInt32 &&& Int32.toUInt32 31)).toInt32).toInt) &&& iI 1431655765).toInt))).toUInt32 >>> ((iI 2).toUInt32 &&& Int32.toUInt32 31)).toInt32).toInt) &&& iI 858993459).toInt))).toUInt32 >>> ((iI 4).toUInt32 &&& Int32.toUInt32 31)).toInt32).toInt) dJ6_bitCount_0f7a4_27 ((Int32.ofInt_toInt _).symm) ?_
  refine z_iadd C dJ6_bitCount_0f7a4_28 ?_
  refine z_ldcw C (v := 252645135) (by decide +kernel) dJ6_bitCount_0f7a4_29 ?_
  refine z_iand C (r := (iI ((((iI (a - ((iI ((((iI a).toUInt32 >>> ((iI 1).toUInt32 &&& Int32.toUInt32 31)).toInt32).toInt) &&& iI 1431655765).toInt)) &&& iI 858993459).toInt) + ((iI ((((iI (a - ((iI ((((iI a).toUInt32 >>> ((iI 1).toUInt32 &&& Int32.toUInt32 31)).toInt32).toInt) &&& iI 1431655765).toInt))).toUInt32 >>> ((iI 2).toUInt32 &&& Int32.toUInt32 31)).toInt32).toInt) &&& iI 858993459).toInt)) + ((((iI (((iI (a - ((iI ((((iI a).toUInt32 >>> ((iI 1).toUInt32 &&& Int32.toUInt32 31)).toInt32).toInt) &&& iI 1431655765).toInt)) &&& iI 858993459).toInt) + ((iI ((((iI (a - ((iI ((((iI a).toUInt32 >>> ((iI 1).toUInt32 &&& Int32.toUInt32 31)).toInt32).toInt) &&& iI 1431655765).toInt))).toUInt32 >>> ((iI 2).toUInt32 &&& Int32.toUInt32 31)).toInt32).toInt) &&& iI 858993459).toInt))).toUInt32 >>> ((iI 4).toUInt32 &&& Int32.toUInt32 31)).toInt32).toInt)) &&& iI 252645135).toInt) dJ6_bitCount_0f7a4_32 ((Int32.ofInt_toInt _).symm) ?_
  refine z_istore_n C [(0, vI ((iI ((((iI (a - ((iI ((((iI a).toUInt32 >>> ((iI 1).toUInt32 &&& Int32.toUInt32 31)).toInt32).toInt) &&& iI 1431655765).toInt)) &&& iI 858993459).toInt) + ((iI ((((iI (a - ((iI ((((iI a).toUInt32 >>> ((iI 1).toUInt32 &&& Int32.toUInt32 31)).toInt32).toInt) &&& iI 1431655765).toInt))).toUInt32 >>> ((iI 2).toUInt32 &&& Int32.toUInt32 31)).toInt32).toInt) &&& iI 858993459).toInt)) + ((((iI (((iI (a - ((iI ((((iI a).toUInt32 >>> ((iI 1).toUInt32 &&& Int32.toUInt32 31)).toInt32).toInt) &&& iI 1431655765).toInt)) &&& iI 858993459).toInt) + ((iI ((((iI (a - ((iI ((((iI a).toUInt32 >>> ((iI 1).toUInt32 &&& Int32.toUInt32 31)).toInt32).toInt) &&& iI 1431655765).toInt))).toUInt32 >>> ((iI 2).toUInt32 &&& Int32.toUInt32 31)).toInt32).toInt) &&& iI 858993459).toInt))).toUInt32 >>> ((iI 4).toUInt32 &&& Int32.toUInt32 31)).toInt32).toInt)) &&& iI 252645135).toInt))] dJ6_bitCount_0f7a4_33 (by decide) rfl ?_
  refine z_iload_n C 0 dJ6_bitCount_0f7a4_34 rfl ?_
  refine z_iload_n C 0 dJ6_bitCount_0f7a4_35 rfl ?_
  refine z_bipush C dJ6_bitCount_0f7a4_36 (by decide) ?_
  refine z_iushr C (r := (((iI ((iI ((((iI (a - ((iI ((((iI a).toUInt32 >>> ((iI 1).toUInt32 &&& Int32.toUInt32 31)).toInt32).toInt) &&& iI 1431655765).toInt)) &&& iI 858993459).toInt) + ((iI ((((iI (a - ((iI ((((iI a).toUInt32 >>> ((iI 1).toUInt32 &&& Int32.toUInt32 31)).toInt32).toInt) &&& iI 1431655765).toInt))).toUInt32 >>> ((iI 2).toUInt32 &&& Int32.toUInt32 31)).toInt32).toInt) &&& iI 858993459).toInt)) + ((((iI (((iI (a - ((iI ((((iI a).toUInt32 >>> ((iI 1).toUInt32 &&& Int32.toUInt32 31)).toInt32).toInt) &&& iI 1431655765).toInt)) &&& iI 858993459).toInt) + ((iI ((((iI (a - ((iI ((((iI a).toUInt32 >>> ((iI 1).toUInt32 &&& Int32.toUInt32 31)).toInt32).toInt) &&& iI 1431655765).toInt))).toUInt32 >>> ((iI 2).toUInt32 &&& Int32.toUInt32 31)).toInt32).toInt) &&& iI 858993459).toInt))).toUInt32 >>> ((iI 4).toUInt32 &&& Int32.toUInt32 31)).toInt32).toInt)) &&& iI 252645135).toInt)).toUInt32 >>> ((iI 8).toUInt32 &&& Int32.toUInt32 31)).toInt32).toInt) dJ6_bitCount_0f7a4_38 ((Int32.ofInt_toInt _).symm) ?_
  refine z_iadd C dJ6_bitCount_0f7a4_39 ?_
  refine z_istore_n C [(0, vI (((iI ((((iI (a - ((iI ((((iI a).toUInt32 >>> ((iI 1).toUInt32 &&& Int32.toUInt32 31)).toInt32).toInt) &&& iI 1431655765).toInt)) &&& iI 858993459).toInt) + ((iI ((((iI (a - ((iI ((((iI a).toUInt32 >>> ((iI 1).toUInt32 &&& Int32.toUInt32 31)).toInt32).toInt) &&& iI 1431655765).toInt))).toUInt32 >>> ((iI 2).toUInt32 &&& Int32.toUInt32 31)).toInt32).toInt) &&& iI 858993459).toInt)) + ((((iI (((iI (a - ((iI ((((iI a).toUInt32 >>> ((iI 1).toUInt32 &&& Int32.toUInt32 31)).toInt32).toInt) &&& iI 1431655765).toInt)) &&& iI 858993459).toInt) + ((iI ((((iI (a - ((iI ((((iI a).toUInt32 >>> ((iI 1).toUInt32 &&& Int32.toUInt32 31)).toInt32).toInt) &&& iI 1431655765).toInt))).toUInt32 >>> ((iI 2).toUInt32 &&& Int32.toUInt32 31)).toInt32).toInt) &&& iI 858993459).toInt))).toUInt32 >>> ((iI 4).toUInt32 &&& Int32.toUInt32 31)).toInt32).toInt)) &&& iI 252645135).toInt) + ((((iI ((iI ((((iI (a - ((iI ((((iI a).toUInt32 >>> ((iI 1).toUInt32 &&& Int32.toUInt32 31)).toInt32).toInt) &&& iI 1431655765).toInt)) &&& iI 858993459).toInt) + ((iI ((((iI (a - ((iI ((((iI a).toUInt32 >>> ((iI 1).toUInt32 &&& Int32.toUInt32 31)).toInt32).toInt) &&& iI 1431655765).toInt))).toUInt32 >>> ((iI 2).toUInt32 &&& Int32.toUInt32 31)).toInt32).toInt) &&& iI 858993459).toInt)) + ((((iI (((iI (a - ((iI ((((iI a).toUInt32 >>> ((iI 1).toUInt32 &&& Int32.toUInt32 31)).toInt32).toInt) &&& iI 1431655765).toInt)) &&& iI 858993459).toInt) + ((iI ((((iI (a - ((iI ((((iI a).toUInt32 >>> ((iI 1).toUInt32 &&& Int32.toUInt32 31)).toInt32).toInt) &&& iI 1431655765).toInt))).toUInt32 >>> ((iI 2).toUInt32 &&& Int32.toUInt32 31)).toInt32).toInt) &&& iI 858993459).toInt))).toUInt32 >>> ((iI 4).toUInt32 &&& Int32.toUInt32 31)).toInt32).toInt)) &&& iI 252645135).toInt)).toUInt32 >>> ((iI 8).toUInt32 &&& Int32.toUInt32 31)).toInt32).toInt)))] dJ6_bitCount_0f7a4_40 (by decide) rfl ?_
  refine z_iload_n C 0 dJ6_bitCount_0f7a4_41 rfl ?_
  refine z_iload_n C 0 dJ6_bitCount_0f7a4_42 rfl ?_
  refine z_bipush C dJ6_bitCount_0f7a4_43 (by decide) ?_
  refine z_iushr C (r := (((iI (((iI ((((iI (a - ((iI ((((iI a).toUInt32 >>> ((iI 1).toUInt32 &&& Int32.toUInt32 31)).toInt32).toInt) &&& iI 1431655765).toInt)) &&& iI 858993459).toInt) + ((iI ((((iI (a - ((iI ((((iI a).toUInt32 >>> ((iI 1).toUInt32 &&& Int32.toUInt32 31)).toInt32).toInt) &&& iI 1431655765).toInt))).toUInt32 >>> ((iI 2).toUInt32 &&& Int32.toUInt32 31)).toInt32).toInt) &&& iI 858993459).toInt)) + ((((iI (((iI (a - ((iI ((((iI a).toUInt32 >>> ((iI 1).toUInt32 &&& Int32.toUInt32 31)).toInt32).toInt) &&& iI 1431655765).toInt)) &&& iI 858993459).toInt) + ((iI ((((iI (a - ((iI ((((iI a).toUInt32 >>> ((iI 1).toUInt32 &&& Int32.toUInt32 31)).toInt32).toInt) &&& iI 1431655765).toInt))).toUInt32 >>> ((iI 2).toUInt32 &&& Int32.toUInt32 31)).toInt32).toInt) &&& iI 858993459).toInt))).toUInt32 >>> ((iI 4).toUInt32 &&& Int32.toUInt32 31)).toInt32).toInt)) &&& iI 252645135).toInt) + ((((iI ((iI ((((iI (a - ((iI ((((iI a).toUInt32 >>> ((iI 1).toUInt32 &&& Int32.toUInt32 31)).toInt32).toInt) &&& iI 1431655765).toInt)) &&& iI 858993459).toInt) + ((iI ((((iI (a - ((iI ((((iI a).toUInt32 >>> ((iI 1).toUInt32 &&& Int32.toUInt32 31)).toInt32).toInt) &&& iI 1431655765).toInt))).toUInt32 >>> ((iI 2).toUInt32 &&& Int32.toUInt32 31)).toInt32).toInt) &&& iI 858993459).toInt)) + ((((iI (((iI (a - ((iI ((((iI a).toUInt32 >>> ((iI 1).toUInt32 &&& Int32.toUInt32 31)).toInt32).toInt) &&& iI 1431655765).toInt)) &&& iI 858993459).toInt) + ((iI ((((iI (a - ((iI ((((iI a).toUInt32 >>> ((iI 1).toUInt32 &&& Int32.toUInt32 31)).toInt32).toInt) &&& iI 1431655765).toInt))).toUInt32 >>> ((iI 2).toUInt32 &&& Int32.toUInt32 31)).toInt32).toInt) &&& iI 858993459).toInt))).toUInt32 >>> ((iI 4).toUInt32 &&& Int32.toUInt32 31)).toInt32).toInt)) &&& iI 252645135).toInt)).toUInt32 >>> ((iI 8).toUInt32 &&& Int32.toUInt32 31)).toInt32).toInt))).toUInt32 >>> ((iI 16).toUInt32 &&& Int32.toUInt32 31)).toInt32).toInt) dJ6_bitCount_0f7a4_45 ((Int32.ofInt_toInt _).symm) ?_
  refine z_iadd C dJ6_bitCount_0f7a4_46 ?_
  refine z_istore_n C [(0, vI ((((iI ((((iI (a - ((iI ((((iI a).toUInt32 >>> ((iI 1).toUInt32 &&& Int32.toUInt32 31)).toInt32).toInt) &&& iI 1431655765).toInt)) &&& iI 858993459).toInt) + ((iI ((((iI (a - ((iI ((((iI a).toUInt32 >>> ((iI 1).toUInt32 &&& Int32.toUInt32 31)).toInt32).toInt) &&& iI 1431655765).toInt))).toUInt32 >>> ((iI 2).toUInt32 &&& Int32.toUInt32 31)).toInt32).toInt) &&& iI 858993459).toInt)) + ((((iI (((iI (a - ((iI ((((iI a).toUInt32 >>> ((iI 1).toUInt32 &&& Int32.toUInt32 31)).toInt32).toInt) &&& iI 1431655765).toInt)) &&& iI 858993459).toInt) + ((iI ((((iI (a - ((iI ((((iI a).toUInt32 >>> ((iI 1).toUInt32 &&& Int32.toUInt32 31)).toInt32).toInt) &&& iI 1431655765).toInt))).toUInt32 >>> ((iI 2).toUInt32 &&& Int32.toUInt32 31)).toInt32).toInt) &&& iI 858993459).toInt))).toUInt32 >>> ((iI 4).toUInt32 &&& Int32.toUInt32 31)).toInt32).toInt)) &&& iI 252645135).toInt) + ((((iI ((iI ((((iI (a - ((iI ((((iI a).toUInt32 >>> ((iI 1).toUInt32 &&& Int32.toUInt32 31)).toInt32).toInt) &&& iI 1431655765).toInt)) &&& iI 858993459).toInt) + ((iI ((((iI (a - ((iI ((((iI a).toUInt32 >>> ((iI 1).toUInt32 &&& Int32.toUInt32 31)).toInt32).toInt) &&& iI 1431655765).toInt))).toUInt32 >>> ((iI 2).toUInt32 &&& Int32.toUInt32 31)).toInt32).toInt) &&& iI 858993459).toInt)) + ((((iI (((iI (a - ((iI ((((iI a).toUInt32 >>> ((iI 1).toUInt32 &&& Int32.toUInt32 31)).toInt32).toInt) &&& iI 1431655765).toInt)) &&& iI 858993459).toInt) + ((iI ((((iI (a - ((iI ((((iI a).toUInt32 >>> ((iI 1).toUInt32 &&& Int32.toUInt32 31)).toInt32).toInt) &&& iI 1431655765).toInt))).toUInt32 >>> ((iI 2).toUInt32 &&& Int32.toUInt32 31)).toInt32).toInt) &&& iI 858993459).toInt))).toUInt32 >>> ((iI 4).toUInt32 &&& Int32.toUInt32 31)).toInt32).toInt)) &&& iI 252645135).toInt)).toUInt32 >>> ((iI 8).toUInt32 &&& Int32.toUInt32 31)).toInt32).toInt)) + ((((iI (((iI ((((iI (a - ((iI ((((iI a).toUInt32 >>> ((iI 1).toUInt32 &&& Int32.toUInt32 31)).toInt32).toInt) &&& iI 1431655765).toInt)) &&& iI 858993459).toInt) + ((iI ((((iI (a - ((iI ((((iI a).toUInt32 >>> ((iI 1).toUInt32 &&& Int32.toUInt32 31)).toInt32).toInt) &&& iI 1431655765).toInt))).toUInt32 >>> ((iI 2).toUInt32 &&& Int32.toUInt32 31)).toInt32).toInt) &&& iI 858993459).toInt)) + ((((iI (((iI (a - ((iI ((((iI a).toUInt32 >>> ((iI 1).toUInt32 &&& Int32.toUInt32 31)).toInt32).toInt) &&& iI 1431655765).toInt)) &&& iI 858993459).toInt) + ((iI ((((iI (a - ((iI ((((iI a).toUInt32 >>> ((iI 1).toUInt32 &&& Int32.toUInt32 31)).toInt32).toInt) &&& iI 1431655765).toInt))).toUInt32 >>> ((iI 2).toUInt32 &&& Int32.toUInt32 31)).toInt32).toInt) &&& iI 858993459).toInt))).toUInt32 >>> ((iI 4).toUInt32 &&& Int32.toUInt32 31)).toInt32).toInt)) &&& iI 252645135).toInt) + ((((iI ((iI ((((iI (a - ((iI ((((iI a).toUInt32 >>> ((iI 1).toUInt32 &&& Int32.toUInt32 31)).toInt32).toInt) &&& iI 1431655765).toInt)) &&& iI 858993459).toInt) + ((iI ((((iI (a - ((iI ((((iI a).toUInt32 >>> ((iI 1).toUInt32 &&& Int32.toUInt32 31)).toInt32).toInt) &&& iI 1431655765).toInt))).toUInt32 >>> ((iI 2).toUInt32 &&& Int32.toUInt32 31)).toInt32).toInt) &&& iI 858993459).toInt)) + ((((iI (((iI (a - ((iI ((((iI a).toUInt32 >>> ((iI 1).toUInt32 &&& Int32.toUInt32 31)).toInt32).toInt) &&& iI 1431655765).toInt)) &&& iI 858993459).toInt) + ((iI ((((iI (a - ((iI ((((iI a).toUInt32 >>> ((iI 1).toUInt32 &&& Int32.toUInt32 31)).toInt32).toInt) &&& iI 1431655765).toInt))).toUInt32 >>> ((iI 2).toUInt32 &&& Int32.toUInt32 31)).toInt32).toInt) &&& iI 858993459).toInt))).toUInt32 >>> ((iI 4).toUInt32 &&& Int32.toUInt32 31)).toInt32).toInt)) &&& iI 252645135).toInt)).toUInt32 >>> ((iI 8).toUInt32 &&& Int32.toUInt32 31)).toInt32).toInt))).toUInt32 >>> ((iI 16).toUInt32 &&& Int32.toUInt32 31)).toInt32).toInt)))] dJ6_bitCount_0f7a4_47 (by decide) rfl ?_
  refine z_iload_n C 0 dJ6_bitCount_0f7a4_48 rfl ?_
  refine z_bipush C dJ6_bitCount_0f7a4_49 (by decide) ?_
  refine z_iand C (r := (iI ((((iI ((((iI (a - ((iI ((((iI a).toUInt32 >>> ((iI 1).toUInt32 &&& Int32.toUInt32 31)).toInt32).toInt) &&& iI 1431655765).toInt)) &&& iI 858993459).toInt) + ((iI ((((iI (a - ((iI ((((iI a).toUInt32 >>> ((iI 1).toUInt32 &&& Int32.toUInt32 31)).toInt32).toInt) &&& iI 1431655765).toInt))).toUInt32 >>> ((iI 2).toUInt32 &&& Int32.toUInt32 31)).toInt32).toInt) &&& iI 858993459).toInt)) + ((((iI (((iI (a - ((iI ((((iI a).toUInt32 >>> ((iI 1).toUInt32 &&& Int32.toUInt32 31)).toInt32).toInt) &&& iI 1431655765).toInt)) &&& iI 858993459).toInt) + ((iI ((((iI (a - ((iI ((((iI a).toUInt32 >>> ((iI 1).toUInt32 &&& Int32.toUInt32 31)).toInt32).toInt) &&& iI 1431655765).toInt))).toUInt32 >>> ((iI 2).toUInt32 &&& Int32.toUInt32 31)).toInt32).toInt) &&& iI 858993459).toInt))).toUInt32 >>> ((iI 4).toUInt32 &&& Int32.toUInt32 31)).toInt32).toInt)) &&& iI 252645135).toInt) + ((((iI ((iI ((((iI (a - ((iI ((((iI a).toUInt32 >>> ((iI 1).toUInt32 &&& Int32.toUInt32 31)).toInt32).toInt) &&& iI 1431655765).toInt)) &&& iI 858993459).toInt) + ((iI ((((iI (a - ((iI ((((iI a).toUInt32 >>> ((iI 1).toUInt32 &&& Int32.toUInt32 31)).toInt32).toInt) &&& iI 1431655765).toInt))).toUInt32 >>> ((iI 2).toUInt32 &&& Int32.toUInt32 31)).toInt32).toInt) &&& iI 858993459).toInt)) + ((((iI (((iI (a - ((iI ((((iI a).toUInt32 >>> ((iI 1).toUInt32 &&& Int32.toUInt32 31)).toInt32).toInt) &&& iI 1431655765).toInt)) &&& iI 858993459).toInt) + ((iI ((((iI (a - ((iI ((((iI a).toUInt32 >>> ((iI 1).toUInt32 &&& Int32.toUInt32 31)).toInt32).toInt) &&& iI 1431655765).toInt))).toUInt32 >>> ((iI 2).toUInt32 &&& Int32.toUInt32 31)).toInt32).toInt) &&& iI 858993459).toInt))).toUInt32 >>> ((iI 4).toUInt32 &&& Int32.toUInt32 31)).toInt32).toInt)) &&& iI 252645135).toInt)).toUInt32 >>> ((iI 8).toUInt32 &&& Int32.toUInt32 31)).toInt32).toInt)) + ((((iI (((iI ((((iI (a - ((iI ((((iI a).toUInt32 >>> ((iI 1).toUInt32 &&& Int32.toUInt32 31)).toInt32).toInt) &&& iI 1431655765).toInt)) &&& iI 858993459).toInt) + ((iI ((((iI (a - ((iI ((((iI a).toUInt32 >>> ((iI 1).toUInt32 &&& Int32.toUInt32 31)).toInt32).toInt) &&& iI 1431655765).toInt))).toUInt32 >>> ((iI 2).toUInt32 &&& Int32.toUInt32 31)).toInt32).toInt) &&& iI 858993459).toInt)) + ((((iI (((iI (a - ((iI ((((iI a).toUInt32 >>> ((iI 1).toUInt32 &&& Int32.toUInt32 31)).toInt32).toInt) &&& iI 1431655765).toInt)) &&& iI 858993459).toInt) + ((iI ((((iI (a - ((iI ((((iI a).toUInt32 >>> ((iI 1).toUInt32 &&& Int32.toUInt32 31)).toInt32).toInt) &&& iI 1431655765).toInt))).toUInt32 >>> ((iI 2).toUInt32 &&& Int32.toUInt32 31)).toInt32).toInt) &&& iI 858993459).toInt))).toUInt32 >>> ((iI 4).toUInt32 &&& Int32.toUInt32 31)).toInt32).toInt)) &&& iI 252645135).toInt) + ((((iI ((iI ((((iI (a - ((iI ((((iI a).toUInt32 >>> ((iI 1).toUInt32 &&& Int32.toUInt32 31)).toInt32).toInt) &&& iI 1431655765).toInt)) &&& iI 858993459).toInt) + ((iI ((((iI (a - ((iI ((((iI a).toUInt32 >>> ((iI 1).toUInt32 &&& Int32.toUInt32 31)).toInt32).toInt) &&& iI 1431655765).toInt))).toUInt32 >>> ((iI 2).toUInt32 &&& Int32.toUInt32 31)).toInt32).toInt) &&& iI 858993459).toInt)) + ((((iI (((iI (a - ((iI ((((iI a).toUInt32 >>> ((iI 1).toUInt32 &&& Int32.toUInt32 31)).toInt32).toInt) &&& iI 1431655765).toInt)) &&& iI 858993459).toInt) + ((iI ((((iI (a - ((iI ((((iI a).toUInt32 >>> ((iI 1).toUInt32 &&& Int32.toUInt32 31)).toInt32).toInt) &&& iI 1431655765).toInt))).toUInt32 >>> ((iI 2).toUInt32 &&& Int32.toUInt32 31)).toInt32).toInt) &&& iI 858993459).toInt))).toUInt32 >>> ((iI 4).toUInt32 &&& Int32.toUInt32 31)).toInt32).toInt)) &&& iI 252645135).toInt)).toUInt32 >>> ((iI 8).toUInt32 &&& Int32.toUInt32 31)).toInt32).toInt))).toUInt32 >>> ((iI 16).toUInt32 &&& Int32.toUInt32 31)).toInt32).toInt)) &&& iI 63).toInt) dJ6_bitCount_0f7a4_51 ((Int32.ofInt_toInt _).symm) ?_
  exact hret _ _ _ _ dJ6_bitCount_0f7a4_52 ⟨rfl, ansI (N := 16) (P := fun a => (iI ((((iI ((((iI (a - ((iI ((((iI a).toUInt32 >>> ((iI 1).toUInt32 &&& Int32.toUInt32 31)).toInt32).toInt) &&& iI 1431655765).toInt)) &&& iI 858993459).toInt) + ((iI ((((iI (a - ((iI ((((iI a).toUInt32 >>> ((iI 1).toUInt32 &&& Int32.toUInt32 31)).toInt32).toInt) &&& iI 1431655765).toInt))).toUInt32 >>> ((iI 2).toUInt32 &&& Int32.toUInt32 31)).toInt32).toInt) &&& iI 858993459).toInt)) + ((((iI (((iI (a - ((iI ((((iI a).toUInt32 >>> ((iI 1).toUInt32 &&& Int32.toUInt32 31)).toInt32).toInt) &&& iI 1431655765).toInt)) &&& iI 858993459).toInt) + ((iI ((((iI (a - ((iI ((((iI a).toUInt32 >>> ((iI 1).toUInt32 &&& Int32.toUInt32 31)).toInt32).toInt) &&& iI 1431655765).toInt))).toUInt32 >>> ((iI 2).toUInt32 &&& Int32.toUInt32 31)).toInt32).toInt) &&& iI 858993459).toInt))).toUInt32 >>> ((iI 4).toUInt32 &&& Int32.toUInt32 31)).toInt32).toInt)) &&& iI 252645135).toInt) + ((((iI ((iI ((((iI (a - ((iI ((((iI a).toUInt32 >>> ((iI 1).toUInt32 &&& Int32.toUInt32 31)).toInt32).toInt) &&& iI 1431655765).toInt)) &&& iI 858993459).toInt) + ((iI ((((iI (a - ((iI ((((iI a).toUInt32 >>> ((iI 1).toUInt32 &&& Int32.toUInt32 31)).toInt32).toInt) &&& iI 1431655765).toInt))).toUInt32 >>> ((iI 2).toUInt32 &&& Int32.toUInt32 31)).toInt32).toInt) &&& iI 858993459).toInt)) + ((((iI (((iI (a - ((iI ((((iI a).toUInt32 >>> ((iI 1).toUInt32 &&& Int32.toUInt32 31)).toInt32).toInt) &&& iI 1431655765).toInt)) &&& iI 858993459).toInt) + ((iI ((((iI (a - ((iI ((((iI a).toUInt32 >>> ((iI 1).toUInt32 &&& Int32.toUInt32 31)).toInt32).toInt) &&& iI 1431655765).toInt))).toUInt32 >>> ((iI 2).toUInt32 &&& Int32.toUInt32 31)).toInt32).toInt) &&& iI 858993459).toInt))).toUInt32 >>> ((iI 4).toUInt32 &&& Int32.toUInt32 31)).toInt32).toInt)) &&& iI 252645135).toInt)).toUInt32 >>> ((iI 8).toUInt32 &&& Int32.toUInt32 31)).toInt32).toInt)) + ((((iI (((iI ((((iI (a - ((iI ((((iI a).toUInt32 >>> ((iI 1).toUInt32 &&& Int32.toUInt32 31)).toInt32).toInt) &&& iI 1431655765).toInt)) &&& iI 858993459).toInt) + ((iI ((((iI (a - ((iI ((((iI a).toUInt32 >>> ((iI 1).toUInt32 &&& Int32.toUInt32 31)).toInt32).toInt) &&& iI 1431655765).toInt))).toUInt32 >>> ((iI 2).toUInt32 &&& Int32.toUInt32 31)).toInt32).toInt) &&& iI 858993459).toInt)) + ((((iI (((iI (a - ((iI ((((iI a).toUInt32 >>> ((iI 1).toUInt32 &&& Int32.toUInt32 31)).toInt32).toInt) &&& iI 1431655765).toInt)) &&& iI 858993459).toInt) + ((iI ((((iI (a - ((iI ((((iI a).toUInt32 >>> ((iI 1).toUInt32 &&& Int32.toUInt32 31)).toInt32).toInt) &&& iI 1431655765).toInt))).toUInt32 >>> ((iI 2).toUInt32 &&& Int32.toUInt32 31)).toInt32).toInt) &&& iI 858993459).toInt))).toUInt32 >>> ((iI 4).toUInt32 &&& Int32.toUInt32 31)).toInt32).toInt)) &&& iI 252645135).toInt) + ((((iI ((iI ((((iI (a - ((iI ((((iI a).toUInt32 >>> ((iI 1).toUInt32 &&& Int32.toUInt32 31)).toInt32).toInt) &&& iI 1431655765).toInt)) &&& iI 858993459).toInt) + ((iI ((((iI (a - ((iI ((((iI a).toUInt32 >>> ((iI 1).toUInt32 &&& Int32.toUInt32 31)).toInt32).toInt) &&& iI 1431655765).toInt))).toUInt32 >>> ((iI 2).toUInt32 &&& Int32.toUInt32 31)).toInt32).toInt) &&& iI 858993459).toInt)) + ((((iI (((iI (a - ((iI ((((iI a).toUInt32 >>> ((iI 1).toUInt32 &&& Int32.toUInt32 31)).toInt32).toInt) &&& iI 1431655765).toInt)) &&& iI 858993459).toInt) + ((iI ((((iI (a - ((iI ((((iI a).toUInt32 >>> ((iI 1).toUInt32 &&& Int32.toUInt32 31)).toInt32).toInt) &&& iI 1431655765).toInt))).toUInt32 >>> ((iI 2).toUInt32 &&& Int32.toUInt32 31)).toInt32).toInt) &&& iI 858993459).toInt))).toUInt32 >>> ((iI 4).toUInt32 &&& Int32.toUInt32 31)).toInt32).toInt)) &&& iI 252645135).toInt)).toUInt32 >>> ((iI 8).toUInt32 &&& Int32.toUInt32 31)).toInt32).toInt))).toUInt32 >>> ((iI 16).toUInt32 &&& Int32.toUInt32 31)).toInt32).toInt)) &&& iI 63).toInt = sm (fun k => bI (bt a k)) 4) (by omega) (by decide +kernel)⟩

set_option maxRecDepth 100000 in
theorem inU_X0_X0_begin : ∀ w ∈ u_ws RX0 TX0 9, w ∈ wsX0_begin := by decide +kernel
abbrev rm_X0_begin : Room := { frames := 1, cells := 0, slots := 0, locals := 24 }
set_option maxHeartbeats 4000000 in
set_option maxRecDepth 100000 in
theorem c_X0_begin (l : Launch) (D : va_G) (cI cJ : ClassId) (a : Nat) (φ : Nat → Int) (f t : Int) (hf : 0 ≤ f ∧ f < 144) (ht : 0 ≤ t ∧ t < 144) : Cv l yX0_begin wsX0_begin rm_X0_begin D [(cI, .int), (cJ, .long)] [.ref a, vI f, vI t] (ww a φ) (fun u => u = (ww a (wB f t))) := by
  refine z_ofv (own := RX0) (cc := cX0_begin) (maxL := 3) (lv := [(0, .ref a), (1, vI f), (2, vI t)]) (by decide) rfl rfl (Nat.le_of_ble_eq_true rfl) rfl ?_
  intro p e s m args below meth cd Q A C hret
  refine z_aload_n C 0 dX0_begin_0 rfl ?_
  refine z_iload_n C 1 dX0_begin_1 rfl ?_
  refine z_callNi C (host := RX1) (As := [vI f]) (st := [.ref a]) (y := yX1_columnOf) (w := wsX1_columnOf) (rm := rm_X1_columnOf) (wr := (ww a φ)) (k' := 0) (n' := 0) [] [0] (c_X1_columnOf l D cI cJ  f (by omega)) ⟨va_cnB 1 C.1.2.2.2.2 gX0_begin_X1_columnOf_n7 rfl rfl rfl (C.2.2.2.2.2 _ (by decide +kernel)) (C.1.2.2.2.2 _ (by decide +kernel)) (by decide +kernel) ⟨Nat.le_of_ble_eq_true rfl, Nat.le_of_ble_eq_true rfl⟩, C.1.2.2.2.2 _ (by decide +kernel), trivial⟩ rfl rfl rfl rfl rfl (by decide) rfl rfl (Nat.le_of_ble_eq_true rfl) rfl rfl ⟨Nat.le_of_ble_eq_true rfl, Nat.le_of_ble_eq_true rfl⟩ dX0_begin_2 ?_
  rintro z_2 _ ⟨rfl, rfl⟩
  refine z_ws (ws' := (ww a φ)) rfl ?_
  refine z_st (v' := (f % 12)) rfl ?_
  refine z_put C (ref := "ShadowWalls$Way") (T := TX0) (N := 9) (ci := 0) (ty := .int) (ws' := (ww a (fU φ 0 (f % 12)))) 0 0 inU_X0_X0_begin tyX0 tyX0_ok nmX0 rfl rfl (by decide) (by decide +kernel) (fun _ h9 => h9) rfl (by decide +kernel) (rfl) (rfl) (Nat.le_of_ble_eq_true rfl) rfl dX0_begin_5 ?_
  refine z_aload_n C 0 dX0_begin_8 rfl ?_
  refine z_iload_n C 1 dX0_begin_9 rfl ?_
  refine z_callNi C (host := RX1) (As := [vI f]) (st := [.ref a]) (y := yX1_rowOf) (w := wsX1_rowOf) (rm := rm_X1_rowOf) (wr := (ww a (fU φ 0 (f % 12)))) (k' := 0) (n' := 0) [] [0] (c_X1_rowOf l D cI cJ  f (by omega)) ⟨va_cnB 1 C.1.2.2.2.2 gX0_begin_X1_rowOf_n19 rfl rfl rfl (C.2.2.2.2.2 _ (by decide +kernel)) (C.1.2.2.2.2 _ (by decide +kernel)) (by decide +kernel) ⟨Nat.le_of_ble_eq_true rfl, Nat.le_of_ble_eq_true rfl⟩, C.1.2.2.2.2 _ (by decide +kernel), trivial⟩ rfl rfl rfl rfl rfl (by decide) rfl rfl (Nat.le_of_ble_eq_true rfl) rfl rfl ⟨Nat.le_of_ble_eq_true rfl, Nat.le_of_ble_eq_true rfl⟩ dX0_begin_10 ?_
  rintro z_10 _ ⟨rfl, rfl⟩
  refine z_ws (ws' := (ww a (fU φ 0 (f % 12)))) rfl ?_
  refine z_st (v' := (f / 12)) rfl ?_
  refine z_put C (ref := "ShadowWalls$Way") (T := TX0) (N := 9) (ci := 0) (ty := .int) (ws' := (ww a (fU (fU φ 0 (f % 12)) 1 (f / 12)))) 0 1 inU_X0_X0_begin tyX0 tyX0_ok nmX0 rfl rfl (by decide) (by decide +kernel) (fun _ h9 => h9) rfl (by decide +kernel) (rfl) (rfl) (Nat.le_of_ble_eq_true rfl) rfl dX0_begin_13 ?_
  refine z_aload_n C 0 dX0_begin_16 rfl ?_
  refine z_iload_n C 2 dX0_begin_17 rfl ?_
  refine z_callNi C (host := RX1) (As := [vI t]) (st := [.ref a]) (y := yX1_columnOf) (w := wsX1_columnOf) (rm := rm_X1_columnOf) (wr := (ww a (fU (fU φ 0 (f % 12)) 1 (f / 12)))) (k' := 0) (n' := 0) [] [0] (c_X1_columnOf l D cI cJ  t (by omega)) ⟨va_cnB 1 C.1.2.2.2.2 gX0_begin_X1_columnOf_n7 rfl rfl rfl (C.2.2.2.2.2 _ (by decide +kernel)) (C.1.2.2.2.2 _ (by decide +kernel)) (by decide +kernel) ⟨Nat.le_of_ble_eq_true rfl, Nat.le_of_ble_eq_true rfl⟩, C.1.2.2.2.2 _ (by decide +kernel), trivial⟩ rfl rfl rfl rfl rfl (by decide) rfl rfl (Nat.le_of_ble_eq_true rfl) rfl rfl ⟨Nat.le_of_ble_eq_true rfl, Nat.le_of_ble_eq_true rfl⟩ dX0_begin_18 ?_
  rintro z_18 _ ⟨rfl, rfl⟩
  refine z_ws (ws' := (ww a (fU (fU φ 0 (f % 12)) 1 (f / 12)))) rfl ?_
  refine z_st (v' := (t % 12)) rfl ?_
  refine z_aload_n C 0 dX0_begin_21 rfl ?_
  refine z_get C (v := vI (f % 12)) (ref := "ShadowWalls$Way") (T := TX0) (N := 9) (ci := 0) 0 0 inU_X0_X0_begin rfl rfl (by decide) (by decide +kernel) (fun _ h9 => h9) rfl dX0_begin_22 ?_
  refine z_isub C dX0_begin_25 ?_
  refine z_callSi C (As := [vI ((t % 12) - (f % 12))]) (st := [.ref a]) (y := yJ6_signum_0f7a4) (w := wsJ6_signum_0f7a4) (rm := rm_J6_signum_0f7a4) (wr := (ww a (fU (fU φ 0 (f % 12)) 1 (f / 12)))) (k' := 0) (n' := 0) [] [0] (c_J6_signum_0f7a4 l D cI cJ  ((t % 12) - (f % 12)) (by omega)) (va_cwS 1 C.1.2.2.2.2 gX0_begin_J6_signum_0f7a4 rfl rfl rfl (by decide +kernel) ⟨Nat.le_of_ble_eq_true rfl, Nat.le_of_ble_eq_true rfl⟩) rfl rfl rfl rfl rfl (by decide) rfl rfl (Nat.le_of_ble_eq_true rfl) rfl rfl ⟨Nat.le_of_ble_eq_true rfl, Nat.le_of_ble_eq_true rfl⟩ dX0_begin_26 ?_
  rintro z_26 _ ⟨rfl, rfl⟩
  refine z_ws (ws' := (ww a (fU (fU φ 0 (f % 12)) 1 (f / 12)))) rfl ?_
  refine z_st (v' := (sgZ ((t % 12) - (f % 12)))) rfl ?_
  refine z_put C (ref := "ShadowWalls$Way") (T := TX0) (N := 9) (ci := 0) (ty := .int) (ws' := (ww a (fU (fU (fU φ 0 (f % 12)) 1 (f / 12)) 2 (sgZ ((t % 12) - (f % 12)))))) 0 2 inU_X0_X0_begin tyX0 tyX0_ok nmX0 rfl rfl (by decide) (by decide +kernel) (fun _ h9 => h9) rfl (by decide +kernel) (rfl) (rfl) (Nat.le_of_ble_eq_true rfl) rfl dX0_begin_29 ?_
  refine z_aload_n C 0 dX0_begin_32 rfl ?_
  refine z_iload_n C 2 dX0_begin_33 rfl ?_
  refine z_callNi C (host := RX1) (As := [vI t]) (st := [.ref a]) (y := yX1_rowOf) (w := wsX1_rowOf) (rm := rm_X1_rowOf) (wr := (ww a (fU (fU (fU φ 0 (f % 12)) 1 (f / 12)) 2 (sgZ ((t % 12) - (f % 12)))))) (k' := 0) (n' := 0) [] [0] (c_X1_rowOf l D cI cJ  t (by omega)) ⟨va_cnB 1 C.1.2.2.2.2 gX0_begin_X1_rowOf_n19 rfl rfl rfl (C.2.2.2.2.2 _ (by decide +kernel)) (C.1.2.2.2.2 _ (by decide +kernel)) (by decide +kernel) ⟨Nat.le_of_ble_eq_true rfl, Nat.le_of_ble_eq_true rfl⟩, C.1.2.2.2.2 _ (by decide +kernel), trivial⟩ rfl rfl rfl rfl rfl (by decide) rfl rfl (Nat.le_of_ble_eq_true rfl) rfl rfl ⟨Nat.le_of_ble_eq_true rfl, Nat.le_of_ble_eq_true rfl⟩ dX0_begin_34 ?_
  rintro z_34 _ ⟨rfl, rfl⟩
  refine z_ws (ws' := (ww a (fU (fU (fU φ 0 (f % 12)) 1 (f / 12)) 2 (sgZ ((t % 12) - (f % 12)))))) rfl ?_
  refine z_st (v' := (t / 12)) rfl ?_
  refine z_aload_n C 0 dX0_begin_37 rfl ?_
  refine z_get C (v := vI (f / 12)) (ref := "ShadowWalls$Way") (T := TX0) (N := 9) (ci := 0) 0 1 inU_X0_X0_begin rfl rfl (by decide) (by decide +kernel) (fun _ h9 => h9) rfl dX0_begin_38 ?_
  refine z_isub C dX0_begin_41 ?_
  refine z_callSi C (As := [vI ((t / 12) - (f / 12))]) (st := [.ref a]) (y := yJ6_signum_0f7a4) (w := wsJ6_signum_0f7a4) (rm := rm_J6_signum_0f7a4) (wr := (ww a (fU (fU (fU φ 0 (f % 12)) 1 (f / 12)) 2 (sgZ ((t % 12) - (f % 12)))))) (k' := 0) (n' := 0) [] [0] (c_J6_signum_0f7a4 l D cI cJ  ((t / 12) - (f / 12)) (by omega)) (va_cwS 1 C.1.2.2.2.2 gX0_begin_J6_signum_0f7a4 rfl rfl rfl (by decide +kernel) ⟨Nat.le_of_ble_eq_true rfl, Nat.le_of_ble_eq_true rfl⟩) rfl rfl rfl rfl rfl (by decide) rfl rfl (Nat.le_of_ble_eq_true rfl) rfl rfl ⟨Nat.le_of_ble_eq_true rfl, Nat.le_of_ble_eq_true rfl⟩ dX0_begin_42 ?_
  rintro z_42 _ ⟨rfl, rfl⟩
  refine z_ws (ws' := (ww a (fU (fU (fU φ 0 (f % 12)) 1 (f / 12)) 2 (sgZ ((t % 12) - (f % 12)))))) rfl ?_
  refine z_st (v' := (sgZ ((t / 12) - (f / 12)))) rfl ?_
  refine z_put C (ref := "ShadowWalls$Way") (T := TX0) (N := 9) (ci := 0) (ty := .int) (ws' := (ww a (fU (fU (fU (fU φ 0 (f % 12)) 1 (f / 12)) 2 (sgZ ((t % 12) - (f % 12)))) 3 (sgZ ((t / 12) - (f / 12)))))) 0 3 inU_X0_X0_begin tyX0 tyX0_ok nmX0 rfl rfl (by decide) (by decide +kernel) (fun _ h9 => h9) rfl (by decide +kernel) (rfl) (rfl) (Nat.le_of_ble_eq_true rfl) rfl dX0_begin_45 ?_
  refine z_aload_n C 0 dX0_begin_48 rfl ?_
  refine z_iload_n C 2 dX0_begin_49 rfl ?_
  refine z_callNi C (host := RX1) (As := [vI t]) (st := [.ref a]) (y := yX1_columnOf) (w := wsX1_columnOf) (rm := rm_X1_columnOf) (wr := (ww a (fU (fU (fU (fU φ 0 (f % 12)) 1 (f / 12)) 2 (sgZ ((t % 12) - (f % 12)))) 3 (sgZ ((t / 12) - (f / 12)))))) (k' := 0) (n' := 0) [] [0] (c_X1_columnOf l D cI cJ  t (by omega)) ⟨va_cnB 1 C.1.2.2.2.2 gX0_begin_X1_columnOf_n7 rfl rfl rfl (C.2.2.2.2.2 _ (by decide +kernel)) (C.1.2.2.2.2 _ (by decide +kernel)) (by decide +kernel) ⟨Nat.le_of_ble_eq_true rfl, Nat.le_of_ble_eq_true rfl⟩, C.1.2.2.2.2 _ (by decide +kernel), trivial⟩ rfl rfl rfl rfl rfl (by decide) rfl rfl (Nat.le_of_ble_eq_true rfl) rfl rfl ⟨Nat.le_of_ble_eq_true rfl, Nat.le_of_ble_eq_true rfl⟩ dX0_begin_50 ?_
  rintro z_50 _ ⟨rfl, rfl⟩
  refine z_ws (ws' := (ww a (fU (fU (fU (fU φ 0 (f % 12)) 1 (f / 12)) 2 (sgZ ((t % 12) - (f % 12)))) 3 (sgZ ((t / 12) - (f / 12)))))) rfl ?_
  refine z_st (v' := (t % 12)) rfl ?_
  refine z_aload_n C 0 dX0_begin_53 rfl ?_
  refine z_get C (v := vI (f % 12)) (ref := "ShadowWalls$Way") (T := TX0) (N := 9) (ci := 0) 0 0 inU_X0_X0_begin rfl rfl (by decide) (by decide +kernel) (fun _ h9 => h9) rfl dX0_begin_54 ?_
  refine z_isub C dX0_begin_57 ?_
  refine z_mabs C dX0_begin_58 (by decide +kernel) (by decide +kernel) (by decide +kernel) (by decide +kernel) (Nat.le_of_ble_eq_true rfl) (Nat.le_of_ble_eq_true rfl) (Nat.le_of_ble_eq_true rfl) (Nat.le_of_ble_eq_true rfl) (by omega) ?_
  refine z_st (v' := abZ ((t % 12) - (f % 12))) rfl ?_
  have a_58 := abZ_c ((t % 12) - (f % 12))
  refine z_put C (ref := "ShadowWalls$Way") (T := TX0) (N := 9) (ci := 0) (ty := .int) (ws' := (ww a (fU (fU (fU (fU (fU φ 0 (f % 12)) 1 (f / 12)) 2 (sgZ ((t % 12) - (f % 12)))) 3 (sgZ ((t / 12) - (f / 12)))) 4 (abZ ((t % 12) - (f % 12)))))) 0 4 inU_X0_X0_begin tyX0 tyX0_ok nmX0 rfl rfl (by decide) (by decide +kernel) (fun _ h9 => h9) rfl (by decide +kernel) (rfl) (rfl) (Nat.le_of_ble_eq_true rfl) rfl dX0_begin_61 ?_
  refine z_aload_n C 0 dX0_begin_64 rfl ?_
  refine z_iload_n C 2 dX0_begin_65 rfl ?_
  refine z_callNi C (host := RX1) (As := [vI t]) (st := [.ref a]) (y := yX1_rowOf) (w := wsX1_rowOf) (rm := rm_X1_rowOf) (wr := (ww a (fU (fU (fU (fU (fU φ 0 (f % 12)) 1 (f / 12)) 2 (sgZ ((t % 12) - (f % 12)))) 3 (sgZ ((t / 12) - (f / 12)))) 4 (abZ ((t % 12) - (f % 12)))))) (k' := 0) (n' := 0) [] [0] (c_X1_rowOf l D cI cJ  t (by omega)) ⟨va_cnB 1 C.1.2.2.2.2 gX0_begin_X1_rowOf_n19 rfl rfl rfl (C.2.2.2.2.2 _ (by decide +kernel)) (C.1.2.2.2.2 _ (by decide +kernel)) (by decide +kernel) ⟨Nat.le_of_ble_eq_true rfl, Nat.le_of_ble_eq_true rfl⟩, C.1.2.2.2.2 _ (by decide +kernel), trivial⟩ rfl rfl rfl rfl rfl (by decide) rfl rfl (Nat.le_of_ble_eq_true rfl) rfl rfl ⟨Nat.le_of_ble_eq_true rfl, Nat.le_of_ble_eq_true rfl⟩ dX0_begin_66 ?_
  rintro z_66 _ ⟨rfl, rfl⟩
  refine z_ws (ws' := (ww a (fU (fU (fU (fU (fU φ 0 (f % 12)) 1 (f / 12)) 2 (sgZ ((t % 12) - (f % 12)))) 3 (sgZ ((t / 12) - (f / 12)))) 4 (abZ ((t % 12) - (f % 12)))))) rfl ?_
  refine z_st (v' := (t / 12)) rfl ?_
  refine z_aload_n C 0 dX0_begin_69 rfl ?_
  refine z_get C (v := vI (f / 12)) (ref := "ShadowWalls$Way") (T := TX0) (N := 9) (ci := 0) 0 1 inU_X0_X0_begin rfl rfl (by decide) (by decide +kernel) (fun _ h9 => h9) rfl dX0_begin_70 ?_
  refine z_isub C dX0_begin_73 ?_
  refine z_mabs C dX0_begin_74 (by decide +kernel) (by decide +kernel) (by decide +kernel) (by decide +kernel) (Nat.le_of_ble_eq_true rfl) (Nat.le_of_ble_eq_true rfl) (Nat.le_of_ble_eq_true rfl) (Nat.le_of_ble_eq_true rfl) (by omega) ?_
  refine z_st (v' := abZ ((t / 12) - (f / 12))) rfl ?_
  have a_74 := abZ_c ((t / 12) - (f / 12))
  refine z_put C (ref := "ShadowWalls$Way") (T := TX0) (N := 9) (ci := 0) (ty := .int) (ws' := (ww a (fU (fU (fU (fU (fU (fU φ 0 (f % 12)) 1 (f / 12)) 2 (sgZ ((t % 12) - (f % 12)))) 3 (sgZ ((t / 12) - (f / 12)))) 4 (abZ ((t % 12) - (f % 12)))) 5 (abZ ((t / 12) - (f / 12)))))) 0 5 inU_X0_X0_begin tyX0 tyX0_ok nmX0 rfl rfl (by decide) (by decide +kernel) (fun _ h9 => h9) rfl (by decide +kernel) (rfl) (rfl) (Nat.le_of_ble_eq_true rfl) rfl dX0_begin_77 ?_
  refine z_aload_n C 0 dX0_begin_80 rfl ?_
  refine z_iconst C dX0_begin_81 ?_
  refine z_put C (ref := "ShadowWalls$Way") (T := TX0) (N := 9) (ci := 0) (ty := .int) (ws' := (ww a (fU (fU (fU (fU (fU (fU (fU φ 0 (f % 12)) 1 (f / 12)) 2 (sgZ ((t % 12) - (f % 12)))) 3 (sgZ ((t / 12) - (f / 12)))) 4 (abZ ((t % 12) - (f % 12)))) 5 (abZ ((t / 12) - (f / 12)))) 6 0))) 0 6 inU_X0_X0_begin tyX0 tyX0_ok nmX0 rfl rfl (by decide) (by decide +kernel) (fun _ h9 => h9) rfl (by decide +kernel) (rfl) (rfl) (Nat.le_of_ble_eq_true rfl) rfl dX0_begin_82 ?_
  refine z_aload_n C 0 dX0_begin_85 rfl ?_
  refine z_iconst C dX0_begin_86 ?_
  refine z_put C (ref := "ShadowWalls$Way") (T := TX0) (N := 9) (ci := 0) (ty := .int) (ws' := (ww a (fU (fU (fU (fU (fU (fU (fU (fU φ 0 (f % 12)) 1 (f / 12)) 2 (sgZ ((t % 12) - (f % 12)))) 3 (sgZ ((t / 12) - (f / 12)))) 4 (abZ ((t % 12) - (f % 12)))) 5 (abZ ((t / 12) - (f / 12)))) 6 0) 7 0))) 0 7 inU_X0_X0_begin tyX0 tyX0_ok nmX0 rfl rfl (by decide) (by decide +kernel) (fun _ h9 => h9) rfl (by decide +kernel) (rfl) (rfl) (Nat.le_of_ble_eq_true rfl) rfl dX0_begin_87 ?_
  refine z_aload_n C 0 dX0_begin_90 rfl ?_
  refine z_iconst C dX0_begin_91 ?_
  refine z_put C (ref := "ShadowWalls$Way") (T := TX0) (N := 9) (ci := 0) (ty := .boolean) (ws' := (ww a (fU (fU (fU (fU (fU (fU (fU (fU (fU φ 0 (f % 12)) 1 (f / 12)) 2 (sgZ ((t % 12) - (f % 12)))) 3 (sgZ ((t / 12) - (f / 12)))) 4 (abZ ((t % 12) - (f % 12)))) 5 (abZ ((t / 12) - (f / 12)))) 6 0) 7 0) 8 0))) 0 8 inU_X0_X0_begin tyX0 tyX0_ok nmX0 rfl rfl (by decide) (by decide +kernel) (fun _ h9 => h9) rfl (by decide +kernel) (rfl) (rfl) (Nat.le_of_ble_eq_true rfl) rfl dX0_begin_92 ?_
  exact hret _ _ _ dX0_begin_95 rfl

set_option maxRecDepth 100000 in
theorem inU_X0_X0_goesOn : ∀ w ∈ u_ws RX0 TX0 9, w ∈ wsX0_goesOn := by decide +kernel
abbrev rm_X0_goesOn : Room := { frames := 0, cells := 0, slots := 0, locals := 0 }
set_option maxHeartbeats 4000000 in
set_option maxRecDepth 100000 in
theorem c_X0_goesOn (l : Launch) (D : va_G) (cI cJ : ClassId) (a : Nat) (φ : Nat → Int)  (hφ : (rng (φ 4) ∧ rng (φ 5)) ∧ rng (φ 6) ∧ rng (φ 7)) : Ci l yX0_goesOn wsX0_goesOn rm_X0_goesOn D [(cI, .int), (cJ, .long)] [.ref a] (ww a φ) (fun z u => u = (ww a φ) ∧ z = bI (decide (φ 6 < φ 4 ∨ φ 7 < φ 5))) := by
  refine z_ofz (own := RX0) (cc := cX0_goesOn) (maxL := 1) (lv := [(0, .ref a)]) (by decide) rfl rfl (Nat.le_of_ble_eq_true rfl) rfl ?_
  intro p e s m args below meth cd Q A C hret
  refine z_aload_n C 0 dX0_goesOn_0 rfl ?_
  refine z_get C (v := vI (φ 6)) (ref := "ShadowWalls$Way") (T := TX0) (N := 9) (ci := 0) 0 6 inU_X0_X0_goesOn rfl rfl (by decide) (by decide +kernel) (fun _ h9 => h9) rfl dX0_goesOn_1 ?_
  refine z_aload_n C 0 dX0_goesOn_4 rfl ?_
  refine z_get C (v := vI (φ 4)) (ref := "ShadowWalls$Way") (T := TX0) (N := 9) (ci := 0) 0 4 inU_X0_X0_goesOn rfl rfl (by decide) (by decide +kernel) (fun _ h9 => h9) rfl dX0_goesOn_5 ?_
  refine z_icmp_lt C (tgt := 22) dX0_goesOn_8 (by decide) (by omega) (by omega) (fun c_8 => ?_) (fun c_8 => ?_)
  ·
    refine z_iconst C dX0_goesOn_22 ?_
    refine z_goto C (tgt := 27) dX0_goesOn_23 (by decide) ?_
    exact hret _ _ _ _ dX0_goesOn_27 (Or.inr rfl) ⟨rfl, by first | (rw [bI_t (by simp; omega)]; done) | (rw [bI_f (by simp; omega)]; done)⟩
  ·
    refine z_aload_n C 0 dX0_goesOn_11 rfl ?_
    refine z_get C (v := vI (φ 7)) (ref := "ShadowWalls$Way") (T := TX0) (N := 9) (ci := 0) 0 7 inU_X0_X0_goesOn rfl rfl (by decide) (by decide +kernel) (fun _ h9 => h9) rfl dX0_goesOn_12 ?_
    refine z_aload_n C 0 dX0_goesOn_15 rfl ?_
    refine z_get C (v := vI (φ 5)) (ref := "ShadowWalls$Way") (T := TX0) (N := 9) (ci := 0) 0 5 inU_X0_X0_goesOn rfl rfl (by decide) (by decide +kernel) (fun _ h9 => h9) rfl dX0_goesOn_16 ?_
    refine z_icmp_ge C (tgt := 26) dX0_goesOn_19 (by decide) (by omega) (by omega) (fun c_19 => ?_) (fun c_19 => ?_)
    ·
      refine z_iconst C dX0_goesOn_26 ?_
      exact hret _ _ _ _ dX0_goesOn_27 (Or.inl rfl) ⟨rfl, by first | (rw [bI_t (by simp; omega)]; done) | (rw [bI_f (by simp; omega)]; done)⟩
    ·
      refine z_iconst C dX0_goesOn_22 ?_
      refine z_goto C (tgt := 27) dX0_goesOn_23 (by decide) ?_
      exact hret _ _ _ _ dX0_goesOn_27 (Or.inr rfl) ⟨rfl, by first | (rw [bI_t (by simp; omega)]; done) | (rw [bI_f (by simp; omega)]; done)⟩

set_option maxRecDepth 100000 in
theorem inU_X0_X0_wentThroughCorner : ∀ w ∈ u_ws RX0 TX0 9, w ∈ wsX0_wentThroughCorner := by decide +kernel
abbrev rm_X0_wentThroughCorner : Room := { frames := 0, cells := 0, slots := 0, locals := 0 }
set_option maxHeartbeats 4000000 in
set_option maxRecDepth 100000 in
theorem c_X0_wentThroughCorner (l : Launch) (D : va_G) (cI cJ : ClassId) (a : Nat) (φ : Nat → Int)  (h8 : φ 8 = 0 ∨ φ 8 = 1) : Ci l yX0_wentThroughCorner wsX0_wentThroughCorner rm_X0_wentThroughCorner D [(cI, .int), (cJ, .long)] [.ref a] (ww a φ) (fun z u => u = (ww a φ) ∧ z = φ 8) := by
  refine z_ofz (own := RX0) (cc := cX0_wentThroughCorner) (maxL := 1) (lv := [(0, .ref a)]) (by decide) rfl rfl (Nat.le_of_ble_eq_true rfl) rfl ?_
  intro p e s m args below meth cd Q A C hret
  refine z_aload_n C 0 dX0_wentThroughCorner_0 rfl ?_
  refine z_get C (v := vI (φ 8)) (ref := "ShadowWalls$Way") (T := TX0) (N := 9) (ci := 0) 0 8 inU_X0_X0_wentThroughCorner rfl rfl (by decide) (by decide +kernel) (fun _ h9 => h9) rfl dX0_wentThroughCorner_1 ?_
  exact hret _ _ _ _ dX0_wentThroughCorner_4 (h8) ⟨rfl, by rfl⟩

set_option maxRecDepth 100000 in
theorem inU_X0_X0_cell : ∀ w ∈ u_ws RX0 TX0 9, w ∈ wsX0_cell := by decide +kernel
abbrev rm_X0_cell : Room := { frames := 1, cells := 0, slots := 0, locals := 21 }
set_option maxHeartbeats 4000000 in
set_option maxRecDepth 100000 in
theorem c_X0_cell (l : Launch) (D : va_G) (cI cJ : ClassId) (a : Nat) (φ : Nat → Int)   : Ci l yX0_cell wsX0_cell rm_X0_cell D [(cI, .int), (cJ, .long)] [.ref a] (ww a φ) (fun z u => u = (ww a φ) ∧ z = 12 * φ 1 + φ 0) := by
  refine z_ofi (own := RX0) (cc := cX0_cell) (maxL := 1) (lv := [(0, .ref a)]) (by decide) rfl rfl (Nat.le_of_ble_eq_true rfl) rfl ?_
  intro p e s m args below meth cd Q A C hret
  refine z_aload_n C 0 dX0_cell_0 rfl ?_
  refine z_get C (v := vI (φ 0)) (ref := "ShadowWalls$Way") (T := TX0) (N := 9) (ci := 0) 0 0 inU_X0_X0_cell rfl rfl (by decide) (by decide +kernel) (fun _ h9 => h9) rfl dX0_cell_1 ?_
  refine z_aload_n C 0 dX0_cell_4 rfl ?_
  refine z_get C (v := vI (φ 1)) (ref := "ShadowWalls$Way") (T := TX0) (N := 9) (ci := 0) 0 1 inU_X0_X0_cell rfl rfl (by decide) (by decide +kernel) (fun _ h9 => h9) rfl dX0_cell_5 ?_
  refine z_callNi C (host := RX1) (As := [vI (φ 0), vI (φ 1)]) (st := []) (y := yX1_cellAt) (w := wsX1_cellAt) (rm := rm_X1_cellAt) (wr := (ww a φ)) (k' := 0) (n' := 0) [] [0] (c_X1_cellAt l D cI cJ  (φ 0) (φ 1) ) ⟨va_cnB 2 C.1.2.2.2.2 gX0_cell_X1_cellAt_n57 rfl rfl rfl (C.2.2.2.2.2 _ (by decide +kernel)) (C.1.2.2.2.2 _ (by decide +kernel)) (by decide +kernel) ⟨Nat.le_of_ble_eq_true rfl, Nat.le_of_ble_eq_true rfl⟩, C.1.2.2.2.2 _ (by decide +kernel), trivial⟩ rfl rfl rfl rfl rfl (by decide) rfl rfl (Nat.le_of_ble_eq_true rfl) rfl rfl ⟨Nat.le_of_ble_eq_true rfl, Nat.le_of_ble_eq_true rfl⟩ dX0_cell_8 ?_
  rintro z_8 _ ⟨rfl, rfl⟩
  refine z_ws (ws' := (ww a φ)) rfl ?_
  refine z_st (v' := (12 * (φ 1) + (φ 0))) rfl ?_
  exact hret _ _ _ _ dX0_cell_11 ⟨rfl, by rfl⟩

set_option maxRecDepth 100000 in
theorem inU_X0_X0_cornerByX : ∀ w ∈ u_ws RX0 TX0 9, w ∈ wsX0_cornerByX := by decide +kernel
abbrev rm_X0_cornerByX : Room := { frames := 1, cells := 0, slots := 0, locals := 21 }
set_option maxHeartbeats 4000000 in
set_option maxRecDepth 100000 in
theorem c_X0_cornerByX (l : Launch) (D : va_G) (cI cJ : ClassId) (a : Nat) (φ : Nat → Int)   : Ci l yX0_cornerByX wsX0_cornerByX rm_X0_cornerByX D [(cI, .int), (cJ, .long)] [.ref a] (ww a φ) (fun z u => u = (ww a φ) ∧ z = 12 * (φ 1 - φ 3) + φ 0) := by
  refine z_ofi (own := RX0) (cc := cX0_cornerByX) (maxL := 1) (lv := [(0, .ref a)]) (by decide) rfl rfl (Nat.le_of_ble_eq_true rfl) rfl ?_
  intro p e s m args below meth cd Q A C hret
  refine z_aload_n C 0 dX0_cornerByX_0 rfl ?_
  refine z_get C (v := vI (φ 0)) (ref := "ShadowWalls$Way") (T := TX0) (N := 9) (ci := 0) 0 0 inU_X0_X0_cornerByX rfl rfl (by decide) (by decide +kernel) (fun _ h9 => h9) rfl dX0_cornerByX_1 ?_
  refine z_aload_n C 0 dX0_cornerByX_4 rfl ?_
  refine z_get C (v := vI (φ 1)) (ref := "ShadowWalls$Way") (T := TX0) (N := 9) (ci := 0) 0 1 inU_X0_X0_cornerByX rfl rfl (by decide) (by decide +kernel) (fun _ h9 => h9) rfl dX0_cornerByX_5 ?_
  refine z_aload_n C 0 dX0_cornerByX_8 rfl ?_
  refine z_get C (v := vI (φ 3)) (ref := "ShadowWalls$Way") (T := TX0) (N := 9) (ci := 0) 0 3 inU_X0_X0_cornerByX rfl rfl (by decide) (by decide +kernel) (fun _ h9 => h9) rfl dX0_cornerByX_9 ?_
  refine z_isub C dX0_cornerByX_12 ?_
  refine z_callNi C (host := RX1) (As := [vI (φ 0), vI ((φ 1) - (φ 3))]) (st := []) (y := yX1_cellAt) (w := wsX1_cellAt) (rm := rm_X1_cellAt) (wr := (ww a φ)) (k' := 0) (n' := 0) [] [0] (c_X1_cellAt l D cI cJ  (φ 0) ((φ 1) - (φ 3)) ) ⟨va_cnB 2 C.1.2.2.2.2 gX0_cornerByX_X1_cellAt_n57 rfl rfl rfl (C.2.2.2.2.2 _ (by decide +kernel)) (C.1.2.2.2.2 _ (by decide +kernel)) (by decide +kernel) ⟨Nat.le_of_ble_eq_true rfl, Nat.le_of_ble_eq_true rfl⟩, C.1.2.2.2.2 _ (by decide +kernel), trivial⟩ rfl rfl rfl rfl rfl (by decide) rfl rfl (Nat.le_of_ble_eq_true rfl) rfl rfl ⟨Nat.le_of_ble_eq_true rfl, Nat.le_of_ble_eq_true rfl⟩ dX0_cornerByX_13 ?_
  rintro z_13 _ ⟨rfl, rfl⟩
  refine z_ws (ws' := (ww a φ)) rfl ?_
  refine z_st (v' := (12 * ((φ 1) - (φ 3)) + (φ 0))) rfl ?_
  exact hret _ _ _ _ dX0_cornerByX_16 ⟨rfl, by rfl⟩

set_option maxRecDepth 100000 in
theorem inU_X0_X0_cornerByY : ∀ w ∈ u_ws RX0 TX0 9, w ∈ wsX0_cornerByY := by decide +kernel
abbrev rm_X0_cornerByY : Room := { frames := 1, cells := 0, slots := 0, locals := 21 }
set_option maxHeartbeats 4000000 in
set_option maxRecDepth 100000 in
theorem c_X0_cornerByY (l : Launch) (D : va_G) (cI cJ : ClassId) (a : Nat) (φ : Nat → Int)   : Ci l yX0_cornerByY wsX0_cornerByY rm_X0_cornerByY D [(cI, .int), (cJ, .long)] [.ref a] (ww a φ) (fun z u => u = (ww a φ) ∧ z = 12 * φ 1 + (φ 0 - φ 2)) := by
  refine z_ofi (own := RX0) (cc := cX0_cornerByY) (maxL := 1) (lv := [(0, .ref a)]) (by decide) rfl rfl (Nat.le_of_ble_eq_true rfl) rfl ?_
  intro p e s m args below meth cd Q A C hret
  refine z_aload_n C 0 dX0_cornerByY_0 rfl ?_
  refine z_get C (v := vI (φ 0)) (ref := "ShadowWalls$Way") (T := TX0) (N := 9) (ci := 0) 0 0 inU_X0_X0_cornerByY rfl rfl (by decide) (by decide +kernel) (fun _ h9 => h9) rfl dX0_cornerByY_1 ?_
  refine z_aload_n C 0 dX0_cornerByY_4 rfl ?_
  refine z_get C (v := vI (φ 2)) (ref := "ShadowWalls$Way") (T := TX0) (N := 9) (ci := 0) 0 2 inU_X0_X0_cornerByY rfl rfl (by decide) (by decide +kernel) (fun _ h9 => h9) rfl dX0_cornerByY_5 ?_
  refine z_isub C dX0_cornerByY_8 ?_
  refine z_aload_n C 0 dX0_cornerByY_9 rfl ?_
  refine z_get C (v := vI (φ 1)) (ref := "ShadowWalls$Way") (T := TX0) (N := 9) (ci := 0) 0 1 inU_X0_X0_cornerByY rfl rfl (by decide) (by decide +kernel) (fun _ h9 => h9) rfl dX0_cornerByY_10 ?_
  refine z_callNi C (host := RX1) (As := [vI ((φ 0) - (φ 2)), vI (φ 1)]) (st := []) (y := yX1_cellAt) (w := wsX1_cellAt) (rm := rm_X1_cellAt) (wr := (ww a φ)) (k' := 0) (n' := 0) [] [0] (c_X1_cellAt l D cI cJ  ((φ 0) - (φ 2)) (φ 1) ) ⟨va_cnB 2 C.1.2.2.2.2 gX0_cornerByY_X1_cellAt_n57 rfl rfl rfl (C.2.2.2.2.2 _ (by decide +kernel)) (C.1.2.2.2.2 _ (by decide +kernel)) (by decide +kernel) ⟨Nat.le_of_ble_eq_true rfl, Nat.le_of_ble_eq_true rfl⟩, C.1.2.2.2.2 _ (by decide +kernel), trivial⟩ rfl rfl rfl rfl rfl (by decide) rfl rfl (Nat.le_of_ble_eq_true rfl) rfl rfl ⟨Nat.le_of_ble_eq_true rfl, Nat.le_of_ble_eq_true rfl⟩ dX0_cornerByY_13 ?_
  rintro z_13 _ ⟨rfl, rfl⟩
  refine z_ws (ws' := (ww a φ)) rfl ?_
  refine z_st (v' := (12 * (φ 1) + ((φ 0) - (φ 2)))) rfl ?_
  exact hret _ _ _ _ dX0_cornerByY_16 ⟨rfl, by rfl⟩

set_option maxRecDepth 100000 in
theorem inU_X0_X0_step : ∀ w ∈ u_ws RX0 TX0 9, w ∈ wsX0_step := by decide +kernel
abbrev rm_X0_step : Room := { frames := 0, cells := 0, slots := 0, locals := 0 }
set_option maxHeartbeats 4000000 in
set_option maxRecDepth 100000 in
theorem c_X0_step (l : Launch) (D : va_G) (cI cJ : ClassId) (a : Nat) (φ : Nat → Int)  (h4 : 0 ≤ φ 4 ∧ φ 4 ≤ 11) (h5 : 0 ≤ φ 5 ∧ φ 5 ≤ 11) (h6 : 0 ≤ φ 6 ∧ φ 6 ≤ 11) (h7 : 0 ≤ φ 7 ∧ φ 7 ≤ 11) : Cv l yX0_step wsX0_step rm_X0_step D [(cI, .int), (cJ, .long)] [.ref a] (ww a φ) (fun u => ∃ φ' : Nat → Int, u = (ww a φ') ∧ φ' 0 = (if (1 + 2 * φ 6) * φ 5 ≤ (1 + 2 * φ 7) * φ 4 then φ 0 + φ 2 else φ 0) ∧ φ' 1 = (if (1 + 2 * φ 7) * φ 4 ≤ (1 + 2 * φ 6) * φ 5 then φ 1 + φ 3 else φ 1) ∧ φ' 2 = φ 2 ∧ φ' 3 = φ 3 ∧ φ' 4 = φ 4 ∧ φ' 5 = φ 5 ∧ φ' 6 = (if (1 + 2 * φ 6) * φ 5 ≤ (1 + 2 * φ 7) * φ 4 then φ 6 + 1 else φ 6) ∧ φ' 7 = (if (1 + 2 * φ 7) * φ 4 ≤ (1 + 2 * φ 6) * φ 5 then φ 7 + 1 else φ 7) ∧ φ' 8 = bI (decide ((1 + 2 * φ 6) * φ 5 = (1 + 2 * φ 7) * φ 4))) := by
  refine z_ofv (own := RX0) (cc := cX0_step) (maxL := 3) (lv := [(0, .ref a)]) (by decide) rfl rfl (Nat.le_of_ble_eq_true rfl) rfl ?_
  intro p e s m args below meth cd Q A C hret
  have m1 := mulr (a := 1 + 2 * φ 6) (b := φ 5) (A := 23) (B := 11) (by omega) (by omega)
  have m2 := mulr (a := 1 + 2 * φ 7) (b := φ 4) (A := 23) (B := 11) (by omega) (by omega)
  refine z_iconst C dX0_step_0 ?_
  refine z_iconst C dX0_step_1 ?_
  refine z_aload_n C 0 dX0_step_2 rfl ?_
  refine z_get C (v := vI (φ 6)) (ref := "ShadowWalls$Way") (T := TX0) (N := 9) (ci := 0) 0 6 inU_X0_X0_step rfl rfl (by decide) (by decide +kernel) (fun _ h9 => h9) rfl dX0_step_3 ?_
  refine z_imul C dX0_step_6 ?_
  refine z_iadd C dX0_step_7 ?_
  refine z_aload_n C 0 dX0_step_8 rfl ?_
  refine z_get C (v := vI (φ 5)) (ref := "ShadowWalls$Way") (T := TX0) (N := 9) (ci := 0) 0 5 inU_X0_X0_step rfl rfl (by decide) (by decide +kernel) (fun _ h9 => h9) rfl dX0_step_9 ?_
  refine z_imul C dX0_step_12 ?_
  refine z_istore_n C [(1, vI ((1 + (2 * (φ 6))) * (φ 5))), (0, .ref a)] dX0_step_13 (by decide) rfl ?_
  refine z_iconst C dX0_step_14 ?_
  refine z_iconst C dX0_step_15 ?_
  refine z_aload_n C 1 dX0_step_16 rfl ?_
  refine z_get C (v := vI (φ 7)) (ref := "ShadowWalls$Way") (T := TX0) (N := 9) (ci := 0) 0 7 inU_X0_X0_step rfl rfl (by decide) (by decide +kernel) (fun _ h9 => h9) rfl dX0_step_17 ?_
  refine z_imul C dX0_step_20 ?_
  refine z_iadd C dX0_step_21 ?_
  refine z_aload_n C 1 dX0_step_22 rfl ?_
  refine z_get C (v := vI (φ 4)) (ref := "ShadowWalls$Way") (T := TX0) (N := 9) (ci := 0) 0 4 inU_X0_X0_step rfl rfl (by decide) (by decide +kernel) (fun _ h9 => h9) rfl dX0_step_23 ?_
  refine z_imul C dX0_step_26 ?_
  refine z_istore_n C [(2, vI ((1 + (2 * (φ 7))) * (φ 4))), (1, vI ((1 + (2 * (φ 6))) * (φ 5))), (0, .ref a)] dX0_step_27 (by decide) rfl ?_
  refine z_aload_n C 2 dX0_step_28 rfl ?_
  refine z_iload_n C 1 dX0_step_29 rfl ?_
  refine z_iload_n C 0 dX0_step_30 rfl ?_
  refine z_icmp_ne C (tgt := 38) dX0_step_31 (by decide) (by omega) (by omega) (fun c_31 => ?_) (fun c_31 => ?_)
  ·
    refine z_iconst C dX0_step_38 ?_
    refine z_put C (ref := "ShadowWalls$Way") (T := TX0) (N := 9) (ci := 0) (ty := .boolean) (ws' := (ww a (fU φ 8 0))) 0 8 inU_X0_X0_step tyX0 tyX0_ok nmX0 rfl rfl (by decide) (by decide +kernel) (fun _ h9 => h9) rfl (by decide +kernel) (by first | rfl | decide) (by first | rfl | decide) (Nat.le_of_ble_eq_true rfl) rfl dX0_step_39 ?_
    refine z_iload_n C 1 dX0_step_42 rfl ?_
    refine z_iload_n C 0 dX0_step_43 rfl ?_
    refine z_icmp_gt C (tgt := 70) dX0_step_44 (by decide) (by omega) (by omega) (fun c_44 => ?_) (fun c_44 => ?_)
    ·
      refine z_iload_n C 1 dX0_step_70 rfl ?_
      refine z_iload_n C 0 dX0_step_71 rfl ?_
      refine z_icmp_lt C (tgt := 98) dX0_step_72 (by decide) (by omega) (by omega) (fun c_72 => ?_) (fun c_72 => ?_)
      ·
        first | exact hret _ _ _ dX0_step_98 ⟨_, rfl, by first | rfl | exact (if_pos (by omega)).symm | exact (if_neg (by omega)).symm | exact (bI_t (by simp; omega)).symm | exact (bI_f (by simp; omega)).symm, by first | rfl | exact (if_pos (by omega)).symm | exact (if_neg (by omega)).symm | exact (bI_t (by simp; omega)).symm | exact (bI_f (by simp; omega)).symm, by first | rfl | exact (if_pos (by omega)).symm | exact (if_neg (by omega)).symm | exact (bI_t (by simp; omega)).symm | exact (bI_f (by simp; omega)).symm, by first | rfl | exact (if_pos (by omega)).symm | exact (if_neg (by omega)).symm | exact (bI_t (by simp; omega)).symm | exact (bI_f (by simp; omega)).symm, by first | rfl | exact (if_pos (by omega)).symm | exact (if_neg (by omega)).symm | exact (bI_t (by simp; omega)).symm | exact (bI_f (by simp; omega)).symm, by first | rfl | exact (if_pos (by omega)).symm | exact (if_neg (by omega)).symm | exact (bI_t (by simp; omega)).symm | exact (bI_f (by simp; omega)).symm, by first | rfl | exact (if_pos (by omega)).symm | exact (if_neg (by omega)).symm | exact (bI_t (by simp; omega)).symm | exact (bI_f (by simp; omega)).symm, by first | rfl | exact (if_pos (by omega)).symm | exact (if_neg (by omega)).symm | exact (bI_t (by simp; omega)).symm | exact (bI_f (by simp; omega)).symm, by first | rfl | exact (if_pos (by omega)).symm | exact (if_neg (by omega)).symm | exact (bI_t (by simp; omega)).symm | exact (bI_f (by simp; omega)).symm⟩ | (exfalso; omega)
      ·
        refine z_aload_n C 2 dX0_step_75 rfl ?_
        refine z_dup C dX0_step_76 rfl ?_
        refine z_get C (v := vI ((fU φ 8 0) 1)) (ref := "ShadowWalls$Way") (T := TX0) (N := 9) (ci := 0) 0 1 inU_X0_X0_step rfl rfl (by decide) (by decide +kernel) (fun _ h9 => h9) rfl dX0_step_77 ?_
        refine z_aload_n C 2 dX0_step_80 rfl ?_
        refine z_get C (v := vI ((fU φ 8 0) 3)) (ref := "ShadowWalls$Way") (T := TX0) (N := 9) (ci := 0) 0 3 inU_X0_X0_step rfl rfl (by decide) (by decide +kernel) (fun _ h9 => h9) rfl dX0_step_81 ?_
        refine z_iadd C dX0_step_84 ?_
        refine z_put C (ref := "ShadowWalls$Way") (T := TX0) (N := 9) (ci := 0) (ty := .int) (ws' := (ww a (fU (fU φ 8 0) 1 (((fU φ 8 0) 1) + ((fU φ 8 0) 3))))) 0 1 inU_X0_X0_step tyX0 tyX0_ok nmX0 rfl rfl (by decide) (by decide +kernel) (fun _ h9 => h9) rfl (by decide +kernel) (rfl) (rfl) (Nat.le_of_ble_eq_true rfl) rfl dX0_step_85 ?_
        refine z_aload_n C 2 dX0_step_88 rfl ?_
        refine z_dup C dX0_step_89 rfl ?_
        refine z_get C (v := vI ((fU (fU φ 8 0) 1 (((fU φ 8 0) 1) + ((fU φ 8 0) 3))) 7)) (ref := "ShadowWalls$Way") (T := TX0) (N := 9) (ci := 0) 0 7 inU_X0_X0_step rfl rfl (by decide) (by decide +kernel) (fun _ h9 => h9) rfl dX0_step_90 ?_
        refine z_iconst C dX0_step_93 ?_
        refine z_iadd C dX0_step_94 ?_
        refine z_put C (ref := "ShadowWalls$Way") (T := TX0) (N := 9) (ci := 0) (ty := .int) (ws' := (ww a (fU (fU (fU φ 8 0) 1 (((fU φ 8 0) 1) + ((fU φ 8 0) 3))) 7 (((fU (fU φ 8 0) 1 (((fU φ 8 0) 1) + ((fU φ 8 0) 3))) 7) + 1)))) 0 7 inU_X0_X0_step tyX0 tyX0_ok nmX0 rfl rfl (by decide) (by decide +kernel) (fun _ h9 => h9) rfl (by decide +kernel) (rfl) (rfl) (Nat.le_of_ble_eq_true rfl) rfl dX0_step_95 ?_
        first | exact hret _ _ _ dX0_step_98 ⟨_, rfl, by first | rfl | exact (if_pos (by omega)).symm | exact (if_neg (by omega)).symm | exact (bI_t (by simp; omega)).symm | exact (bI_f (by simp; omega)).symm, by first | rfl | exact (if_pos (by omega)).symm | exact (if_neg (by omega)).symm | exact (bI_t (by simp; omega)).symm | exact (bI_f (by simp; omega)).symm, by first | rfl | exact (if_pos (by omega)).symm | exact (if_neg (by omega)).symm | exact (bI_t (by simp; omega)).symm | exact (bI_f (by simp; omega)).symm, by first | rfl | exact (if_pos (by omega)).symm | exact (if_neg (by omega)).symm | exact (bI_t (by simp; omega)).symm | exact (bI_f (by simp; omega)).symm, by first | rfl | exact (if_pos (by omega)).symm | exact (if_neg (by omega)).symm | exact (bI_t (by simp; omega)).symm | exact (bI_f (by simp; omega)).symm, by first | rfl | exact (if_pos (by omega)).symm | exact (if_neg (by omega)).symm | exact (bI_t (by simp; omega)).symm | exact (bI_f (by simp; omega)).symm, by first | rfl | exact (if_pos (by omega)).symm | exact (if_neg (by omega)).symm | exact (bI_t (by simp; omega)).symm | exact (bI_f (by simp; omega)).symm, by first | rfl | exact (if_pos (by omega)).symm | exact (if_neg (by omega)).symm | exact (bI_t (by simp; omega)).symm | exact (bI_f (by simp; omega)).symm, by first | rfl | exact (if_pos (by omega)).symm | exact (if_neg (by omega)).symm | exact (bI_t (by simp; omega)).symm | exact (bI_f (by simp; omega)).symm⟩ | (exfalso; omega)
    ·
      refine z_aload_n C 2 dX0_step_47 rfl ?_
      refine z_dup C dX0_step_48 rfl ?_
      refine z_get C (v := vI ((fU φ 8 0) 0)) (ref := "ShadowWalls$Way") (T := TX0) (N := 9) (ci := 0) 0 0 inU_X0_X0_step rfl rfl (by decide) (by decide +kernel) (fun _ h9 => h9) rfl dX0_step_49 ?_
      refine z_aload_n C 2 dX0_step_52 rfl ?_
      refine z_get C (v := vI ((fU φ 8 0) 2)) (ref := "ShadowWalls$Way") (T := TX0) (N := 9) (ci := 0) 0 2 inU_X0_X0_step rfl rfl (by decide) (by decide +kernel) (fun _ h9 => h9) rfl dX0_step_53 ?_
      refine z_iadd C dX0_step_56 ?_
      refine z_put C (ref := "ShadowWalls$Way") (T := TX0) (N := 9) (ci := 0) (ty := .int) (ws' := (ww a (fU (fU φ 8 0) 0 (((fU φ 8 0) 0) + ((fU φ 8 0) 2))))) 0 0 inU_X0_X0_step tyX0 tyX0_ok nmX0 rfl rfl (by decide) (by decide +kernel) (fun _ h9 => h9) rfl (by decide +kernel) (rfl) (rfl) (Nat.le_of_ble_eq_true rfl) rfl dX0_step_57 ?_
      refine z_aload_n C 2 dX0_step_60 rfl ?_
      refine z_dup C dX0_step_61 rfl ?_
      refine z_get C (v := vI ((fU (fU φ 8 0) 0 (((fU φ 8 0) 0) + ((fU φ 8 0) 2))) 6)) (ref := "ShadowWalls$Way") (T := TX0) (N := 9) (ci := 0) 0 6 inU_X0_X0_step rfl rfl (by decide) (by decide +kernel) (fun _ h9 => h9) rfl dX0_step_62 ?_
      refine z_iconst C dX0_step_65 ?_
      refine z_iadd C dX0_step_66 ?_
      refine z_put C (ref := "ShadowWalls$Way") (T := TX0) (N := 9) (ci := 0) (ty := .int) (ws' := (ww a (fU (fU (fU φ 8 0) 0 (((fU φ 8 0) 0) + ((fU φ 8 0) 2))) 6 (((fU (fU φ 8 0) 0 (((fU φ 8 0) 0) + ((fU φ 8 0) 2))) 6) + 1)))) 0 6 inU_X0_X0_step tyX0 tyX0_ok nmX0 rfl rfl (by decide) (by decide +kernel) (fun _ h9 => h9) rfl (by decide +kernel) (rfl) (rfl) (Nat.le_of_ble_eq_true rfl) rfl dX0_step_67 ?_
      refine z_iload_n C 1 dX0_step_70 rfl ?_
      refine z_iload_n C 0 dX0_step_71 rfl ?_
      refine z_icmp_lt C (tgt := 98) dX0_step_72 (by decide) (by omega) (by omega) (fun c_72 => ?_) (fun c_72 => ?_)
      ·
        first | exact hret _ _ _ dX0_step_98 ⟨_, rfl, by first | rfl | exact (if_pos (by omega)).symm | exact (if_neg (by omega)).symm | exact (bI_t (by simp; omega)).symm | exact (bI_f (by simp; omega)).symm, by first | rfl | exact (if_pos (by omega)).symm | exact (if_neg (by omega)).symm | exact (bI_t (by simp; omega)).symm | exact (bI_f (by simp; omega)).symm, by first | rfl | exact (if_pos (by omega)).symm | exact (if_neg (by omega)).symm | exact (bI_t (by simp; omega)).symm | exact (bI_f (by simp; omega)).symm, by first | rfl | exact (if_pos (by omega)).symm | exact (if_neg (by omega)).symm | exact (bI_t (by simp; omega)).symm | exact (bI_f (by simp; omega)).symm, by first | rfl | exact (if_pos (by omega)).symm | exact (if_neg (by omega)).symm | exact (bI_t (by simp; omega)).symm | exact (bI_f (by simp; omega)).symm, by first | rfl | exact (if_pos (by omega)).symm | exact (if_neg (by omega)).symm | exact (bI_t (by simp; omega)).symm | exact (bI_f (by simp; omega)).symm, by first | rfl | exact (if_pos (by omega)).symm | exact (if_neg (by omega)).symm | exact (bI_t (by simp; omega)).symm | exact (bI_f (by simp; omega)).symm, by first | rfl | exact (if_pos (by omega)).symm | exact (if_neg (by omega)).symm | exact (bI_t (by simp; omega)).symm | exact (bI_f (by simp; omega)).symm, by first | rfl | exact (if_pos (by omega)).symm | exact (if_neg (by omega)).symm | exact (bI_t (by simp; omega)).symm | exact (bI_f (by simp; omega)).symm⟩ | (exfalso; omega)
      ·
        refine z_aload_n C 2 dX0_step_75 rfl ?_
        refine z_dup C dX0_step_76 rfl ?_
        refine z_get C (v := vI ((fU (fU (fU φ 8 0) 0 (((fU φ 8 0) 0) + ((fU φ 8 0) 2))) 6 (((fU (fU φ 8 0) 0 (((fU φ 8 0) 0) + ((fU φ 8 0) 2))) 6) + 1)) 1)) (ref := "ShadowWalls$Way") (T := TX0) (N := 9) (ci := 0) 0 1 inU_X0_X0_step rfl rfl (by decide) (by decide +kernel) (fun _ h9 => h9) rfl dX0_step_77 ?_
        refine z_aload_n C 2 dX0_step_80 rfl ?_
        refine z_get C (v := vI ((fU (fU (fU φ 8 0) 0 (((fU φ 8 0) 0) + ((fU φ 8 0) 2))) 6 (((fU (fU φ 8 0) 0 (((fU φ 8 0) 0) + ((fU φ 8 0) 2))) 6) + 1)) 3)) (ref := "ShadowWalls$Way") (T := TX0) (N := 9) (ci := 0) 0 3 inU_X0_X0_step rfl rfl (by decide) (by decide +kernel) (fun _ h9 => h9) rfl dX0_step_81 ?_
        refine z_iadd C dX0_step_84 ?_
        refine z_put C (ref := "ShadowWalls$Way") (T := TX0) (N := 9) (ci := 0) (ty := .int) (ws' := (ww a (fU (fU (fU (fU φ 8 0) 0 (((fU φ 8 0) 0) + ((fU φ 8 0) 2))) 6 (((fU (fU φ 8 0) 0 (((fU φ 8 0) 0) + ((fU φ 8 0) 2))) 6) + 1)) 1 (((fU (fU (fU φ 8 0) 0 (((fU φ 8 0) 0) + ((fU φ 8 0) 2))) 6 (((fU (fU φ 8 0) 0 (((fU φ 8 0) 0) + ((fU φ 8 0) 2))) 6) + 1)) 1) + ((fU (fU (fU φ 8 0) 0 (((fU φ 8 0) 0) + ((fU φ 8 0) 2))) 6 (((fU (fU φ 8 0) 0 (((fU φ 8 0) 0) + ((fU φ 8 0) 2))) 6) + 1)) 3))))) 0 1 inU_X0_X0_step tyX0 tyX0_ok nmX0 rfl rfl (by decide) (by decide +kernel) (fun _ h9 => h9) rfl (by decide +kernel) (rfl) (rfl) (Nat.le_of_ble_eq_true rfl) rfl dX0_step_85 ?_
        refine z_aload_n C 2 dX0_step_88 rfl ?_
        refine z_dup C dX0_step_89 rfl ?_
        refine z_get C (v := vI ((fU (fU (fU (fU φ 8 0) 0 (((fU φ 8 0) 0) + ((fU φ 8 0) 2))) 6 (((fU (fU φ 8 0) 0 (((fU φ 8 0) 0) + ((fU φ 8 0) 2))) 6) + 1)) 1 (((fU (fU (fU φ 8 0) 0 (((fU φ 8 0) 0) + ((fU φ 8 0) 2))) 6 (((fU (fU φ 8 0) 0 (((fU φ 8 0) 0) + ((fU φ 8 0) 2))) 6) + 1)) 1) + ((fU (fU (fU φ 8 0) 0 (((fU φ 8 0) 0) + ((fU φ 8 0) 2))) 6 (((fU (fU φ 8 0) 0 (((fU φ 8 0) 0) + ((fU φ 8 0) 2))) 6) + 1)) 3))) 7)) (ref := "ShadowWalls$Way") (T := TX0) (N := 9) (ci := 0) 0 7 inU_X0_X0_step rfl rfl (by decide) (by decide +kernel) (fun _ h9 => h9) rfl dX0_step_90 ?_
        refine z_iconst C dX0_step_93 ?_
        refine z_iadd C dX0_step_94 ?_
        refine z_put C (ref := "ShadowWalls$Way") (T := TX0) (N := 9) (ci := 0) (ty := .int) (ws' := (ww a (fU (fU (fU (fU (fU φ 8 0) 0 (((fU φ 8 0) 0) + ((fU φ 8 0) 2))) 6 (((fU (fU φ 8 0) 0 (((fU φ 8 0) 0) + ((fU φ 8 0) 2))) 6) + 1)) 1 (((fU (fU (fU φ 8 0) 0 (((fU φ 8 0) 0) + ((fU φ 8 0) 2))) 6 (((fU (fU φ 8 0) 0 (((fU φ 8 0) 0) + ((fU φ 8 0) 2))) 6) + 1)) 1) + ((fU (fU (fU φ 8 0) 0 (((fU φ 8 0) 0) + ((fU φ 8 0) 2))) 6 (((fU (fU φ 8 0) 0 (((fU φ 8 0) 0) + ((fU φ 8 0) 2))) 6) + 1)) 3))) 7 (((fU (fU (fU (fU φ 8 0) 0 (((fU φ 8 0) 0) + ((fU φ 8 0) 2))) 6 (((fU (fU φ 8 0) 0 (((fU φ 8 0) 0) + ((fU φ 8 0) 2))) 6) + 1)) 1 (((fU (fU (fU φ 8 0) 0 (((fU φ 8 0) 0) + ((fU φ 8 0) 2))) 6 (((fU (fU φ 8 0) 0 (((fU φ 8 0) 0) + ((fU φ 8 0) 2))) 6) + 1)) 1) + ((fU (fU (fU φ 8 0) 0 (((fU φ 8 0) 0) + ((fU φ 8 0) 2))) 6 (((fU (fU φ 8 0) 0 (((fU φ 8 0) 0) + ((fU φ 8 0) 2))) 6) + 1)) 3))) 7) + 1)))) 0 7 inU_X0_X0_step tyX0 tyX0_ok nmX0 rfl rfl (by decide) (by decide +kernel) (fun _ h9 => h9) rfl (by decide +kernel) (rfl) (rfl) (Nat.le_of_ble_eq_true rfl) rfl dX0_step_95 ?_
        first | exact hret _ _ _ dX0_step_98 ⟨_, rfl, by first | rfl | exact (if_pos (by omega)).symm | exact (if_neg (by omega)).symm | exact (bI_t (by simp; omega)).symm | exact (bI_f (by simp; omega)).symm, by first | rfl | exact (if_pos (by omega)).symm | exact (if_neg (by omega)).symm | exact (bI_t (by simp; omega)).symm | exact (bI_f (by simp; omega)).symm, by first | rfl | exact (if_pos (by omega)).symm | exact (if_neg (by omega)).symm | exact (bI_t (by simp; omega)).symm | exact (bI_f (by simp; omega)).symm, by first | rfl | exact (if_pos (by omega)).symm | exact (if_neg (by omega)).symm | exact (bI_t (by simp; omega)).symm | exact (bI_f (by simp; omega)).symm, by first | rfl | exact (if_pos (by omega)).symm | exact (if_neg (by omega)).symm | exact (bI_t (by simp; omega)).symm | exact (bI_f (by simp; omega)).symm, by first | rfl | exact (if_pos (by omega)).symm | exact (if_neg (by omega)).symm | exact (bI_t (by simp; omega)).symm | exact (bI_f (by simp; omega)).symm, by first | rfl | exact (if_pos (by omega)).symm | exact (if_neg (by omega)).symm | exact (bI_t (by simp; omega)).symm | exact (bI_f (by simp; omega)).symm, by first | rfl | exact (if_pos (by omega)).symm | exact (if_neg (by omega)).symm | exact (bI_t (by simp; omega)).symm | exact (bI_f (by simp; omega)).symm, by first | rfl | exact (if_pos (by omega)).symm | exact (if_neg (by omega)).symm | exact (bI_t (by simp; omega)).symm | exact (bI_f (by simp; omega)).symm⟩ | (exfalso; omega)
  ·
    refine z_iconst C dX0_step_34 ?_
    refine z_goto C (tgt := 39) dX0_step_35 (by decide) ?_
    refine z_put C (ref := "ShadowWalls$Way") (T := TX0) (N := 9) (ci := 0) (ty := .boolean) (ws' := (ww a (fU φ 8 1))) 0 8 inU_X0_X0_step tyX0 tyX0_ok nmX0 rfl rfl (by decide) (by decide +kernel) (fun _ h9 => h9) rfl (by decide +kernel) (by first | rfl | decide) (by first | rfl | decide) (Nat.le_of_ble_eq_true rfl) rfl dX0_step_39 ?_
    refine z_iload_n C 1 dX0_step_42 rfl ?_
    refine z_iload_n C 0 dX0_step_43 rfl ?_
    refine z_icmp_gt C (tgt := 70) dX0_step_44 (by decide) (by omega) (by omega) (fun c_44 => ?_) (fun c_44 => ?_)
    ·
      refine z_iload_n C 1 dX0_step_70 rfl ?_
      refine z_iload_n C 0 dX0_step_71 rfl ?_
      refine z_icmp_lt C (tgt := 98) dX0_step_72 (by decide) (by omega) (by omega) (fun c_72 => ?_) (fun c_72 => ?_)
      ·
        first | exact hret _ _ _ dX0_step_98 ⟨_, rfl, by first | rfl | exact (if_pos (by omega)).symm | exact (if_neg (by omega)).symm | exact (bI_t (by simp; omega)).symm | exact (bI_f (by simp; omega)).symm, by first | rfl | exact (if_pos (by omega)).symm | exact (if_neg (by omega)).symm | exact (bI_t (by simp; omega)).symm | exact (bI_f (by simp; omega)).symm, by first | rfl | exact (if_pos (by omega)).symm | exact (if_neg (by omega)).symm | exact (bI_t (by simp; omega)).symm | exact (bI_f (by simp; omega)).symm, by first | rfl | exact (if_pos (by omega)).symm | exact (if_neg (by omega)).symm | exact (bI_t (by simp; omega)).symm | exact (bI_f (by simp; omega)).symm, by first | rfl | exact (if_pos (by omega)).symm | exact (if_neg (by omega)).symm | exact (bI_t (by simp; omega)).symm | exact (bI_f (by simp; omega)).symm, by first | rfl | exact (if_pos (by omega)).symm | exact (if_neg (by omega)).symm | exact (bI_t (by simp; omega)).symm | exact (bI_f (by simp; omega)).symm, by first | rfl | exact (if_pos (by omega)).symm | exact (if_neg (by omega)).symm | exact (bI_t (by simp; omega)).symm | exact (bI_f (by simp; omega)).symm, by first | rfl | exact (if_pos (by omega)).symm | exact (if_neg (by omega)).symm | exact (bI_t (by simp; omega)).symm | exact (bI_f (by simp; omega)).symm, by first | rfl | exact (if_pos (by omega)).symm | exact (if_neg (by omega)).symm | exact (bI_t (by simp; omega)).symm | exact (bI_f (by simp; omega)).symm⟩ | (exfalso; omega)
      ·
        refine z_aload_n C 2 dX0_step_75 rfl ?_
        refine z_dup C dX0_step_76 rfl ?_
        refine z_get C (v := vI ((fU φ 8 1) 1)) (ref := "ShadowWalls$Way") (T := TX0) (N := 9) (ci := 0) 0 1 inU_X0_X0_step rfl rfl (by decide) (by decide +kernel) (fun _ h9 => h9) rfl dX0_step_77 ?_
        refine z_aload_n C 2 dX0_step_80 rfl ?_
        refine z_get C (v := vI ((fU φ 8 1) 3)) (ref := "ShadowWalls$Way") (T := TX0) (N := 9) (ci := 0) 0 3 inU_X0_X0_step rfl rfl (by decide) (by decide +kernel) (fun _ h9 => h9) rfl dX0_step_81 ?_
        refine z_iadd C dX0_step_84 ?_
        refine z_put C (ref := "ShadowWalls$Way") (T := TX0) (N := 9) (ci := 0) (ty := .int) (ws' := (ww a (fU (fU φ 8 1) 1 (((fU φ 8 1) 1) + ((fU φ 8 1) 3))))) 0 1 inU_X0_X0_step tyX0 tyX0_ok nmX0 rfl rfl (by decide) (by decide +kernel) (fun _ h9 => h9) rfl (by decide +kernel) (rfl) (rfl) (Nat.le_of_ble_eq_true rfl) rfl dX0_step_85 ?_
        refine z_aload_n C 2 dX0_step_88 rfl ?_
        refine z_dup C dX0_step_89 rfl ?_
        refine z_get C (v := vI ((fU (fU φ 8 1) 1 (((fU φ 8 1) 1) + ((fU φ 8 1) 3))) 7)) (ref := "ShadowWalls$Way") (T := TX0) (N := 9) (ci := 0) 0 7 inU_X0_X0_step rfl rfl (by decide) (by decide +kernel) (fun _ h9 => h9) rfl dX0_step_90 ?_
        refine z_iconst C dX0_step_93 ?_
        refine z_iadd C dX0_step_94 ?_
        refine z_put C (ref := "ShadowWalls$Way") (T := TX0) (N := 9) (ci := 0) (ty := .int) (ws' := (ww a (fU (fU (fU φ 8 1) 1 (((fU φ 8 1) 1) + ((fU φ 8 1) 3))) 7 (((fU (fU φ 8 1) 1 (((fU φ 8 1) 1) + ((fU φ 8 1) 3))) 7) + 1)))) 0 7 inU_X0_X0_step tyX0 tyX0_ok nmX0 rfl rfl (by decide) (by decide +kernel) (fun _ h9 => h9) rfl (by decide +kernel) (rfl) (rfl) (Nat.le_of_ble_eq_true rfl) rfl dX0_step_95 ?_
        first | exact hret _ _ _ dX0_step_98 ⟨_, rfl, by first | rfl | exact (if_pos (by omega)).symm | exact (if_neg (by omega)).symm | exact (bI_t (by simp; omega)).symm | exact (bI_f (by simp; omega)).symm, by first | rfl | exact (if_pos (by omega)).symm | exact (if_neg (by omega)).symm | exact (bI_t (by simp; omega)).symm | exact (bI_f (by simp; omega)).symm, by first | rfl | exact (if_pos (by omega)).symm | exact (if_neg (by omega)).symm | exact (bI_t (by simp; omega)).symm | exact (bI_f (by simp; omega)).symm, by first | rfl | exact (if_pos (by omega)).symm | exact (if_neg (by omega)).symm | exact (bI_t (by simp; omega)).symm | exact (bI_f (by simp; omega)).symm, by first | rfl | exact (if_pos (by omega)).symm | exact (if_neg (by omega)).symm | exact (bI_t (by simp; omega)).symm | exact (bI_f (by simp; omega)).symm, by first | rfl | exact (if_pos (by omega)).symm | exact (if_neg (by omega)).symm | exact (bI_t (by simp; omega)).symm | exact (bI_f (by simp; omega)).symm, by first | rfl | exact (if_pos (by omega)).symm | exact (if_neg (by omega)).symm | exact (bI_t (by simp; omega)).symm | exact (bI_f (by simp; omega)).symm, by first | rfl | exact (if_pos (by omega)).symm | exact (if_neg (by omega)).symm | exact (bI_t (by simp; omega)).symm | exact (bI_f (by simp; omega)).symm, by first | rfl | exact (if_pos (by omega)).symm | exact (if_neg (by omega)).symm | exact (bI_t (by simp; omega)).symm | exact (bI_f (by simp; omega)).symm⟩ | (exfalso; omega)
    ·
      refine z_aload_n C 2 dX0_step_47 rfl ?_
      refine z_dup C dX0_step_48 rfl ?_
      refine z_get C (v := vI ((fU φ 8 1) 0)) (ref := "ShadowWalls$Way") (T := TX0) (N := 9) (ci := 0) 0 0 inU_X0_X0_step rfl rfl (by decide) (by decide +kernel) (fun _ h9 => h9) rfl dX0_step_49 ?_
      refine z_aload_n C 2 dX0_step_52 rfl ?_
      refine z_get C (v := vI ((fU φ 8 1) 2)) (ref := "ShadowWalls$Way") (T := TX0) (N := 9) (ci := 0) 0 2 inU_X0_X0_step rfl rfl (by decide) (by decide +kernel) (fun _ h9 => h9) rfl dX0_step_53 ?_
      refine z_iadd C dX0_step_56 ?_
      refine z_put C (ref := "ShadowWalls$Way") (T := TX0) (N := 9) (ci := 0) (ty := .int) (ws' := (ww a (fU (fU φ 8 1) 0 (((fU φ 8 1) 0) + ((fU φ 8 1) 2))))) 0 0 inU_X0_X0_step tyX0 tyX0_ok nmX0 rfl rfl (by decide) (by decide +kernel) (fun _ h9 => h9) rfl (by decide +kernel) (rfl) (rfl) (Nat.le_of_ble_eq_true rfl) rfl dX0_step_57 ?_
      refine z_aload_n C 2 dX0_step_60 rfl ?_
      refine z_dup C dX0_step_61 rfl ?_
      refine z_get C (v := vI ((fU (fU φ 8 1) 0 (((fU φ 8 1) 0) + ((fU φ 8 1) 2))) 6)) (ref := "ShadowWalls$Way") (T := TX0) (N := 9) (ci := 0) 0 6 inU_X0_X0_step rfl rfl (by decide) (by decide +kernel) (fun _ h9 => h9) rfl dX0_step_62 ?_
      refine z_iconst C dX0_step_65 ?_
      refine z_iadd C dX0_step_66 ?_
      refine z_put C (ref := "ShadowWalls$Way") (T := TX0) (N := 9) (ci := 0) (ty := .int) (ws' := (ww a (fU (fU (fU φ 8 1) 0 (((fU φ 8 1) 0) + ((fU φ 8 1) 2))) 6 (((fU (fU φ 8 1) 0 (((fU φ 8 1) 0) + ((fU φ 8 1) 2))) 6) + 1)))) 0 6 inU_X0_X0_step tyX0 tyX0_ok nmX0 rfl rfl (by decide) (by decide +kernel) (fun _ h9 => h9) rfl (by decide +kernel) (rfl) (rfl) (Nat.le_of_ble_eq_true rfl) rfl dX0_step_67 ?_
      refine z_iload_n C 1 dX0_step_70 rfl ?_
      refine z_iload_n C 0 dX0_step_71 rfl ?_
      refine z_icmp_lt C (tgt := 98) dX0_step_72 (by decide) (by omega) (by omega) (fun c_72 => ?_) (fun c_72 => ?_)
      ·
        first | exact hret _ _ _ dX0_step_98 ⟨_, rfl, by first | rfl | exact (if_pos (by omega)).symm | exact (if_neg (by omega)).symm | exact (bI_t (by simp; omega)).symm | exact (bI_f (by simp; omega)).symm, by first | rfl | exact (if_pos (by omega)).symm | exact (if_neg (by omega)).symm | exact (bI_t (by simp; omega)).symm | exact (bI_f (by simp; omega)).symm, by first | rfl | exact (if_pos (by omega)).symm | exact (if_neg (by omega)).symm | exact (bI_t (by simp; omega)).symm | exact (bI_f (by simp; omega)).symm, by first | rfl | exact (if_pos (by omega)).symm | exact (if_neg (by omega)).symm | exact (bI_t (by simp; omega)).symm | exact (bI_f (by simp; omega)).symm, by first | rfl | exact (if_pos (by omega)).symm | exact (if_neg (by omega)).symm | exact (bI_t (by simp; omega)).symm | exact (bI_f (by simp; omega)).symm, by first | rfl | exact (if_pos (by omega)).symm | exact (if_neg (by omega)).symm | exact (bI_t (by simp; omega)).symm | exact (bI_f (by simp; omega)).symm, by first | rfl | exact (if_pos (by omega)).symm | exact (if_neg (by omega)).symm | exact (bI_t (by simp; omega)).symm | exact (bI_f (by simp; omega)).symm, by first | rfl | exact (if_pos (by omega)).symm | exact (if_neg (by omega)).symm | exact (bI_t (by simp; omega)).symm | exact (bI_f (by simp; omega)).symm, by first | rfl | exact (if_pos (by omega)).symm | exact (if_neg (by omega)).symm | exact (bI_t (by simp; omega)).symm | exact (bI_f (by simp; omega)).symm⟩ | (exfalso; omega)
      ·
        refine z_aload_n C 2 dX0_step_75 rfl ?_
        refine z_dup C dX0_step_76 rfl ?_
        refine z_get C (v := vI ((fU (fU (fU φ 8 1) 0 (((fU φ 8 1) 0) + ((fU φ 8 1) 2))) 6 (((fU (fU φ 8 1) 0 (((fU φ 8 1) 0) + ((fU φ 8 1) 2))) 6) + 1)) 1)) (ref := "ShadowWalls$Way") (T := TX0) (N := 9) (ci := 0) 0 1 inU_X0_X0_step rfl rfl (by decide) (by decide +kernel) (fun _ h9 => h9) rfl dX0_step_77 ?_
        refine z_aload_n C 2 dX0_step_80 rfl ?_
        refine z_get C (v := vI ((fU (fU (fU φ 8 1) 0 (((fU φ 8 1) 0) + ((fU φ 8 1) 2))) 6 (((fU (fU φ 8 1) 0 (((fU φ 8 1) 0) + ((fU φ 8 1) 2))) 6) + 1)) 3)) (ref := "ShadowWalls$Way") (T := TX0) (N := 9) (ci := 0) 0 3 inU_X0_X0_step rfl rfl (by decide) (by decide +kernel) (fun _ h9 => h9) rfl dX0_step_81 ?_
        refine z_iadd C dX0_step_84 ?_
        refine z_put C (ref := "ShadowWalls$Way") (T := TX0) (N := 9) (ci := 0) (ty := .int) (ws' := (ww a (fU (fU (fU (fU φ 8 1) 0 (((fU φ 8 1) 0) + ((fU φ 8 1) 2))) 6 (((fU (fU φ 8 1) 0 (((fU φ 8 1) 0) + ((fU φ 8 1) 2))) 6) + 1)) 1 (((fU (fU (fU φ 8 1) 0 (((fU φ 8 1) 0) + ((fU φ 8 1) 2))) 6 (((fU (fU φ 8 1) 0 (((fU φ 8 1) 0) + ((fU φ 8 1) 2))) 6) + 1)) 1) + ((fU (fU (fU φ 8 1) 0 (((fU φ 8 1) 0) + ((fU φ 8 1) 2))) 6 (((fU (fU φ 8 1) 0 (((fU φ 8 1) 0) + ((fU φ 8 1) 2))) 6) + 1)) 3))))) 0 1 inU_X0_X0_step tyX0 tyX0_ok nmX0 rfl rfl (by decide) (by decide +kernel) (fun _ h9 => h9) rfl (by decide +kernel) (rfl) (rfl) (Nat.le_of_ble_eq_true rfl) rfl dX0_step_85 ?_
        refine z_aload_n C 2 dX0_step_88 rfl ?_
        refine z_dup C dX0_step_89 rfl ?_
        refine z_get C (v := vI ((fU (fU (fU (fU φ 8 1) 0 (((fU φ 8 1) 0) + ((fU φ 8 1) 2))) 6 (((fU (fU φ 8 1) 0 (((fU φ 8 1) 0) + ((fU φ 8 1) 2))) 6) + 1)) 1 (((fU (fU (fU φ 8 1) 0 (((fU φ 8 1) 0) + ((fU φ 8 1) 2))) 6 (((fU (fU φ 8 1) 0 (((fU φ 8 1) 0) + ((fU φ 8 1) 2))) 6) + 1)) 1) + ((fU (fU (fU φ 8 1) 0 (((fU φ 8 1) 0) + ((fU φ 8 1) 2))) 6 (((fU (fU φ 8 1) 0 (((fU φ 8 1) 0) + ((fU φ 8 1) 2))) 6) + 1)) 3))) 7)) (ref := "ShadowWalls$Way") (T := TX0) (N := 9) (ci := 0) 0 7 inU_X0_X0_step rfl rfl (by decide) (by decide +kernel) (fun _ h9 => h9) rfl dX0_step_90 ?_
        refine z_iconst C dX0_step_93 ?_
        refine z_iadd C dX0_step_94 ?_
        refine z_put C (ref := "ShadowWalls$Way") (T := TX0) (N := 9) (ci := 0) (ty := .int) (ws' := (ww a (fU (fU (fU (fU (fU φ 8 1) 0 (((fU φ 8 1) 0) + ((fU φ 8 1) 2))) 6 (((fU (fU φ 8 1) 0 (((fU φ 8 1) 0) + ((fU φ 8 1) 2))) 6) + 1)) 1 (((fU (fU (fU φ 8 1) 0 (((fU φ 8 1) 0) + ((fU φ 8 1) 2))) 6 (((fU (fU φ 8 1) 0 (((fU φ 8 1) 0) + ((fU φ 8 1) 2))) 6) + 1)) 1) + ((fU (fU (fU φ 8 1) 0 (((fU φ 8 1) 0) + ((fU φ 8 1) 2))) 6 (((fU (fU φ 8 1) 0 (((fU φ 8 1) 0) + ((fU φ 8 1) 2))) 6) + 1)) 3))) 7 (((fU (fU (fU (fU φ 8 1) 0 (((fU φ 8 1) 0) + ((fU φ 8 1) 2))) 6 (((fU (fU φ 8 1) 0 (((fU φ 8 1) 0) + ((fU φ 8 1) 2))) 6) + 1)) 1 (((fU (fU (fU φ 8 1) 0 (((fU φ 8 1) 0) + ((fU φ 8 1) 2))) 6 (((fU (fU φ 8 1) 0 (((fU φ 8 1) 0) + ((fU φ 8 1) 2))) 6) + 1)) 1) + ((fU (fU (fU φ 8 1) 0 (((fU φ 8 1) 0) + ((fU φ 8 1) 2))) 6 (((fU (fU φ 8 1) 0 (((fU φ 8 1) 0) + ((fU φ 8 1) 2))) 6) + 1)) 3))) 7) + 1)))) 0 7 inU_X0_X0_step tyX0 tyX0_ok nmX0 rfl rfl (by decide) (by decide +kernel) (fun _ h9 => h9) rfl (by decide +kernel) (rfl) (rfl) (Nat.le_of_ble_eq_true rfl) rfl dX0_step_95 ?_
        first | exact hret _ _ _ dX0_step_98 ⟨_, rfl, by first | rfl | exact (if_pos (by omega)).symm | exact (if_neg (by omega)).symm | exact (bI_t (by simp; omega)).symm | exact (bI_f (by simp; omega)).symm, by first | rfl | exact (if_pos (by omega)).symm | exact (if_neg (by omega)).symm | exact (bI_t (by simp; omega)).symm | exact (bI_f (by simp; omega)).symm, by first | rfl | exact (if_pos (by omega)).symm | exact (if_neg (by omega)).symm | exact (bI_t (by simp; omega)).symm | exact (bI_f (by simp; omega)).symm, by first | rfl | exact (if_pos (by omega)).symm | exact (if_neg (by omega)).symm | exact (bI_t (by simp; omega)).symm | exact (bI_f (by simp; omega)).symm, by first | rfl | exact (if_pos (by omega)).symm | exact (if_neg (by omega)).symm | exact (bI_t (by simp; omega)).symm | exact (bI_f (by simp; omega)).symm, by first | rfl | exact (if_pos (by omega)).symm | exact (if_neg (by omega)).symm | exact (bI_t (by simp; omega)).symm | exact (bI_f (by simp; omega)).symm, by first | rfl | exact (if_pos (by omega)).symm | exact (if_neg (by omega)).symm | exact (bI_t (by simp; omega)).symm | exact (bI_f (by simp; omega)).symm, by first | rfl | exact (if_pos (by omega)).symm | exact (if_neg (by omega)).symm | exact (bI_t (by simp; omega)).symm | exact (bI_f (by simp; omega)).symm, by first | rfl | exact (if_pos (by omega)).symm | exact (if_neg (by omega)).symm | exact (bI_t (by simp; omega)).symm | exact (bI_f (by simp; omega)).symm⟩ | (exfalso; omega)

abbrev rm_X1_stoppedBy : Room := { frames := 1, cells := 0, slots := 0, locals := 21 }
set_option maxHeartbeats 4000000 in
set_option maxRecDepth 100000 in
theorem c_X1_stoppedBy (l : Launch) (D : va_G) (cI cJ : ClassId) (h : Nat → Nat) (σ : YS) (LT : Nat → Int) (γ : YS) (φ : Nat → Int) (c : Int) (hc : 0 ≤ c ∧ c < 144) (hO : Ok σ) : Ci l yX1_stoppedBy wsX1_stoppedBy rm_X1_stoppedBy D [(cI, .int), (cJ, .long)] [.ref (h 0), vI c] (cw cI h σ LT γ φ) (fun z u => u = (cw cI h σ LT γ φ) ∧ z = sbK (σ 0) c) := by
  refine z_ofi (own := RX1) (cc := cX1_stoppedBy) (maxL := 2) (lv := [(0, .ref (h 0)), (1, vI c)]) (by decide) rfl rfl (Nat.le_of_ble_eq_true rfl) rfl ?_
  intro p e s m args below meth cd Q A C hret
  refine z_aload_n C 0 dX1_stoppedBy_0 rfl ?_
  refine z_iload_n C 1 dX1_stoppedBy_1 rfl ?_
  refine z_callVi C (As := [vI c]) (st := []) (y := yX1_kindOf) (w := wsX1_kindOf) (rm := rm_X1_kindOf) (wr := []) (k' := 0) (n' := 0) [0, 1, 2, 3, 4, 5, 6, 7, 8] [] 0 (c_X1_kindOf l D cI cJ h σ LT γ φ c (by omega)) (cwV 1 C.1.2.2.2.2 gX1_stoppedBy_X1_kindOf rfl rfl rfl (by decide +kernel) ⟨Nat.le_of_ble_eq_true rfl, Nat.le_of_ble_eq_true rfl⟩) rfl rfl rfl rfl rfl (by decide) rfl rfl rfl rfl (Nat.le_of_ble_eq_true rfl) rfl rfl ⟨Nat.le_of_ble_eq_true rfl, Nat.le_of_ble_eq_true rfl⟩ dX1_stoppedBy_2 ?_
  rintro z_2 _ ⟨rfl, rfl⟩
  refine z_ws (ws' := (cw cI h σ LT γ φ)) rfl ?_
  refine z_st (v' := (σ 0 c.toNat)) rfl ?_
  have r_2 := hO.2.2.2.2 c.toNat
  rcases (show (σ 0 c.toNat) = 1 ∨ (σ 0 c.toNat) = 2 ∨ ((σ 0 c.toNat) ≠ 1 ∧ (σ 0 c.toNat) ≠ 2) by omega) with k_5 | k_5 | k_5
  ·
    refine z_lookup C (off := 27) (tgt := 32) dX1_stoppedBy_5 (by decide) (by omega) (by rw [k_5]; rfl) (by decide) ?_
    refine z_iconst C dX1_stoppedBy_32 ?_
    exact hret _ _ _ _ dX1_stoppedBy_33 ⟨rfl, by first | exact (sb_e rfl).1 k_5 | exact (sb_e rfl).2.1 k_5 | exact (sb_e rfl).2.2 k_5⟩
  ·
    refine z_lookup C (off := 29) (tgt := 34) dX1_stoppedBy_5 (by decide) (by omega) (by rw [k_5]; rfl) (by decide) ?_
    refine z_iconst C dX1_stoppedBy_34 ?_
    exact hret _ _ _ _ dX1_stoppedBy_35 ⟨rfl, by first | exact (sb_e rfl).1 k_5 | exact (sb_e rfl).2.1 k_5 | exact (sb_e rfl).2.2 k_5⟩
  ·
    refine z_lookup C (off := 31) (tgt := 36) dX1_stoppedBy_5 (by decide) (by omega) (by simp only [Op.lookupswitch.offset]; rw [if_neg (by omega), if_neg (by omega)]) (by decide) ?_
    refine z_iconst C dX1_stoppedBy_36 ?_
    exact hret _ _ _ _ dX1_stoppedBy_37 ⟨rfl, by first | exact (sb_e rfl).1 k_5 | exact (sb_e rfl).2.1 k_5 | exact (sb_e rfl).2.2 k_5⟩
