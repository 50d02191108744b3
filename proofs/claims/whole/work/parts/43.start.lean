/-! what the start gives -/
theorem st_arr {s : State} {A : Array Value} {ty : FieldType} (hra : ∀ cA, va_RA s cA ty ↔ s.vm.findClass ("[" ++ ty.toString) = some cA) (h : (Cond.arrayClass ty).before A s = true) : ∃ cA, ArrOfT s cA ty ∧ va_RA s cA ty := by
  obtain ⟨cA, kA, comp, h1, h2, h3⟩ := Cond.arrayClass_spec h
  exact ⟨cA, fun n z => ⟨fun k h => (by cases h), kA, h2, comp, h3⟩, (hra cA).mpr h1⟩
theorem st_K {s : State} {A : Array Value} (hts : ∀ w ∈ lw_tbl, w.before A s = true) : ∃ (D : va_G) (cI cJ : ClassId), va_K D vwCl [(cI, .int), (cJ, .long)] s := by
  obtain ⟨c0, i0, k0⟩ := u_known (C := RX0) (T := TX0) (N := 9) hts (by decide +kernel) (hts (Cond.instantiable RX0 9) (by decide +kernel))
  obtain ⟨c1, i1, k1⟩ := u_known (C := RX1) (T := TX1) (N := 11) hts (by decide +kernel) (hts (Cond.instantiable RX1 11) (by decide +kernel))
  obtain ⟨c2, i2, k2⟩ := u_known (C := RX2) (T := TX2) (N := 14) hts (by decide +kernel) (hts (Cond.instantiable RX2 14) (by decide +kernel))
  obtain ⟨cI, a1, r1⟩ := st_arr (s := s) (ty := .int) (fun _ => Iff.rfl) (hts (Cond.arrayClass .int) (by decide +kernel))
  obtain ⟨cJ, a2, r2⟩ := st_arr (s := s) (ty := .long) (fun _ => Iff.rfl) (hts (Cond.arrayClass .long) (by decide +kernel))
  refine ⟨(fun k => match k with | 0 => c0 | 1 => c1 | _ => c2, fun k => match k with | 0 => i0 | 1 => i1 | _ => i2), cI, cJ, fun c q hq => ?_, fun k q hq => ?_⟩
  · rcases c with _ | _ | _ | c
    · cases hq; exact k0
    · cases hq; exact k1
    · cases hq; exact k2
    · exact absurd hq (by simp)
  · rcases k with _ | _ | k
    · cases hq; exact ⟨a1, r1⟩
    · cases hq; exact ⟨a2, r2⟩
    · exact absurd hq (by simp)
theorem st_N {s : State} {A : Array Value} (hts : ∀ w ∈ lw_tbl, w.before A s = true) : NWs s := by
  have h1 : ∀ w ∈ nestW, w ∈ lw_tbl := by decide +kernel
  have h2 : ∀ w ∈ nestW, w.onTables = true := by decide +kernel
  exact fun w hw => va_Nw.of (h2 w hw) (hts w (h1 w hw))
theorem st_E {s : State} {A : Array Value} (hts : ∀ w ∈ lw_tbl, w.before A s = true) (hgv : (Jvm.Cond.and given_1 narrow_1).before A s = true) : XEs s := by
  have hs := flat_of_before _ hgv
  refine ⟨fun q hq => ?_, fun w hw => ?_⟩
  · have h1 : ∀ q ∈ strW, Cond.stringRef RX1 q.1 q.2 ∈ lw_tbl := by decide +kernel
    have h2 : ∀ q ∈ strW, Cond.exactly (.string RX1 q.1) "java/lang/String" ∈ flatC (Jvm.Cond.and given_1 narrow_1) := by decide +kernel
    obtain ⟨a, _, _, _, h, -⟩ := Cond.exactly_spec (hs _ (h2 q hq))
    exact ⟨a, vk_R.of (hts _ (h1 q hq)) h⟩
  · have h1 : ∀ w ∈ oW, w ∈ lw_tbl ∨ w ∈ flatC (Jvm.Cond.and given_1 narrow_1) := by decide +kernel
    rcases h1 w hw with h | h
    · exact va_Nw.of (isCD_on (oW_cd w hw)) (hts w h)
    · exact va_Nw.of (isCD_on (oW_cd w hw)) (hs w h)
theorem st_Z {s : State} {A : Array Value} {B : Nat → Prop} (hts : ∀ w ∈ lw_tbl, w.before A s = true) (hgv : (Jvm.Cond.and given_1 narrow_1).before A s = true) (hB : ∀ a : Nat, a < s.heap.size → ¬ B a) : XZ B s s.heap := by
  have hs := flat_of_before _ hgv
  have g : ∀ w : Cond, (w ∈ lw_tbl ∨ w ∈ flatC (Jvm.Cond.and given_1 narrow_1)) → w.before A s = true := fun w h => h.elim (hts w) (hs w)
  exact ⟨vx_Zqof (g _ (by decide +kernel)) (g (Cond.initialized Bundle.tN) (by decide +kernel)) (g _ (by decide +kernel)) hB, vx_Zqof (g _ (by decide +kernel)) (g (Cond.initialized Bundle.tN) (by decide +kernel)) (g _ (by decide +kernel)) hB⟩
theorem st_W {s : State} {A : Array Value} (hts : ∀ w ∈ lw_tbl, w.before A s = true) (hgv : (Jvm.Cond.and given_1 narrow_1).before A s = true) : WX s := by
  have hs := flat_of_before _ hgv
  have g : ∀ w : Cond, (w ∈ lw_tbl ∨ w ∈ flatC (Jvm.Cond.and given_1 narrow_1)) → w.before A s = true := fun w h => h.elim (hts w) (hs w)
  have h1 : ∀ E ∈ [xIO, xIA, xIS], Cond.castable E E ∈ lw_tbl ∨ Cond.castable E E ∈ flatC (Jvm.Cond.and given_1 narrow_1) := by decide +kernel
  have h2 : ∀ E ∈ [xIO, xIA, xIS], ∀ F ∈ [xIO, xIA, xIS], E ≠ F → (Cond.not (.castable E F) ∈ lw_tbl ∨ Cond.not (.castable E F) ∈ flatC (Jvm.Cond.and given_1 narrow_1)) := by decide +kernel
  exact ⟨fun E hE => va_Nw.of (isCD_on rfl) (g _ (h1 E hE)), fun E hE F hF hn => va_Nc.of (g _ (h2 E hE F hF hn))⟩
