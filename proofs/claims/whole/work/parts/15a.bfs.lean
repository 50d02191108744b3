/-! creeping: breadth first, in any order of the sides -/
def DistP (N : Nat → Nat → Int) (fr : Nat → Bool) (st : Nat) (S : Nat → Int) : Prop :=
  S st = 0 ∧ (∀ c : Nat, c < 144 → S c = -1 ∨ 0 ≤ S c) ∧ (∀ c : Nat, c < 144 → c ≠ st → 0 ≤ S c → fr c = true ∧ ∃ b : Nat, b < 144 ∧ 0 ≤ S b ∧ S c = S b + 1 ∧ ∃ s : Nat, s < 4 ∧ N b s = (c : Int)) ∧ (∀ b : Nat, b < 144 → 0 ≤ S b → ∀ s : Nat, s < 4 → ∀ c : Nat, c < 144 → N b s = (c : Int) → fr c = true → 0 ≤ S c ∧ S c ≤ S b + 1)
theorem dist_le {N : Nat → Nat → Int} {fr : Nat → Bool} {st : Nat} (hst : st < 144) {S S' : Nat → Int} (h : DistP N fr st S) (h' : DistP N fr st S') : ∀ (n : Nat) (c : Nat), c < 144 → S c = (n : Int) → 0 ≤ S' c ∧ S' c ≤ n := by
  intro n
  induction n using Nat.strongRecOn with
  | ind n ih =>
    intro c hc hn
    by_cases e : c = st
    · subst e
      rw [h'.1]
      omega
    · obtain ⟨hf, b, hb, hb0, hbe, s, hs, hN⟩ := h.2.2.1 c hc e (by omega)
      have h1 := ih (S b).toNat (by omega) b hb (by omega)
      have h2 := h'.2.2.2 b hb h1.1 s hs c hc hN hf
      omega
theorem dist_eq {N : Nat → Nat → Int} {fr : Nat → Bool} {st : Nat} (hst : st < 144) {S S' : Nat → Int} (h : DistP N fr st S) (h' : DistP N fr st S') (c : Nat) (hc : c < 144) : S c = S' c := by
  rcases h.2.1 c hc with q | q
  · rcases h'.2.1 c hc with r | r
    · omega
    · have := dist_le hst h' h (S' c).toNat c hc (by omega)
      omega
  · have h1 := dist_le hst h h' (S c).toNat c hc (by omega)
    have h2 := dist_le hst h' h (S' c).toNat c hc (by omega)
    omega
theorem dist_N {N N' : Nat → Nat → Int} {fr fr' : Nat → Bool} {st : Nat} {S : Nat → Int} (hN : ∀ b : Nat, b < 144 → ∀ c : Nat, (∃ s : Nat, s < 4 ∧ N b s = (c : Int)) ↔ ∃ s : Nat, s < 4 ∧ N' b s = (c : Int)) (hf : ∀ c : Nat, c < 144 → fr c = fr' c) (h : DistP N fr st S) : DistP N' fr' st S := by
  obtain ⟨h1, h2, h3, h4⟩ := h
  refine ⟨h1, h2, fun c hc e h0 => ?_, fun b hb h0 s hs c hc e hfr => ?_⟩
  · obtain ⟨g1, b, g2, g3, g4, g5⟩ := h3 c hc e h0
    exact ⟨by rw [← hf c hc]; exact g1, b, g2, g3, g4, (hN b g2 c).mp g5⟩
  · obtain ⟨s', hs', e'⟩ := (hN b hb c).mpr ⟨s, hs, e⟩
    exact h4 b hb h0 s' hs' c hc e' (by rw [hf c hc]; exact hfr)
/-- how many are reached -/
def cV (S : Nat → Int) (n : Nat) : Int := sm (fun c => bI (decide (S c ≠ -1))) n
theorem cV_set {S : Nat → Int} {c : Nat} {v : Int} (h0 : S c = -1) (hv : v ≠ -1) : ∀ n, cV (fU S c v) n = cV S n + (if c < n then 1 else 0) := by
  intro n
  induction n with
  | zero => rfl
  | succ n ih =>
    unfold cV at ih ⊢
    simp only [sm]
    rw [ih]
    by_cases e : n = c
    · subst e
      rw [if_neg (Nat.lt_irrefl _), if_pos (Nat.lt_succ_self _)]
      have e1 : bI (decide (fU S n v n ≠ -1)) = 1 := bI_t (decide_eq_true (by unfold fU; rw [if_pos rfl]; exact hv))
      have e2 : bI (decide (S n ≠ -1)) = 0 := bI_f (decide_eq_false (fun q => q h0))
      rw [e1, e2]
      try omega
    · have e1 : fU S c v n = S n := if_neg e
      rw [e1]
      by_cases e2 : c < n
      · rw [if_pos e2, if_pos (by omega)]; omega
      · rw [if_neg e2, if_neg (by omega)]; omega
theorem cV_le {S : Nat → Int} {c : Nat} (h0 : S c = -1) : ∀ n, cV S n ≤ n - (if c < n then 1 else 0) := by
  intro n
  induction n with
  | zero => simp [cV, sm]
  | succ n ih =>
    unfold cV at ih ⊢
    simp only [sm]
    have hb := bI_r (decide (S n ≠ -1))
    by_cases e : n = c
    · subst e
      rw [if_neg (Nat.lt_irrefl _)] at ih
      rw [if_pos (Nat.lt_succ_self _)]
      have e2 : bI (decide (S n ≠ -1)) = 0 := bI_f (decide_eq_false (fun q => q h0))
      omega
    · by_cases e2 : c < n
      · rw [if_pos e2] at ih; rw [if_pos (by omega)]; omega
      · rw [if_neg e2] at ih; rw [if_neg (by omega)]; omega
/-- the search at a place of the queue and a side -/
def BI (N : Nat → Nat → Int) (fr : Nat → Bool) (st : Nat) (S Qf : Nat → Int) (many next side : Nat) : Prop :=
  (1 ≤ many ∧ cV S 144 = many) ∧ (S st = 0 ∧ Qf 0 = st) ∧ (∀ j : Nat, j < many → (0 ≤ Qf j ∧ Qf j < 144) ∧ 0 ≤ S (Qf j).toNat ∧ S (Qf j).toNat ≤ j) ∧
  (∀ c : Nat, c < 144 → S c = -1 ∨ ∃ j : Nat, j < many ∧ Qf j = (c : Int)) ∧ (∀ i j : Nat, i ≤ j → j < many → S (Qf i).toNat ≤ S (Qf j).toNat) ∧ (∀ j : Nat, j < many → next < many → S (Qf j).toNat ≤ S (Qf next).toNat + 1) ∧
  (∀ j : Nat, j < many → (j < next ∨ j = next) → ∀ s : Nat, s < 4 → (j < next ∨ s < side) → ∀ c : Nat, c < 144 → N (Qf j).toNat s = (c : Int) → fr c = true → 0 ≤ S c ∧ S c ≤ S (Qf j).toNat + 1) ∧
  (∀ c : Nat, c < 144 → c ≠ st → 0 ≤ S c → fr c = true ∧ ∃ b : Nat, b < 144 ∧ 0 ≤ S b ∧ S c = S b + 1 ∧ ∃ s : Nat, s < 4 ∧ N b s = (c : Int))
theorem bi_0 {N : Nat → Nat → Int} {fr : Nat → Bool} {st : Nat} (hst : st < 144) {S Qf : Nat → Int} (hS : ∀ c : Nat, c < 144 → S c = if c = st then 0 else -1) (hQ : Qf 0 = st) : BI N fr st S Qf 1 0 0 := by
  have h0 : S st = 0 := by rw [hS st hst, if_pos rfl]
  have hq : (Qf 0).toNat = st := by rw [hQ]; rfl
  have hj : ∀ j, j < 1 → j = 0 := fun j h => by omega
  refine ⟨⟨Nat.le_refl _, ?_⟩, ⟨h0, hQ⟩, fun j h => ?_, fun c hc => ?_, fun i j h1 h2 => ?_, fun j h _ => ?_, fun j h1 h2 s h3 h4 => ?_, fun c hc e h1 => ?_⟩
  · have e1 : cV S 144 = cV (fU (fun _ => -1) st 0) 144 := sm_e 144 (fun c hc => by
      show bI (decide (S c ≠ -1)) = bI (decide (fU (fun _ => -1) st 0 c ≠ -1))
      rw [hS c hc]; rfl)
    rw [e1, cV_set (S := fun _ => -1) (c := st) (v := 0) rfl (by decide), if_pos hst]
    have e2 : cV (fun _ => -1) 144 = 0 := by decide +kernel
    omega
  · obtain rfl := hj j h
    rw [hq, h0, hQ]
    omega
  · by_cases e : c = st
    · exact Or.inr ⟨0, by omega, by rw [hQ, e]⟩
    · exact Or.inl (by rw [hS c hc, if_neg e])
  · obtain rfl := hj j h2
    obtain rfl : i = 0 := by omega
    exact Int.le_refl _
  · obtain rfl := hj j h
    omega
  · omega
  · rw [hS c hc, if_neg e] at h1
    omega
theorem bi_skip {N : Nat → Nat → Int} {fr : Nat → Bool} {st : Nat} {S Qf : Nat → Int} {many next side : Nat} (h : BI N fr st S Qf many next side) (hn : next < many) (hx : ∀ c : Nat, c < 144 → N (Qf next).toNat side = (c : Int) → fr c = true → S c ≠ -1) : BI N fr st S Qf many next (side + 1) := by
  obtain ⟨h1, h2, h3, h4, h5, h6, h7, h8⟩ := h
  refine ⟨h1, h2, h3, h4, h5, h6, fun j hj hjn s hs hd c hc hN hf => ?_, h8⟩
  by_cases e : j = next ∧ s = side
  · obtain ⟨rfl, rfl⟩ := e
    rcases h4 c hc with q | ⟨i, hi, e⟩
    · exact absurd q (hx c hc hN hf)
    · have e2 : (Qf i).toNat = c := by rw [e]; rfl
      have := h6 i hi hj
      have := h3 i hi
      rw [e2] at *
      omega
  · exact h7 j hj hjn s hs (by omega) c hc hN hf
theorem bi_push {N : Nat → Nat → Int} {fr : Nat → Bool} {st : Nat} {S Qf : Nat → Int} {many next side c : Nat} (h : BI N fr st S Qf many next side) (hst : st < 144) (hn : next < many) (hsd : side < 4) (hc : c < 144) (hN : N (Qf next).toNat side = (c : Int)) (hf : fr c = true) (hS : S c = -1) :
    many < 144 ∧ BI N fr st (fU S c (S (Qf next).toNat + 1)) (fU Qf many (c : Int)) (many + 1) next (side + 1) := by
  obtain ⟨h1, h2, h3, h4, h5, h6, h7, h8⟩ := h
  have hm : many < 144 := by
    have := cV_le hS 144
    rw [if_pos hc] at this
    omega
  have hb := h3 next hn
  have hcs : c ≠ st := fun e => by rw [e, h2.1] at hS; omega
  have hne : ∀ j : Nat, j < many → (Qf j).toNat ≠ c := fun j hj e => by have := (h3 j hj).2; rw [e, hS] at this; omega
  have eS : ∀ d, d ≠ c → fU S c (S (Qf next).toNat + 1) d = S d := fun d hd => if_neg hd
  have eS' : fU S c (S (Qf next).toNat + 1) c = S (Qf next).toNat + 1 := if_pos rfl
  have eQ : ∀ j : Nat, j < many → fU Qf many (c : Int) j = Qf j := fun j hj => if_neg (by omega)
  have eQ' : fU Qf many (c : Int) many = (c : Int) := if_pos rfl
  have ec : ((c : Int)).toNat = c := rfl
  have hjj : ∀ j : Nat, j < many + 1 → j < many ∨ j = many := fun j hj => by omega
  refine ⟨hm, ⟨by omega, ?_⟩, ⟨?_, ?_⟩, fun j hj => ?_, fun d hd => ?_, fun i j hij hj => ?_, fun j hj hn2 => ?_, fun j hj hjn s hs hd d hd2 hN2 hf2 => ?_, fun d hd e h0 => ?_⟩
  · rw [cV_set hS (by omega), if_pos hc, h1.2]
    omega
  · rw [eS _ (fun e => hcs e.symm)]; exact h2.1
  · rw [eQ 0 (by omega)]; exact h2.2
  · rcases hjj j hj with q | q
    · rw [eQ j q, eS _ (hne j q)]; exact h3 j q
    · subst q
      rw [eQ', ec, eS']
      omega
  · by_cases e : d = c
    · subst e; exact Or.inr ⟨many, by omega, eQ'⟩
    · rw [eS d e]
      rcases h4 d hd with q | ⟨j, hj, q⟩
      · exact Or.inl q
      · exact Or.inr ⟨j, by omega, by rw [eQ j hj]; exact q⟩
  · rcases hjj j hj with q | q
    · rw [eQ i (by omega), eQ j q, eS _ (hne i (by omega)), eS _ (hne j q)]; exact h5 i j hij q
    · subst q
      rw [eQ', ec, eS']
      by_cases e : i = j
      · subst e; rw [eQ', ec, eS']; omega
      · rw [eQ i (by omega), eS _ (hne i (by omega))]; exact h6 i (by omega) hn
  · rw [eQ next hn, eS _ (hne next hn)]
    rcases hjj j hj with q | q
    · rw [eQ j q, eS _ (hne j q)]; exact h6 j q hn
    · subst q; rw [eQ', ec, eS']; omega
  · have hjm : j < many := by omega
    rw [eQ j hjm] at hN2 ⊢
    rw [eS _ (hne j hjm)]
    by_cases e : d = c
    · subst e
      rw [eS']
      rcases hjn with q | q
      · -- an earlier place would have reached it
        have := h7 j hjm (Or.inl q) s hs (Or.inl q) d hd2 hN2 hf2
        omega
      · subst q; omega
    · rw [eS d e]
      by_cases e2 : j = next ∧ s = side
      · obtain ⟨rfl, rfl⟩ := e2
        rw [hN] at hN2
        omega
      · exact h7 j hjm hjn s hs (by omega) d hd2 hN2 hf2
  · by_cases e2 : d = c
    · subst e2
      refine ⟨hf, (Qf next).toNat, by omega, ?_, ?_, side, hsd, hN⟩
      · rw [eS _ (hne next hn)]; exact hb.2.1
      · rw [eS', eS _ (hne next hn)]
    · rw [eS d e2] at h0 ⊢
      obtain ⟨g1, b, g2, g3, g4, g5⟩ := h8 d hd e h0
      have hbc : b ≠ c := fun q => by rw [q, hS] at g3; omega
      exact ⟨g1, b, g2, by rw [eS b hbc]; exact g3, by rw [eS b hbc]; exact g4, g5⟩
theorem bi_next {N : Nat → Nat → Int} {fr : Nat → Bool} {st : Nat} {S Qf : Nat → Int} {many next : Nat} (h : BI N fr st S Qf many next 4) (hn : next < many) : BI N fr st S Qf many (next + 1) 0 := by
  obtain ⟨h1, h2, h3, h4, h5, h6, h7, h8⟩ := h
  refine ⟨h1, h2, h3, h4, h5, fun j hj hn2 => ?_, fun j hj hjn s hs hd c hc hN hf => ?_, h8⟩
  · have := h6 j hj hn
    have := h5 next (next + 1) (by omega) hn2
    omega
  · exact h7 j hj (by omega) s hs (by omega) c hc hN hf
theorem bi_end {N : Nat → Nat → Int} {fr : Nat → Bool} {st : Nat} {S Qf : Nat → Int} {many next : Nat} (h : BI N fr st S Qf many next 0) (hn : many ≤ next) : DistP N fr st S := by
  obtain ⟨h1, h2, h3, h4, h5, h6, h7, h8⟩ := h
  refine ⟨h2.1, fun c hc => ?_, h8, fun b hb h0 s hs c hc hN hf => ?_⟩
  · rcases h4 c hc with q | ⟨j, hj, q⟩
    · exact Or.inl q
    · have := h3 j hj
      rw [q] at this
      exact Or.inr this.2.1
  · rcases h4 b hb with q | ⟨j, hj, q⟩
    · omega
    · have e : (Qf j).toNat = b := by rw [q]; rfl
      have := h7 j hj (Or.inl (by omega)) s hs (Or.inl (by omega)) c hc (by rw [e]; exact hN) hf
      rw [e] at this
      exact this
theorem bi_r {N : Nat → Nat → Int} {fr : Nat → Bool} {st : Nat} {S Qf : Nat → Int} {many next side : Nat} (h : BI N fr st S Qf many next side) : many ≤ 144 ∧ ∀ c : Nat, c < 144 → -1 ≤ S c ∧ S c ≤ 143 := by
  obtain ⟨h1, h2, h3, h4, -⟩ := h
  have hm : many ≤ 144 := by
    have := smB_r (fun c => decide (S c ≠ -1)) 144
    have e : cV S 144 = sm (fun c => bI (decide (S c ≠ -1))) 144 := rfl
    omega
  refine ⟨hm, fun c hc => ?_⟩
  rcases h4 c hc with q | ⟨j, hj, q⟩
  · omega
  · have h9 := h3 j hj
    rw [q] at h9
    have h10 : 0 ≤ S c ∧ S c ≤ j := h9.2
    omega
