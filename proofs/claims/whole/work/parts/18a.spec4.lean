/-! creeping always has an answer -/
theorem bi_ex {N : Nat → Nat → Int} {fr : Nat → Bool} {st : Nat} (hst : st < 144) : ∀ (f : Nat) (S Qf : Nat → Int) (many next side : Nat), BI N fr st S Qf many next side → side ≤ 4 → (next < many ∨ side = 0) → 145 * 5 ≤ f + next * 5 + side → ∃ S', DistP N fr st S' := by
  intro f
  induction f with
  | zero =>
    intro S Qf many next side h h1 h2 h3
    have := (bi_r h).1
    rcases h2 with q | q
    · omega
    · subst q
      exact ⟨S, bi_end h (by omega)⟩
  | succ f ih =>
    intro S Qf many next side h h1 h2 h3
    by_cases hn : next < many
    · by_cases h4 : side = 4
      · subst h4
        exact ih _ _ _ _ _ (bi_next h hn) (by omega) (Or.inr rfl) (by omega)
      · by_cases hp : ∃ c : Nat, c < 144 ∧ N (Qf next).toNat side = (c : Int) ∧ fr c = true ∧ S c = -1
        · obtain ⟨c, hc, hN, hf, hS⟩ := hp
          have hb := bi_push h hst hn (by omega) hc hN hf hS
          exact ih _ _ _ _ _ hb.2 (by omega) (Or.inl (by omega)) (by omega)
        · exact ih _ _ _ _ _ (bi_skip h hn (fun c hc hN hf hS => hp ⟨c, hc, hN, hf, hS⟩)) (by omega) (Or.inl hn) (by omega)
    · rcases h2 with q | q
      · omega
      · subst q
        exact ⟨S, bi_end h (by omega)⟩
theorem dist_ex (N : Nat → Nat → Int) (fr : Nat → Bool) {st : Nat} (hst : st < 144) : ∃ S, DistP N fr st S :=
  bi_ex hst (145 * 5) (fun c => if c = st then 0 else -1) (fun _ => (st : Int)) 1 0 0 (bi_0 hst (fun _ _ => rfl) rfl) (by omega) (Or.inr rfl) (by omega)
/-- steps from a cell to another one; -1 if there is no way -/
noncomputable def dS (N : Nat → Nat → Int) (fr : Nat → Bool) (st c : Nat) : Int := if h : st < 144 then (dist_ex N fr h).choose c else 0
theorem dS_of {N : Nat → Nat → Int} {fr : Nat → Bool} {st : Nat} (hst : st < 144) {S : Nat → Int} (h : DistP N fr st S) {c : Nat} (hc : c < 144) : S c = dS N fr st c := by
  unfold dS
  rw [dif_pos hst]
  exact dist_eq hst h (dist_ex N fr hst).choose_spec c hc
theorem dS_p (N : Nat → Nat → Int) (fr : Nat → Bool) {st : Nat} (hst : st < 144) : DistP N fr st (dS N fr st) := by
  have e : dS N fr st = (dist_ex N fr hst).choose := by funext c; unfold dS; rw [dif_pos hst]
  rw [e]
  exact (dist_ex N fr hst).choose_spec
/-! what the calls answer, over the yard σ and the lights LT -/
def litC (LT : Nat → Int) : Int := sm (fun c => bI (decide (LT c ≠ 0))) 144
def lampB (σ : YS) (c : Int) : Bool := anyB (fun k => decide (σ 1 k = c)) (nLa σ)
def tolV (σ : YS) (LT : Nat → Int) (c : Nat) (wh : Int) : Int := if wh = 0 then σ 0 c else if wh = 1 then brC σ LT c else if wh = 2 then sm (fun k => bI (bt (LT c) k)) 4 else if wh = 3 then sm (fun w => bI (decide (σ 3 w = (c : Int)))) (nWa σ) else sm (fun o => bI (seeB σ LT o c)) (nWa σ)
def aboV (σ : YS) (LT : Nat → Int) (k : Nat) (wh : Int) : Int := if wh = 0 then σ 1 k else if wh = 1 then σ 2 k else if wh = 2 then sm (fun c => bI (bt (LT c) k)) 144 else sm (fun c => bI (decide (LT c = 2 ^ k))) 144
def seaV (σ : YS) (LT : Nat → Int) (w : Nat) (wh : Int) : Int := if wh = 0 then σ 3 w else if wh = 1 then sm (fun o => bI (seeB σ LT w o)) 144 else if wh = 2 then bI (hidB σ LT w) else if wh = 3 then bI (decide (LT (σ 3 w).toNat ≠ 0)) else sm (fun o => bI (decide (o ≠ w) && seeB σ LT w (σ 3 o).toNat)) (nWa σ)
def couV (σ : YS) (LT : Nat → Int) (wh : Int) : Int := if wh = 0 then σ 4 0 else if wh = 1 then σ 4 1 else if wh = 2 then sm (fun c => bI (decide (σ 0 c ≠ 0))) 144 else if wh = 3 then litC LT else if wh = 4 then sm (fun c => bI (edF LT c 2) + bI (edF LT c 3)) 144 else if wh = 5 then sm (fun o => bI (hidB σ LT o)) (nWa σ) else if wh = 6 then sm (brC σ LT) 144 else σ 4 2
def woV (σ : YS) (LT : Nat → Int) (c : Nat) (kd : Int) : Int := sm (fun d => bI (anyB (fun k => litB (sU σ 0 c kd) k d) (nLa (sU σ 0 c kd)))) 144 - litC LT
/-- how many cells are lit with lamp k at g -/
def licV (σ : YS) (LT : Nat → Int) (k : Nat) (g : Int) : Int := sm (fun c => bI (decide (bcl (LT c) (2 ^ k) ≠ 0) || litB (sU σ 1 k g) k c)) 144
def adS (σ : YS) (LT : Nat → Int) (k : Nat) : Nat → Int × Int
  | 0 => (-1, litC LT)
  | j + 1 => if nb (σ 1 k) (j : Int) ≠ -1 ∧ lampB σ (nb (σ 1 k) (j : Int)) = false ∧ (adS σ LT k j).2 < licV σ LT k (nb (σ 1 k) (j : Int)) then (nb (σ 1 k) (j : Int), licV σ LT k (nb (σ 1 k) (j : Int))) else adS σ LT k j
def dkS (σ : YS) (LT : Nat → Int) : Nat → Int
  | 0 => -1
  | i + 1 => if σ 0 i = 0 ∧ (dkS σ LT i = -1 ∨ drk σ LT i (dkS σ LT i).toNat = true) then (i : Int) else dkS σ LT i
theorem dkS_r (σ : YS) (LT : Nat → Int) : ∀ i : Nat, i ≤ 144 → -1 ≤ dkS σ LT i ∧ dkS σ LT i < i := by
  intro i
  induction i with
  | zero => intro _; simp [dkS]
  | succ i ih =>
    intro hi
    have := ih (by omega)
    simp only [dkS]
    split <;> omega
theorem litC_r (LT : Nat → Int) : 0 ≤ litC LT ∧ litC LT ≤ 144 := smB_r _ 144
theorem licV_r (σ : YS) (LT : Nat → Int) (k : Nat) (g : Int) : 0 ≤ licV σ LT k g ∧ licV σ LT k g ≤ 144 := smB_r _ 144
theorem adS_r (σ : YS) (LT : Nat → Int) (k : Nat) : ∀ j : Nat, 0 ≤ (adS σ LT k j).2 ∧ (adS σ LT k j).2 ≤ 144 := by
  intro j
  induction j with
  | zero => exact litC_r LT
  | succ j ih =>
    simp only [adS]
    split
    · exact licV_r _ _ _ _
    · exact ih
/-! the yard stays one -/
theorem Ok_kind {σ : YS} {c : Nat} {v : Int} (h : Ok σ) (hv : 0 ≤ v ∧ v < 4) : Ok (sU σ 0 c v) := by
  obtain ⟨h1, h2, h3, h4, h5⟩ := h
  refine ⟨h1, h2, h3, h4, fun j => ?_⟩
  show 0 ≤ (if j = c then v else σ 0 j) ∧ (if j = c then v else σ 0 j) ≤ 3
  have := h5 j
  split <;> omega
theorem Ok_reach {σ : YS} {k : Nat} {v : Int} (h : Ok σ) (hv : 1 ≤ v ∧ v < 13) : Ok (sU σ 2 k v) := by
  obtain ⟨h1, h2, h3, h4, h5⟩ := h
  refine ⟨h1, h2, fun j hj => ?_, h4, h5⟩
  have h6 := h3 j hj
  refine ⟨h6.1, ?_⟩
  show 1 ≤ (if j = k then v else σ 2 j) ∧ (if j = k then v else σ 2 j) ≤ 12
  split <;> omega
theorem Ok_lamp {σ : YS} {c r : Int} (h : Ok σ) (hn : σ 4 0 < 4) (hc : 0 ≤ c ∧ c < 144) (hr : 1 ≤ r ∧ r < 13) : Ok (sU (sU (sU σ 1 (σ 4 0).toNat c) 2 (σ 4 0).toNat r) 4 0 (σ 4 0 + 1)) := by
  obtain ⟨h1, h2, h3, h4, h5⟩ := h
  refine ⟨?_, h2, fun j hj => ?_, h4, h5⟩
  · show 0 ≤ σ 4 0 + 1 ∧ σ 4 0 + 1 ≤ 4
    omega
  · have hj2 : (j : Int) < σ 4 0 + 1 := hj
    show (0 ≤ (if j = (σ 4 0).toNat then c else σ 1 j) ∧ (if j = (σ 4 0).toNat then c else σ 1 j) < 144) ∧ 1 ≤ (if j = (σ 4 0).toNat then r else σ 2 j) ∧ (if j = (σ 4 0).toNat then r else σ 2 j) ≤ 12
    by_cases e : j = (σ 4 0).toNat
    · rw [if_pos e, if_pos e]; omega
    · rw [if_neg e, if_neg e]; exact h3 j (by omega)
theorem Ok_watch {σ : YS} {c : Int} (h : Ok σ) (hn : σ 4 1 < 6) (hc : 0 ≤ c ∧ c < 144) : Ok (sU (sU σ 3 (σ 4 1).toNat c) 4 1 (σ 4 1 + 1)) := by
  obtain ⟨h1, h2, h3, h4, h5⟩ := h
  refine ⟨h1, ?_, h3, fun j hj => ?_, h5⟩
  · show 0 ≤ σ 4 1 + 1 ∧ σ 4 1 + 1 ≤ 6
    omega
  · have hj2 : (j : Int) < σ 4 1 + 1 := hj
    show 0 ≤ (if j = (σ 4 1).toNat then c else σ 3 j) ∧ (if j = (σ 4 1).toNat then c else σ 3 j) < 144
    by_cases e : j = (σ 4 1).toNat
    · rw [if_pos e]; omega
    · rw [if_neg e]; exact h4 j (by omega)
theorem Ok_creep {σ : YS} {w : Nat} {c v : Int} (h : Ok σ) (hc : 0 ≤ c ∧ c < 144) : Ok (sU (sU σ 3 w c) 4 2 v) := by
  obtain ⟨h1, h2, h3, h4, h5⟩ := h
  refine ⟨h1, h2, h3, fun j hj => ?_, h5⟩
  have h6 := h4 j hj
  show 0 ≤ (if j = w then c else σ 3 j) ∧ (if j = w then c else σ 3 j) < 144
  split <;> omega
