/-! the reference's world; what it reckons -/
def mx (cI : ClassId) (h : Nat → Nat) (σ : YS) (LI BR : Nat → Int) (γ : YS) (φ : Nat → Int) (θ : Int) : va_W :=
  [(h 0, .inr (2, [vI θ, .ref (h 1), vI (σ 4 0), .ref (h 2), .ref (h 3), vI (σ 4 1), .ref (h 4), vI (σ 4 2), .ref (h 5), .ref (h 6), .ref (h 7), .ref (h 8), vI (φ 0), vI (φ 1)])),
   (h 1, ri cI 144 (σ 0)), (h 2, ri cI 4 (σ 1)), (h 3, ri cI 4 (σ 2)), (h 4, ri cI 6 (σ 3)), (h 5, ri cI 144 LI), (h 6, ri cI 144 BR), (h 7, ri cI 144 (γ 0)), (h 8, ri cI 144 (γ 1))]
def lgV (σ : YS) (c : Nat) : Int := sm (fun k => bI (litB σ k c)) (nLa σ)
def brG (σ : YS) (c k : Nat) : Int := if litB σ k c then σ 2 k - mxZ (abZ (dX σ k c)) (abZ (dY σ k c)) else 0
def brV (σ : YS) (c : Nat) : Int := sm (brG σ c) (nLa σ)
def lkF (f g : Nat → Int) (i : Nat) : Nat → Int := fun c => if c < i then f c else g c
def LI4 (LI : Nat → Int) : Prop := ∀ i : Nat, 0 ≤ LI i ∧ LI i ≤ 4
def BR9 (BR : Nat → Int) : Prop := ∀ i : Nat, -100 ≤ BR i ∧ BR i ≤ 100
theorem lkF_0 (f g : Nat → Int) : lkF f g 0 = g := by funext c; simp [lkF]
theorem lkF_s {f g : Nat → Int} {i : Nat} {v : Int} (h : v = f i) : fU (lkF f g i) i v = lkF f g (i + 1) := by
  funext c
  unfold fU lkF
  by_cases h1 : c = i
  · subst h1; simp [h]
  · rw [if_neg h1]
    by_cases h2 : c < i
    · rw [if_pos h2, if_pos (show c < i + 1 by omega)]
    · rw [if_neg h2, if_neg (show ¬ c < i + 1 by omega)]
theorem fU_fU (f : Nat → Int) (i : Nat) (v w : Int) : fU (fU f i v) i w = fU f i w := by
  funext c
  unfold fU
  split <;> rfl
theorem fU_s (f : Nat → Int) (i : Nat) (v : Int) : fU f i v i = v := if_pos rfl
theorem lgV_r {σ : YS} (hO : Ok σ) (c : Nat) : 0 ≤ lgV σ c ∧ lgV σ c ≤ 4 := by
  have h1 := smB_r (fun k => litB σ k c) (nLa σ)
  have h2 := nLa_e hO
  have h3 := hO.1
  have e : lgV σ c = sm (fun k => bI (litB σ k c)) (nLa σ) := rfl
  omega
theorem brG_r {σ : YS} (hO : Ok σ) {c k : Nat} (hc : c < 144) (hk : k < nLa σ) : -11 ≤ brG σ c k ∧ brG σ c k ≤ 12 := by
  have hn := nLa_e hO
  have h1 := hO.2.2.1 k (by omega)
  have a1 := abZ_c (dX σ k c)
  have a2 := abZ_c (dY σ k c)
  have a3 := mxZ_c (abZ (dX σ k c)) (abZ (dY σ k c))
  unfold brG
  split
  · unfold dX dY at *; omega
  · omega
theorem brGs_r {σ : YS} (hO : Ok σ) {c : Nat} (hc : c < 144) : ∀ i : Nat, i ≤ nLa σ → -11 * (i : Int) ≤ sm (brG σ c) i ∧ sm (brG σ c) i ≤ 12 * i := fun i hi => sm_r (by omega) (by omega) i (fun k hk => brG_r hO hc (by omega))
theorem brV_r {σ : YS} (hO : Ok σ) {c : Nat} (hc : c < 144) : -44 ≤ brV σ c ∧ brV σ c ≤ 48 := by
  have hn := nLa_e hO
  have h1 := hO.1
  have := brGs_r hO hc (nLa σ) (Nat.le_refl _)
  unfold brV
  omega
theorem lkL_r {σ : YS} (hO : Ok σ) {LI : Nat → Int} (h : LI4 LI) (i : Nat) : LI4 (lkF (lgV σ) LI i) := by
  intro c
  unfold lkF
  split
  · exact lgV_r hO c
  · exact h c
theorem lkB_r {σ : YS} (hO : Ok σ) {BR : Nat → Int} (h : BR9 BR) {i : Nat} (hi : i ≤ 144) : BR9 (lkF (brV σ) BR i) := by
  intro c
  unfold lkF
  split
  · have := brV_r hO (c := c) (by omega); omega
  · exact h c
theorem abZ_n (a b : Int) : abZ (a - b) = abZ (b - a) := by
  have h1 := abZ_c (a - b)
  have h2 := abZ_c (b - a)
  omega
theorem abZ_sq (a : Int) : abZ a * abZ a = a * a := by
  unfold abZ
  split
  · rfl
  · exact Int.neg_mul_neg a a
/-- the reference's neighbour -/
def bes (c s : Int) : Int := if s = 0 then (if c % 12 > 0 then c - 1 else -1) else if s = 1 then (if c % 12 < 11 then c + 1 else -1) else if s = 2 then (if c / 12 > 0 then c - 12 else -1) else if s = 3 then (if c / 12 < 11 then c + 12 else -1) else c
def besN (b s : Nat) : Int := bes b s
theorem bes_r {c s : Int} (hc : 0 ≤ c ∧ c < 144) (hs : 0 ≤ s ∧ s < 4) : bes c s = -1 ∨ (0 ≤ bes c s ∧ bes c s < 144) := by
  unfold bes
  repeat' split
  all_goals omega
theorem bes_nb {c s : Int} : bes c 0 = nb c 1 ∧ bes c 1 = nb c 2 ∧ bes c 2 = nb c 0 ∧ bes c 3 = nb c 3 := by
  unfold bes nb
  refine ⟨?_, ?_, ?_, ?_⟩ <;> rfl
theorem bes_adj (b : Nat) (c : Nat) : (∃ s : Nat, s < 4 ∧ besN b s = (c : Int)) ↔ ∃ s : Nat, s < 4 ∧ nbN b s = (c : Int) := by
  obtain ⟨e0, e1, e2, e3⟩ := bes_nb (c := (b : Int)) (s := 0)
  have hs : ∀ s : Nat, s < 4 → s = 0 ∨ s = 1 ∨ s = 2 ∨ s = 3 := fun s h => by omega
  constructor
  · rintro ⟨s, h1, h2⟩
    rcases hs s h1 with rfl | rfl | rfl | rfl
    · exact ⟨1, by omega, e0.symm.trans h2⟩
    · exact ⟨2, by omega, e1.symm.trans h2⟩
    · exact ⟨0, by omega, e2.symm.trans h2⟩
    · exact ⟨3, by omega, e3.symm.trans h2⟩
  · rintro ⟨s, h1, h2⟩
    rcases hs s h1 with rfl | rfl | rfl | rfl
    · exact ⟨2, by omega, e2.trans h2⟩
    · exact ⟨0, by omega, e0.trans h2⟩
    · exact ⟨1, by omega, e1.trans h2⟩
    · exact ⟨3, by omega, e3.trans h2⟩
theorem ryH_end {K : Nat → Int} {fx fy sx sy nx ny ix iy s g : Int} (h : ¬ (ix < nx ∨ iy < ny)) : ∀ f : Nat, ryH K fx fy sx sy nx ny f ix iy s g = (s, g)
  | 0 => rfl
  | f + 1 => by simp only [ryH]; rw [if_neg h]
/-- the way has come to its end just at the last cell -/
theorem cl_t {f t ix iy : Int} (hf : 0 ≤ f ∧ f < 144) (ht : 0 ≤ t ∧ t < 144) (h1 : 0 ≤ ix ∧ ix ≤ abZ (t % 12 - f % 12)) (h2 : 0 ≤ iy ∧ iy ≤ abZ (t / 12 - f / 12)) :
    cl (f % 12) (f / 12) (sgZ (t % 12 - f % 12)) (sgZ (t / 12 - f / 12)) ix iy = t ↔ ¬ (ix < abZ (t % 12 - f % 12) ∨ iy < abZ (t / 12 - f / 12)) := by
  have g1 := pos_in (f := f % 12) (t := t % 12) (i := ix) (by omega) (by omega) h1
  have g2 := pos_in (f := f / 12) (t := t / 12) (i := iy) (by omega) (by omega) h2
  have a1 := abZ_c (t % 12 - f % 12)
  have a2 := abZ_c (t / 12 - f / 12)
  unfold cl
  rcases sgZ_c (t % 12 - f % 12) with ⟨b1, e1⟩ | ⟨b1, e1⟩ | ⟨b1, e1⟩ <;> rcases sgZ_c (t / 12 - f / 12) with ⟨b2, e2⟩ | ⟨b2, e2⟩ | ⟨b2, e2⟩ <;> rw [e1, e2] <;> rw [e1] at g1 <;> rw [e2] at g2 <;> omega
