/-! what a yard is, as whole numbers: σ 0 kinds, σ 1 cells of lamps, σ 2 reaches, σ 3 cells of watchers, σ 4 how many lamps, watchers, steps crept -/
abbrev YS : Type := Nat → Nat → Int
def sA (σ : YS) (a : Nat) (f : Nat → Int) : YS := fun i => if i = a then f else σ i
def sU (σ : YS) (a k : Nat) (v : Int) : YS := sA σ a (fun j => if j = k then v else σ a j)
def fU (f : Nat → Int) (k : Nat) (v : Int) : Nat → Int := fun j => if j = k then v else f j
abbrev ri (cA : ClassId) (N : Nat) (f : Nat → Int) : va_E := .inl (cA, N, .inl (fun j => iI (f j)))
abbrev wayE (φ : Nat → Int) : va_E := .inr (0, [vI (φ 0), vI (φ 1), vI (φ 2), vI (φ 3), vI (φ 4), vI (φ 5), vI (φ 6), vI (φ 7), vI (φ 8)])
/-- the world of the class: its object, seven rows, the way -/
def cw (cI : ClassId) (h : Nat → Nat) (σ : YS) (LT : Nat → Int) (γ : YS) (φ : Nat → Int) : va_W :=
  [(h 0, .inr (1, [.ref (h 1), .ref (h 2), .ref (h 3), .ref (h 4), .ref (h 5), .ref (h 6), .ref (h 7), .ref (h 8), vI (σ 4 0), vI (σ 4 1), vI (σ 4 2)])),
   (h 1, ri cI 144 (σ 0)), (h 2, ri cI 4 (σ 1)), (h 3, ri cI 4 (σ 2)), (h 4, ri cI 6 (σ 3)), (h 5, ri cI 144 LT), (h 6, ri cI 144 (γ 0)), (h 7, ri cI 144 (γ 1)), (h 8, wayE φ)]
/-- the world of the way alone -/
def ww (a : Nat) (φ : Nat → Int) : va_W := [(a, wayE φ)]
/-- the world of the reference: its object, eight rows -/
def mw (cI : ClassId) (h : Nat → Nat) (σ : YS) (LI BR : Nat → Int) (γ : YS) (φ : Nat → Int) : va_W :=
  [(h 0, .inr (2, [vI (φ 0), .ref (h 1), vI (σ 4 0), .ref (h 2), .ref (h 3), vI (σ 4 1), .ref (h 4), vI (σ 4 2), .ref (h 5), .ref (h 6), .ref (h 7), .ref (h 8), vI (φ 1), vI (φ 2)])),
   (h 1, ri cI 144 (σ 0)), (h 2, ri cI 4 (σ 1)), (h 3, ri cI 4 (σ 2)), (h 4, ri cI 6 (σ 3)), (h 5, ri cI 144 LI), (h 6, ri cI 144 BR), (h 7, ri cI 144 (γ 0)), (h 8, ri cI 144 (γ 1))]
theorem sA_s (σ : YS) (a : Nat) (f : Nat → Int) : sA σ a f a = f := if_pos rfl
theorem sA_n (σ : YS) {a i : Nat} (f : Nat → Int) (h : i ≠ a) : sA σ a f i = σ i := if_neg h
/-! sums, whether any, small things -/
def sm (f : Nat → Int) : Nat → Int
  | 0 => 0
  | n + 1 => sm f n + f n
def bI (b : Bool) : Int := if b then 1 else 0
def anyB (f : Nat → Bool) : Nat → Bool
  | 0 => false
  | n + 1 => anyB f n || f n
theorem bI_01 (b : Bool) : bI b = 0 ∨ bI b = 1 := by cases b <;> simp [bI]
theorem bI_r (b : Bool) : 0 ≤ bI b ∧ bI b ≤ 1 := by cases b <;> simp [bI]
theorem bI_0 {b : Bool} : bI b = 0 ↔ b = false := by cases b <;> simp [bI]
theorem bI_n {b : Bool} : bI b ≠ 0 ↔ b = true := by cases b <;> simp [bI]
theorem sm_r {f : Nat → Int} {a b : Int} (ha : a ≤ 0) (hb : 0 ≤ b) (n : Nat) (h : ∀ i, i < n → a ≤ f i ∧ f i ≤ b) : a * n ≤ sm f n ∧ sm f n ≤ b * n := by
  induction n with
  | zero => simp [sm]
  | succ n ih =>
    have h1 := ih (fun i hi => h i (by omega))
    have h2 := h n (by omega)
    simp only [sm]
    have e1 : a * ((n + 1 : Nat) : Int) = a * n + a := by rw [Int.natCast_add, Int.mul_add]; simp
    have e2 : b * ((n + 1 : Nat) : Int) = b * n + b := by rw [Int.natCast_add, Int.mul_add]; simp
    omega
theorem sm_e {f g : Nat → Int} (n : Nat) (h : ∀ i, i < n → f i = g i) : sm f n = sm g n := by
  induction n with
  | zero => rfl
  | succ n ih =>
    simp only [sm]
    rw [ih (fun i hi => h i (by omega)), h n (by omega)]
theorem anyB_t {f : Nat → Bool} {n : Nat} : anyB f n = true ↔ ∃ i, i < n ∧ f i = true := by
  induction n with
  | zero => simp [anyB]
  | succ n ih =>
    simp only [anyB, Bool.or_eq_true, ih]
    constructor
    · rintro (⟨i, h1, h2⟩ | h)
      · exact ⟨i, by omega, h2⟩
      · exact ⟨n, by omega, h⟩
    · rintro ⟨i, h1, h2⟩
      by_cases hi : i = n
      · exact Or.inr (hi ▸ h2)
      · exact Or.inl ⟨i, by omega, h2⟩
theorem anyB_e {f g : Nat → Bool} (n : Nat) (h : ∀ i, i < n → f i = g i) : anyB f n = anyB g n := by
  induction n with
  | zero => rfl
  | succ n ih =>
    simp only [anyB]
    rw [ih (fun i hi => h i (by omega)), h n (by omega)]
def abZ (a : Int) : Int := if 0 ≤ a then a else -a
def mxZ (a b : Int) : Int := if a < b then b else a
def sgZ (a : Int) : Int := if 0 < a then 1 else if a < 0 then -1 else 0
def band (a b : Int) : Int := ((a.toNat &&& b.toNat : Nat) : Int)
def bor (a b : Int) : Int := ((a.toNat ||| b.toNat : Nat) : Int)
theorem abZ_c (a : Int) : (0 ≤ a ∧ abZ a = a) ∨ (a < 0 ∧ abZ a = -a) := by unfold abZ; split <;> omega
theorem mxZ_c (a b : Int) : (a < b ∧ mxZ a b = b) ∨ (b ≤ a ∧ mxZ a b = a) := by unfold mxZ; split <;> omega
theorem sgZ_c (a : Int) : (0 < a ∧ sgZ a = 1) ∨ (a < 0 ∧ sgZ a = -1) ∨ (a = 0 ∧ sgZ a = 0) := by unfold sgZ; split <;> (try split) <;> omega
/-! the straight way -/
def inC (c : Int) : Bool := decide (0 ≤ c) && decide (c < 144)
/-- what a cell stops -/
def sbK (K : Nat → Int) (c : Int) : Int := if K c.toNat = 1 then 3 else if K c.toNat = 2 then 1 else 0
def cl (fx fy sx sy ix iy : Int) : Int := 12 * (fy + sy * iy) + (fx + sx * ix)
/-- at most f steps more, from (ix, iy): what stops, and how many cells -/
def ryG (K : Nat → Int) (fx fy sx sy nx ny : Int) : Nat → Int → Int → Int → Int → Int × Int
  | 0, _, _, s, g => (s, g)
  | f + 1, ix, iy, s, g =>
    if ix < nx ∨ iy < ny then
      ryG K fx fy sx sy nx ny f
        (if (1 + 2 * ix) * ny ≤ (1 + 2 * iy) * nx then ix + 1 else ix)
        (if (1 + 2 * iy) * nx ≤ (1 + 2 * ix) * ny then iy + 1 else iy)
        (if (if (1 + 2 * ix) * ny ≤ (1 + 2 * iy) * nx then ix + 1 else ix) < nx ∨ (if (1 + 2 * iy) * nx ≤ (1 + 2 * ix) * ny then iy + 1 else iy) < ny then
          bor (if (1 + 2 * ix) * ny = (1 + 2 * iy) * nx then bor s (band (sbK K (cl fx fy sx sy (ix + 1) iy)) (sbK K (cl fx fy sx sy ix (iy + 1)))) else s) (sbK K (cl fx fy sx sy (if (1 + 2 * ix) * ny ≤ (1 + 2 * iy) * nx then ix + 1 else ix) (if (1 + 2 * iy) * nx ≤ (1 + 2 * ix) * ny then iy + 1 else iy)))
        else (if (1 + 2 * ix) * ny = (1 + 2 * iy) * nx then bor s (band (sbK K (cl fx fy sx sy (ix + 1) iy)) (sbK K (cl fx fy sx sy ix (iy + 1)))) else s))
        (g + 1)
    else (s, g)
def ry (K : Nat → Int) (a b : Int) : Int × Int := ryG K (a % 12) (a / 12) (sgZ (b % 12 - a % 12)) (sgZ (b / 12 - a / 12)) (abZ (b % 12 - a % 12)) (abZ (b / 12 - a / 12)) 22 0 0 0 0
/-! lamps -/
def nLa (σ : YS) : Nat := (σ 4 0).toNat
def nWa (σ : YS) : Nat := (σ 4 1).toNat
def dX (σ : YS) (k c : Nat) : Int := (c : Int) % 12 - σ 1 k % 12
def dY (σ : YS) (k c : Nat) : Int := (c : Int) / 12 - σ 1 k / 12
/-- lamp k lights cell c -/
def lit (σ : YS) (k c : Nat) : Bool := decide (dX σ k c * dX σ k c + dY σ k c * dY σ k c ≤ σ 2 k * σ 2 k) && decide (band (ry (σ 0) (σ 1 k) c).1 1 = 0)
def mask (σ : YS) (c : Nat) : Nat → Int
  | 0 => 0
  | k + 1 => mask σ c k + (if lit σ k c then 2 ^ k else 0)
def Ok (σ : YS) : Prop := (0 ≤ σ 4 0 ∧ σ 4 0 ≤ 4) ∧ (0 ≤ σ 4 1 ∧ σ 4 1 ≤ 6) ∧ (∀ k : Nat, (k : Int) < σ 4 0 → (0 ≤ σ 1 k ∧ σ 1 k < 144) ∧ 1 ≤ σ 2 k ∧ σ 2 k ≤ 12) ∧ (∀ w : Nat, (w : Int) < σ 4 1 → 0 ≤ σ 3 w ∧ σ 3 w < 144) ∧ ∀ c : Nat, 0 ≤ σ 0 c ∧ σ 0 c ≤ 3
