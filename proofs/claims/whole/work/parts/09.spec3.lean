theorem bz_t {z : Int} {b : Bool} (h : z = bI b) (c : ¬ z = 0) : b = true := by cases b <;> simp_all [bI]
theorem bz_f {z : Int} {b : Bool} (h : z = bI b) (c : z = 0) : b = false := by cases b <;> simp_all [bI]
theorem sm_t {f : Nat → Bool} {i : Nat} (h : f i = true) : sm (fun c => bI (f c)) i + 1 = sm (fun c => bI (f c)) (i + 1) := by
  simp only [sm]; rw [h]; rfl
theorem sm_f {f : Nat → Bool} {i : Nat} (h : f i = false) : sm (fun c => bI (f c)) i = sm (fun c => bI (f c)) (i + 1) := by
  simp only [sm]; rw [h]; simp [bI]
theorem any_0 {f : Nat → Bool} {i : Nat} (h : anyB f i = false) (g : f i = false) : anyB f (i + 1) = false := by simp [anyB, h, g]
theorem any_1 {f : Nat → Bool} {i n : Nat} (g : f i = true) (hi : i < n) : anyB f n = true := anyB_t.mpr ⟨i, hi, g⟩
theorem bI_t {b : Bool} (h : b = true) : bI b = 1 := by rw [h]; rfl
theorem bI_f {b : Bool} (h : b = false) : bI b = 0 := by rw [h]; rfl
theorem iI_div12 {a : Int} (h : 0 ≤ a ∧ a < 2147483648) : iI a / iI 12 = iI (a / 12) := by
  rw [← Int32.toInt_inj, Int32.toInt_div_of_ne_right _ _ (by decide), iI_toInt (by omega), iI_toInt (by decide), iI_toInt (by omega)]
  rw [Int.tdiv_eq_ediv_of_nonneg (by omega)]
theorem iI_rem12 {a : Int} (h : 0 ≤ a ∧ a < 2147483648) : iI a - iI a / iI 12 * iI 12 = iI (a % 12) := by
  rw [iI_div12 h, iI_mul, iI_sub]
  congr 1
  omega
def nLa' (σ : YS) : Nat := (σ 4 0).toNat
theorem nLa_e {σ : YS} (h : Ok σ) : (nLa σ : Int) = σ 4 0 := Int.toNat_of_nonneg h.1.1
theorem nWa_e {σ : YS} (h : Ok σ) : (nWa σ : Int) = σ 4 1 := Int.toNat_of_nonneg h.2.1.1
/-! what a lamp lights, what a watcher sees -/
def litB (σ : YS) (k c : Nat) : Bool := decide (dX σ k c * dX σ k c + dY σ k c * dY σ k c ≤ σ 2 k * σ 2 k) && decide (band (ray (σ 0) (σ 1 k) c).1 1 = 0)
def bt (a : Int) (j : Nat) : Bool := a.toNat.testBit j
/-- without the bit b -/
def bcl (a b : Int) : Int := ((a.toNat &&& (15 ^^^ b.toNat) : Nat) : Int)
/-- the lights with lamp k's own found anew for the first i cells -/
def shL (σ : YS) (LT : Nat → Int) (k i : Nat) : Nat → Int := fun c => if c < i then (if litB σ k c then bor (LT c) (2 ^ k) else bcl (LT c) (2 ^ k)) else LT c
def shA (σ : YS) (LT : Nat → Int) : Nat → Nat → Int
  | 0 => LT
  | k + 1 => shL σ (shA σ LT k) k 144
def brF (σ : YS) (a : Int) (c k : Nat) : Int := if bt a k then σ 2 k - mxZ (abZ (dX σ k c)) (abZ (dY σ k c)) else 0
def brC (σ : YS) (LT : Nat → Int) (c : Nat) : Int := sm (brF σ (LT c) c) (nLa σ)
def drk (σ : YS) (LT : Nat → Int) (c o : Nat) : Bool := if decide (LT c ≠ 0) != decide (LT o ≠ 0) then decide (LT o ≠ 0) else decide (brC σ LT c < brC σ LT o)
def nb (c s : Int) : Int := if s = 0 then (if c / 12 > 0 then c - 12 else -1) else if s = 1 then (if c % 12 > 0 then c - 1 else -1) else if s = 2 then (if c % 12 < 11 then c + 1 else -1) else if s = 3 then (if c / 12 < 11 then c + 12 else -1) else -1
theorem nb_r {c s : Int} (hc : 0 ≤ c ∧ c < 144) : nb c s = -1 ∨ (0 ≤ nb c s ∧ nb c s < 144) := by
  unfold nb
  repeat' split
  all_goals omega
def edF (LT : Nat → Int) (c : Nat) (s : Int) : Bool := decide (nb c s ≠ -1) && (decide (LT c ≠ 0) != decide (LT (nb c s).toNat ≠ 0))
def seeB (σ : YS) (LT : Nat → Int) (w c : Nat) : Bool := decide (LT c ≠ 0) && decide (band (ray (σ 0) (σ 3 w) c).1 2 = 0)
def hidB (σ : YS) (LT : Nat → Int) (w : Nat) : Bool := !anyB (fun o => decide (o ≠ w) && seeB σ LT o (σ 3 w).toNat) (nWa σ)
def LR (LT : Nat → Int) : Prop := ∀ i : Nat, 0 ≤ LT i ∧ LT i < 16
theorem bits4 : ∀ a, a < 16 → ∀ k, k < 4 → (iI (1 : Int) <<< (iI (k : Nat) &&& 31) = iI (2 ^ k)) ∧ iI (2 ^ k) ^^^ iI (-1) = iI (-1 - 2 ^ k) ∧ iI (a : Nat) &&& iI (-1 - 2 ^ k) = iI (bcl a (2 ^ k)) ∧ (band a (2 ^ k) ≠ 0 ↔ bt a k = true) ∧ (0 ≤ bcl a (2 ^ k) ∧ bcl a (2 ^ k) < 16) ∧ ∀ j, j < 4 → bt (bor a (2 ^ k)) j = (bt a j || decide (j = k)) ∧ bt (bcl a (2 ^ k)) j = (bt a j && decide (j ≠ k)) := by decide +kernel
theorem bits4_e {a k : Int} (ha : 0 ≤ a ∧ a < 16) (hk : 0 ≤ k ∧ k < 4) : (iI (1 : Int) <<< (iI k &&& 31) = iI (2 ^ k.toNat)) ∧ iI (2 ^ k.toNat) ^^^ iI (-1) = iI (-1 - 2 ^ k.toNat) ∧ iI a &&& iI (-1 - 2 ^ k.toNat) = iI (bcl a (2 ^ k.toNat)) ∧ (band a (2 ^ k.toNat) ≠ 0 ↔ bt a k.toNat = true) ∧ (0 ≤ bcl a (2 ^ k.toNat) ∧ bcl a (2 ^ k.toNat) < 16) := by
  have h := bits4 a.toNat (by omega) k.toNat (by omega)
  rw [Int.toNat_of_nonneg ha.1, Int.toNat_of_nonneg hk.1] at h
  exact ⟨h.1, h.2.1, h.2.2.1, h.2.2.2.1, h.2.2.2.2.1⟩
theorem pow_r : ∀ k, k < 4 → (1 : Int) ≤ 2 ^ k ∧ (2 : Int) ^ k ≤ 8 := by decide
theorem pow_e {k : Int} (hk : 0 ≤ k ∧ k < 4) : (1 : Int) ≤ 2 ^ k.toNat ∧ (2 : Int) ^ k.toNat ≤ 8 := pow_r _ (by omega)
theorem shL_s {σ : YS} {LT : Nat → Int} {k i : Nat} {v : Int} (h : v = if litB σ k i then bor (LT i) (2 ^ k) else bcl (LT i) (2 ^ k)) : fU (shL σ LT k i) i v = shL σ LT k (i + 1) := by
  funext c
  unfold fU shL
  by_cases h1 : c = i
  · subst h1; simp [h]
  · rw [if_neg h1]
    by_cases h2 : c < i
    · rw [if_pos h2, if_pos (show c < i + 1 by omega)]
    · rw [if_neg h2, if_neg (show ¬ c < i + 1 by omega)]
theorem shL_0 (σ : YS) (LT : Nat → Int) (k : Nat) : shL σ LT k 0 = LT := by funext c; simp [shL]
theorem shL_i (σ : YS) (LT : Nat → Int) (k i : Nat) : shL σ LT k i i = LT i := by simp [shL]
theorem LR_shL {σ : YS} {LT : Nat → Int} {k i : Nat} (hk : k < 4) (h : LR LT) : LR (shL σ LT k i) := by
  intro c
  have h1 := h c
  have hp := pow_r k hk
  unfold shL
  split
  · split
    · exact (bits_e (a := LT c) (b := 2 ^ k) h1 (by omega)).2.2.1
    · have := (bits4_e (a := LT c) (k := (k : Int)) h1 (by omega)).2.2.2.2
      exact this
  · exact h1
theorem LR_shA {σ : YS} {LT : Nat → Int} (h : LR LT) : ∀ k, k ≤ 4 → LR (shA σ LT k)
  | 0, _ => h
  | k + 1, hk => LR_shL (by omega) (LR_shA h k (by omega))
/-- how bright a lamp's share of a cell can be -/
theorem brF_r {σ : YS} (hO : Ok σ) (a : Int) {c : Nat} (hc : c < 144) {k : Nat} (hk : k < nLa σ) : -11 ≤ brF σ a c k ∧ brF σ a c k ≤ 12 := by
  have hn := nLa_e hO
  have h1 := hO.2.2.1 k (by omega)
  have a1 := abZ_c (dX σ k c)
  have a2 := abZ_c (dY σ k c)
  have a3 := mxZ_c (abZ (dX σ k c)) (abZ (dY σ k c))
  unfold brF
  split
  · unfold dX dY at *; omega
  · omega
theorem brS_r {σ : YS} (hO : Ok σ) (a : Int) {c : Nat} (hc : c < 144) : ∀ i, i ≤ nLa σ → -11 * (i : Int) ≤ sm (brF σ a c) i ∧ sm (brF σ a c) i ≤ 12 * i := fun i hi => sm_r (by omega) (by omega) i (fun k hk => brF_r hO a hc (by omega))
theorem brC_r {σ : YS} (hO : Ok σ) (LT : Nat → Int) {c : Nat} (hc : c < 144) : -44 ≤ brC σ LT c ∧ brC σ LT c ≤ 48 := by
  have hn := nLa_e hO
  have h1 := hO.1
  have := brS_r hO (LT c) hc (nLa σ) (Nat.le_refl _)
  unfold brC
  omega
theorem smB_r (f : Nat → Bool) (n : Nat) : 0 ≤ sm (fun c => bI (f c)) n ∧ sm (fun c => bI (f c)) n ≤ n := by
  have := sm_r (f := fun c => bI (f c)) (a := 0) (b := 1) (by omega) (by omega) n (fun i _ => bI_r _)
  omega
theorem sU_b (σ : YS) (a k : Nat) (v : Int) : sU (sU σ a k v) a k (σ a k) = σ := by
  funext i j
  unfold sU sA
  by_cases h : i = a
  · subst h
    simp only [if_true]
    split
    · next q => rw [q]
    · rfl
  · rw [if_neg h, if_neg h]
