/-! one step of the straight way -/
def nix (nx ny ix iy : Int) : Int := if (1 + 2 * ix) * ny ≤ (1 + 2 * iy) * nx then ix + 1 else ix
def niy (nx ny ix iy : Int) : Int := if (1 + 2 * iy) * nx ≤ (1 + 2 * ix) * ny then iy + 1 else iy
def ns1 (K : Nat → Int) (fx fy sx sy nx ny ix iy s : Int) : Int := if (1 + 2 * ix) * ny = (1 + 2 * iy) * nx then bor s (band (sbK K (cl fx fy sx sy (ix + 1) iy)) (sbK K (cl fx fy sx sy ix (iy + 1)))) else s
def nsv (K : Nat → Int) (fx fy sx sy nx ny ix iy s : Int) : Int := if nix nx ny ix iy < nx ∨ niy nx ny ix iy < ny then bor (ns1 K fx fy sx sy nx ny ix iy s) (sbK K (cl fx fy sx sy (nix nx ny ix iy) (niy nx ny ix iy))) else ns1 K fx fy sx sy nx ny ix iy s
def ryH (K : Nat → Int) (fx fy sx sy nx ny : Int) : Nat → Int → Int → Int → Int → Int × Int
  | 0, _, _, s, g => (s, g)
  | f + 1, ix, iy, s, g => if ix < nx ∨ iy < ny then ryH K fx fy sx sy nx ny f (nix nx ny ix iy) (niy nx ny ix iy) (nsv K fx fy sx sy nx ny ix iy s) (g + 1) else (s, g)
def ray (K : Nat → Int) (a b : Int) : Int × Int := ryH K (a % 12) (a / 12) (sgZ (b % 12 - a % 12)) (sgZ (b / 12 - a / 12)) (abZ (b % 12 - a % 12)) (abZ (b / 12 - a / 12)) 22 0 0 0 0
theorem ray_x {nx ny ix iy : Int} (h1 : 0 ≤ ix) (h2 : ix ≤ nx) (h3 : 0 ≤ iy) (h4 : iy ≤ ny) (h : ix < nx ∨ iy < ny) (hp : (1 + 2 * ix) * ny ≤ (1 + 2 * iy) * nx) : ix < nx := by
  refine Int.lt_of_not_ge fun q => ?_
  have e : ix = nx := by omega
  subst e
  have h5 : iy + 1 ≤ ny := by omega
  have h6 : (1 + 2 * iy) * ix ≤ (2 * ny - 1) * ix := Int.mul_le_mul_of_nonneg_right (by omega) h1
  have e1 : (1 + 2 * ix) * ny = ny + 2 * (ix * ny) := by rw [Int.add_mul, Int.mul_assoc]; omega
  have e2 : (2 * ny - 1) * ix = 2 * (ix * ny) - ix := by rw [Int.sub_mul, Int.mul_assoc, Int.mul_comm ny ix]; omega
  omega
theorem ray_y {nx ny ix iy : Int} (h1 : 0 ≤ ix) (h2 : ix ≤ nx) (h3 : 0 ≤ iy) (h4 : iy ≤ ny) (h : ix < nx ∨ iy < ny) (hp : (1 + 2 * iy) * nx ≤ (1 + 2 * ix) * ny) : iy < ny :=
  ray_x h3 h4 h1 h2 h.symm hp
theorem nix_c {nx ny ix iy : Int} (h1 : 0 ≤ ix) (h2 : ix ≤ nx) (h3 : 0 ≤ iy) (h4 : iy ≤ ny) (h : ix < nx ∨ iy < ny) : 0 ≤ nix nx ny ix iy ∧ nix nx ny ix iy ≤ nx ∧ 0 ≤ niy nx ny ix iy ∧ niy nx ny ix iy ≤ ny := by
  unfold nix niy
  refine ⟨by split <;> omega, ?_, by split <;> omega, ?_⟩
  · split
    · next q => have := ray_x h1 h2 h3 h4 h q; omega
    · exact h2
  · split
    · next q => have := ray_y h1 h2 h3 h4 h q; omega
    · exact h4
/-- every step comes nearer -/
theorem nix_m (nx ny ix iy : Int) : ix + iy + 1 ≤ nix nx ny ix iy + niy nx ny ix iy := by
  unfold nix niy
  split <;> split <;> omega
theorem sbK_r (K : Nat → Int) (c : Int) : 0 ≤ sbK K c ∧ sbK K c ≤ 3 := by unfold sbK; split <;> (try split) <;> omega
theorem bits_nat : ∀ a, a < 16 → ∀ b, b < 16 → (iI (a : Nat) &&& iI (b : Nat) = iI (band a b) ∧ iI (a : Nat) ||| iI (b : Nat) = iI (bor a b)) ∧ (0 ≤ band a b ∧ band a b ≤ a) ∧ (0 ≤ bor a b ∧ bor a b < 16) ∧ (a < 4 → b < 4 → bor a b < 4) := by decide +kernel
theorem bits_e {a b : Int} (ha : 0 ≤ a ∧ a < 16) (hb : 0 ≤ b ∧ b < 16) : (iI a &&& iI b = iI (band a b) ∧ iI a ||| iI b = iI (bor a b)) ∧ (0 ≤ band a b ∧ band a b ≤ a) ∧ (0 ≤ bor a b ∧ bor a b < 16) ∧ (a < 4 → b < 4 → bor a b < 4) := by
  have h := bits_nat a.toNat (by omega) b.toNat (by omega)
  rw [Int.toNat_of_nonneg ha.1, Int.toNat_of_nonneg hb.1] at h
  exact ⟨h.1, h.2.1, h.2.2.1, fun q r => h.2.2.2 (by omega) (by omega)⟩
theorem nsv_r {K : Nat → Int} {fx fy sx sy nx ny ix iy s : Int} (hs : 0 ≤ s ∧ s < 4) : (0 ≤ ns1 K fx fy sx sy nx ny ix iy s ∧ ns1 K fx fy sx sy nx ny ix iy s < 4) ∧ 0 ≤ nsv K fx fy sx sy nx ny ix iy s ∧ nsv K fx fy sx sy nx ny ix iy s < 4 := by
  have h1 : 0 ≤ ns1 K fx fy sx sy nx ny ix iy s ∧ ns1 K fx fy sx sy nx ny ix iy s < 4 := by
    unfold ns1
    split
    · have r1 := sbK_r K (cl fx fy sx sy (ix + 1) iy)
      have r2 := sbK_r K (cl fx fy sx sy ix (iy + 1))
      have b1 := bits_e (a := sbK K (cl fx fy sx sy (ix + 1) iy)) (b := sbK K (cl fx fy sx sy ix (iy + 1))) (by omega) (by omega)
      have b2 := bits_e (a := s) (b := band (sbK K (cl fx fy sx sy (ix + 1) iy)) (sbK K (cl fx fy sx sy ix (iy + 1)))) (by omega) (by omega)
      have := b2.2.2.2 (by omega) (by omega)
      omega
    · exact hs
  refine ⟨h1, ?_⟩
  unfold nsv
  split
  · have r1 := sbK_r K (cl fx fy sx sy (nix nx ny ix iy) (niy nx ny ix iy))
    have b2 := bits_e (a := ns1 K fx fy sx sy nx ny ix iy s) (b := sbK K (cl fx fy sx sy (nix nx ny ix iy) (niy nx ny ix iy))) (by omega) (by omega)
    have := b2.2.2.2 (by omega) (by omega)
    omega
  · exact h1
theorem ryH_r {K : Nat → Int} {fx fy sx sy nx ny : Int} : ∀ (f : Nat) (ix iy s g : Int), 0 ≤ s ∧ s < 4 → 0 ≤ g → (0 ≤ (ryH K fx fy sx sy nx ny f ix iy s g).1 ∧ (ryH K fx fy sx sy nx ny f ix iy s g).1 < 4) ∧ 0 ≤ (ryH K fx fy sx sy nx ny f ix iy s g).2 ∧ (ryH K fx fy sx sy nx ny f ix iy s g).2 ≤ g + f := by
  intro f
  induction f with
  | zero => intro ix iy s g hs hg; simp only [ryH]; omega
  | succ f ih =>
    intro ix iy s g hs hg
    simp only [ryH]
    split
    · have := ih (nix nx ny ix iy) (niy nx ny ix iy) (nsv K fx fy sx sy nx ny ix iy s) (g + 1) (nsv_r hs).2 (by omega)
      refine ⟨this.1, this.2.1, ?_⟩
      have := this.2.2
      omega
    · simp only; omega
theorem ray_r (K : Nat → Int) (a b : Int) : (0 ≤ (ray K a b).1 ∧ (ray K a b).1 < 4) ∧ 0 ≤ (ray K a b).2 ∧ (ray K a b).2 ≤ 22 := by
  have := ryH_r (K := K) (fx := a % 12) (fy := a / 12) (sx := sgZ (b % 12 - a % 12)) (sy := sgZ (b / 12 - a / 12)) (nx := abZ (b % 12 - a % 12)) (ny := abZ (b / 12 - a / 12)) 22 0 0 0 0 (by omega) (by omega)
  unfold ray
  refine ⟨this.1, this.2.1, ?_⟩
  have := this.2.2
  omega
/-- places along the way lie in the yard -/
theorem pos_in {f t i : Int} (hf : 0 ≤ f ∧ f ≤ 11) (ht : 0 ≤ t ∧ t ≤ 11) (hi : 0 ≤ i ∧ i ≤ abZ (t - f)) : 0 ≤ f + sgZ (t - f) * i ∧ f + sgZ (t - f) * i ≤ 11 := by
  have ha := abZ_c (t - f)
  rcases sgZ_c (t - f) with ⟨h, e⟩ | ⟨h, e⟩ | ⟨h, e⟩ <;> rw [e] <;> omega
