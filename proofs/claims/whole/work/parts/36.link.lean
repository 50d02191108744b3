/-! the class and the reference tell the same -/
theorem bits16 : ∀ a : Nat, a < 16 → (decide ((a : Int) ≠ 0) = (bt a 0 || bt a 1 || bt a 2 || bt a 3)) ∧ ∀ k : Nat, k < 4 → (decide (bcl (a : Int) (2 ^ k) ≠ 0) = ((bt a 0 && decide (0 ≠ k)) || (bt a 1 && decide (1 ≠ k)) || (bt a 2 && decide (2 ≠ k)) || (bt a 3 && decide (3 ≠ k)))) ∧ (decide ((a : Int) = 2 ^ k) = (bt a k && decide (bI (bt a 0) + bI (bt a 1) + bI (bt a 2) + bI (bt a 3) = 1))) := by decide +kernel
theorem bits16_e {a : Int} (h : 0 ≤ a ∧ a < 16) : (decide (a ≠ 0) = (bt a 0 || bt a 1 || bt a 2 || bt a 3)) ∧ ∀ k : Nat, k < 4 → (decide (bcl a (2 ^ k) ≠ 0) = ((bt a 0 && decide (0 ≠ k)) || (bt a 1 && decide (1 ≠ k)) || (bt a 2 && decide (2 ≠ k)) || (bt a 3 && decide (3 ≠ k)))) ∧ (decide (a = 2 ^ k) = (bt a k && decide (bI (bt a 0) + bI (bt a 1) + bI (bt a 2) + bI (bt a 3) = 1))) := by
  have q := bits16 a.toNat (by omega)
  rw [Int.toNat_of_nonneg h.1] at q
  exact q
def LOk (σ : YS) (LT : Nat → Int) : Prop := ∀ c : Nat, c < 144 → ∀ j : Nat, j < 4 → bt (LT c) j = (decide (j < nLa σ) && litB σ j c)
abbrev lb (σ : YS) (c j : Nat) : Bool := decide (j < nLa σ) && litB σ j c
theorem nLa_4 {σ : YS} (hO : Ok σ) : nLa σ ≤ 4 := by have := nLa_e hO; have := hO.1; omega
theorem lg4 {σ : YS} (hO : Ok σ) (c : Nat) : lgV σ c = bI (lb σ c 0) + bI (lb σ c 1) + bI (lb σ c 2) + bI (lb σ c 3) := by
  have hn := nLa_4 hO
  unfold lgV lb
  generalize nLa σ = n at hn ⊢
  rcases (show n = 0 ∨ n = 1 ∨ n = 2 ∨ n = 3 ∨ n = 4 by omega) with rfl | rfl | rfl | rfl | rfl <;> simp [sm, bI_f]
theorem bq1 : ∀ a b c d : Bool, (a || b || c || d) = decide (bI a + bI b + bI c + bI d ≠ 0) := by decide
theorem lk_ne {σ : YS} {LT : Nat → Int} (hO : Ok σ) (hL : LR LT) (hK : LOk σ LT) {c : Nat} (hc : c < 144) : decide (LT c ≠ 0) = decide (lgV σ c ≠ 0) := by
  rw [(bits16_e (hL c)).1, hK c hc 0 (by decide), hK c hc 1 (by decide), hK c hc 2 (by decide), hK c hc 3 (by decide), lg4 hO c]
  exact bq1 _ _ _ _
theorem lk_pop {σ : YS} {LT : Nat → Int} (hO : Ok σ) (hK : LOk σ LT) {c : Nat} (hc : c < 144) : sm (fun k => bI (bt (LT c) k)) 4 = lgV σ c := by
  simp only [sm]
  rw [hK c hc 0 (by decide), hK c hc 1 (by decide), hK c hc 2 (by decide), hK c hc 3 (by decide), lg4 hO c]
  exact congrArg (fun x => x + _ + _ + _) (Int.zero_add _)
theorem lk_br {σ : YS} {LT : Nat → Int} (hO : Ok σ) (hK : LOk σ LT) {c : Nat} (hc : c < 144) : brC σ LT c = brV σ c := by
  have hn := nLa_4 hO
  refine sm_e (nLa σ) (fun k hk => ?_)
  unfold brF brG
  rw [hK c hc k (by omega), decide_eq_true hk, Bool.true_and]
theorem lk_only {σ : YS} {LT : Nat → Int} (hO : Ok σ) (hL : LR LT) (hK : LOk σ LT) {c k : Nat} (hc : c < 144) (hk : k < nLa σ) : decide (LT c = 2 ^ k) = (litB σ k c && decide (lgV σ c = 1)) := by
  have hn := nLa_4 hO
  rw [((bits16_e (hL c)).2 k (by omega)).2, hK c hc k (by omega), hK c hc 0 (by decide), hK c hc 1 (by decide), hK c hc 2 (by decide), hK c hc 3 (by decide), lg4 hO c, decide_eq_true hk, Bool.true_and]
/-! what hangs on lit or unlit alone -/
abbrev AG (LT LI : Nat → Int) : Prop := ∀ c : Nat, c < 144 → decide (LT c ≠ 0) = decide (LI c ≠ 0)
theorem lk_at (f g : Nat → Int) {c : Nat} (hc : c < 144) : lkF f g 144 c = f c := if_pos hc
theorem ag_of {σ : YS} {LT : Nat → Int} (LI : Nat → Int) (hO : Ok σ) (hL : LR LT) (hK : LOk σ LT) : AG LT (lkF (lgV σ) LI 144) := fun c hc => by rw [lk_at _ _ hc]; exact lk_ne hO hL hK hc
theorem see_e {σ : YS} {LT LI : Nat → Int} (hA : AG LT LI) (w : Nat) {c : Nat} (hc : c < 144) : seeB σ LT w c = seeB σ LI w c := by unfold seeB; rw [hA c hc]
theorem hid_e {σ : YS} {LT LI : Nat → Int} (hA : AG LT LI) {w : Nat} (hw : (σ 3 w).toNat < 144) : hidB σ LT w = hidB σ LI w := by
  unfold hidB
  rw [anyB_e _ (fun o _ => by rw [see_e hA o hw])]
theorem ed_eq {LT LI : Nat → Int} (hA : AG LT LI) {c : Nat} (hc : c < 144) (s : Int) : edF LT c s = edF LI c s := by
  have := nb_r (c := (c : Int)) (s := s) (by omega)
  unfold edF
  rw [hA c hc, hA _ (show (nb (c : Int) s).toNat < 144 by omega)]
theorem litC_e {LT LI : Nat → Int} (hA : AG LT LI) : litC LT = litC LI := sm_e 144 (fun c hc => by rw [hA c hc])
theorem litC_k (f g : Nat → Int) : litC (lkF f g 144) = litC f := sm_e 144 (fun c hc => by rw [lk_at _ _ hc])
theorem fr_e {σ : YS} {LT LI : Nat → Int} (hA : AG LT LI) {c : Nat} (hc : c < 144) : frB σ LT c = frB σ LI c := by
  have h := hA c hc
  unfold frB
  by_cases q : LT c = 0
  · rw [decide_eq_false (by simp [q])] at h
    have r : LI c = 0 := Classical.not_not.mp (of_decide_eq_false h.symm)
    rw [q, r]
  · rw [decide_eq_true q] at h
    have r := of_decide_eq_true h.symm
    rw [decide_eq_false q, decide_eq_false r]
theorem dS_eq {σ : YS} {LT LI : Nat → Int} (hA : AG LT LI) {st c : Nat} (hst : st < 144) (hc : c < 144) : dS besN (frB σ LI) st c = dS nbN (frB σ LT) st c :=
  dS_of hst (dist_N (fun b _ c => bes_adj b c) (fun c hc => (fr_e hA hc).symm) (dS_p besN (frB σ LI) hst)) hc
theorem tol_e {σ : YS} {LT : Nat → Int} (LI BR : Nat → Int) (hO : Ok σ) (hL : LR LT) (hK : LOk σ LT) {c : Nat} (hc : c < 144) (wh : Int) : tolV σ LT c wh = tolM σ (lkF (lgV σ) LI 144) (lkF (brV σ) BR 144) c wh := by
  have hA := ag_of LI hO hL hK
  unfold tolV tolM
  rw [lk_at _ _ hc, lk_at _ _ hc, lk_br hO hK hc, lk_pop hO hK hc, sm_e (f := fun o => bI (seeB σ LT o c)) (g := fun o => bI (seeB σ (lkF (lgV σ) LI 144) o c)) (nWa σ) (fun o _ => by show bI _ = bI _; rw [see_e hA o hc])]
theorem abo_e {σ : YS} {LT : Nat → Int} (LI : Nat → Int) (hO : Ok σ) (hL : LR LT) (hK : LOk σ LT) {k : Nat} (hk : k < nLa σ) (wh : Int) : aboV σ LT k wh = aboM σ (lkF (lgV σ) LI 144) k wh := by
  have hn := nLa_4 hO
  unfold aboV aboM
  rw [sm_e (f := fun c => bI (bt (LT c) k)) (g := fun c => bI (litB σ k c)) 144 (fun c hc => by show bI _ = bI _; rw [hK c hc k (by omega), decide_eq_true hk, Bool.true_and]),
    sm_e (f := fun c => bI (decide (LT c = 2 ^ k))) (g := fun c => bI (litB σ k c && decide (lkF (lgV σ) LI 144 c = 1))) 144 (fun c hc => by show bI _ = bI _; rw [lk_at _ _ hc, lk_only hO hL hK hc hk])]
theorem sea_e {σ : YS} {LT LI : Nat → Int} (hO : Ok σ) (hA : AG LT LI) {w : Nat} (hw : w < nWa σ) (wh : Int) : seaV σ LT w wh = seaV σ LI w wh := by
  have hm := nWa_e hO
  have h3 : ∀ o : Nat, o < nWa σ → (σ 3 o).toNat < 144 := fun o ho => by have := hO.2.2.2.1 o (by omega); omega
  unfold seaV
  rw [sm_e (f := fun o => bI (seeB σ LT w o)) (g := fun o => bI (seeB σ LI w o)) 144 (fun o ho => by show bI _ = bI _; rw [see_e hA w ho]), hid_e hA (h3 w hw), hA _ (h3 w hw),
    sm_e (f := fun o => bI (decide (o ≠ w) && seeB σ LT w (σ 3 o).toNat)) (g := fun o => bI (decide (o ≠ w) && seeB σ LI w (σ 3 o).toNat)) (nWa σ) (fun o ho => by show bI _ = bI _; rw [see_e hA w (h3 o ho)])]
theorem cou_e {σ : YS} {LT : Nat → Int} (LI BR : Nat → Int) (hO : Ok σ) (hL : LR LT) (hK : LOk σ LT) (wh : Int) : couV σ LT wh = couM σ (lkF (lgV σ) LI 144) (lkF (brV σ) BR 144) wh := by
  have hA := ag_of LI hO hL hK
  have hm := nWa_e hO
  have h3 : ∀ o : Nat, o < nWa σ → (σ 3 o).toNat < 144 := fun o ho => by have := hO.2.2.2.1 o (by omega); omega
  unfold couV couM
  rw [litC_e hA, sm_e (f := fun c => bI (edF LT c 2) + bI (edF LT c 3)) (g := fun c => bI (edF (lkF (lgV σ) LI 144) c 2) + bI (edF (lkF (lgV σ) LI 144) c 3)) 144 (fun c hc => by show bI _ + bI _ = bI _ + bI _; rw [ed_eq hA hc, ed_eq hA hc]),
    sm_e (f := fun o => bI (hidB σ LT o)) (g := fun o => bI (hidB σ (lkF (lgV σ) LI 144) o)) (nWa σ) (fun o ho => by show bI _ = bI _; rw [hid_e hA (h3 o ho)]),
    sm_e (f := brC σ LT) (g := lkF (brV σ) BR 144) 144 (fun c hc => by rw [lk_at _ _ hc, lk_br hO hK hc])]
theorem dgF_e {f g : Nat → Int} {d : Int64} : ∀ n : Nat, (∀ i, i < n → f i = g i) → dgF f d n = dgF g d n := by
  intro n
  induction n with
  | zero => intro _; rfl
  | succ n ih => intro h; simp only [dgF]; rw [ih (fun i hi => h i (by omega)), h n (by omega)]
theorem dgC_e {σ : YS} {LT : Nat → Int} (LI : Nat → Int) (hO : Ok σ) (hK : LOk σ LT) (d : Int64) : ∀ n : Nat, n ≤ 144 → dgC σ LT d n = dgCM σ (lkF (lgV σ) LI 144) d n := by
  intro n
  induction n with
  | zero => intro _; rfl
  | succ n ih => intro h; simp only [dgC, dgCM]; rw [ih (by omega), lk_pop hO hK (by omega), lk_at _ _ (by omega)]
theorem dgL_e {σ : YS} {LT : Nat → Int} (LI : Nat → Int) (hO : Ok σ) (hL : LR LT) (hK : LOk σ LT) (d : Int64) : ∀ n : Nat, n ≤ nLa σ → dgL σ LT d n = dgLM σ (lkF (lgV σ) LI 144) d n := by
  intro n
  induction n with
  | zero => intro _; rfl
  | succ n ih => intro h; simp only [dgL, dgLM]; rw [ih (by omega)]; exact dgF_e 4 (fun i _ => abo_e LI hO hL hK (by omega) _)
theorem dgW_e {σ : YS} {LT LI : Nat → Int} (hO : Ok σ) (hA : AG LT LI) (d : Int64) : ∀ n : Nat, n ≤ nWa σ → dgW σ LT d n = dgW σ LI d n := by
  intro n
  induction n with
  | zero => intro _; rfl
  | succ n ih => intro h; simp only [dgW]; rw [ih (by omega)]; exact dgF_e 5 (fun i _ => sea_e hO hA (by omega) _)
theorem dig_e {σ : YS} {LT : Nat → Int} (LI BR : Nat → Int) (hO : Ok σ) (hL : LR LT) (hK : LOk σ LT) : digV σ LT = digM σ (lkF (lgV σ) LI 144) (lkF (brV σ) BR 144) := by
  unfold digV digM
  rw [dgF_e 8 (fun i _ => cou_e LI BR hO hL hK (i : Int)), dgC_e LI hO hK _ 144 (Nat.le_refl _), dgL_e LI hO hL hK _ _ (Nat.le_refl _), dgW_e hO (ag_of LI hO hL hK) _ _ (Nat.le_refl _)]

/-! darkest -/
theorem br_0 {σ : YS} (hO : Ok σ) {c k : Nat} (hk : k < nLa σ) : 0 ≤ brG σ c k := by
  have hn := nLa_e hO
  have h1 := (hO.2.2.1 k (by omega)).2
  unfold brG
  split
  · next h =>
    have q : dX σ k c * dX σ k c + dY σ k c * dY σ k c ≤ σ 2 k * σ 2 k := by
      unfold litB at h
      exact of_decide_eq_true ((Bool.and_eq_true _ _ ▸ h).1)
    have s1 : ∀ x r : Int, 0 ≤ r → x * x ≤ r * r → abZ x ≤ r := by
      intro x r hr hx
      by_cases g : abZ x ≤ r
      · exact g
      · exfalso
        have e := abZ_sq x
        have a := abZ_c x
        have e3 : (r + 1) * (r + 1) ≤ abZ x * abZ x := Int.mul_le_mul (by omega) (by omega) (by omega) (by omega)
        have e2 : (r + 1) * (r + 1) = r * r + r + (r + 1) := by rw [Int.add_mul, Int.mul_add, Int.mul_one, Int.one_mul]
        omega
    have p1 : 0 ≤ dX σ k c * dX σ k c := by rw [← abZ_sq]; exact Int.mul_nonneg (by have := abZ_c (dX σ k c); omega) (by have := abZ_c (dX σ k c); omega)
    have p2 : 0 ≤ dY σ k c * dY σ k c := by rw [← abZ_sq]; exact Int.mul_nonneg (by have := abZ_c (dY σ k c); omega) (by have := abZ_c (dY σ k c); omega)
    have g1 := s1 (dX σ k c) (σ 2 k) (by omega) (by omega)
    have g2 := s1 (dY σ k c) (σ 2 k) (by omega) (by omega)
    have m := mxZ_c (abZ (dX σ k c)) (abZ (dY σ k c))
    omega
  · omega
theorem sm_0 {f : Nat → Int} : ∀ n : Nat, (∀ k, k < n → 0 ≤ f k) → 0 ≤ sm f n := by
  intro n
  induction n with
  | zero => intro _; exact Int.le_refl 0
  | succ n ih => intro h; have h1 := ih (fun k hk => h k (by omega)); have h2 := h n (by omega); simp only [sm]; omega
theorem brV_0 {σ : YS} (hO : Ok σ) (c : Nat) : 0 ≤ brV σ c := sm_0 _ (fun k hk => br_0 hO hk)
theorem brV_u {σ : YS} {c : Nat} (h : lgV σ c = 0) : brV σ c = 0 := by
  have g : ∀ n : Nat, sm (fun k => bI (litB σ k c)) n = 0 → sm (brG σ c) n = 0 := by
    intro n
    induction n with
    | zero => intro _; rfl
    | succ n ih =>
      intro h
      simp only [sm] at h ⊢
      have h1 := smB_r (fun k => litB σ k c) n
      have h2 := bI_r (litB σ n c)
      rw [ih (by omega)]
      have h3 : litB σ n c = false := bI_0.mp (by omega)
      unfold brG
      rw [h3]
      rfl
  exact g _ h
theorem drk_e {σ : YS} {LT : Nat → Int} (LI BR : Nat → Int) (hO : Ok σ) (hL : LR LT) (hK : LOk σ LT) {c o : Nat} (hc : c < 144) (ho : o < 144) : drk σ LT c o = decide (rkM (lkF (lgV σ) LI 144) (lkF (brV σ) BR 144) c < rkM (lkF (lgV σ) LI 144) (lkF (brV σ) BR 144) o) := by
  have b1 := brV_0 hO c
  have b2 := brV_0 hO o
  unfold drk rkM
  rw [lk_ne hO hL hK hc, lk_ne hO hL hK ho, lk_br hO hK hc, lk_br hO hK ho, lk_at _ _ hc, lk_at _ _ ho, lk_at _ _ hc, lk_at _ _ ho]
  by_cases q : lgV σ c = 0 <;> by_cases r : lgV σ o = 0
  · rw [brV_u q, brV_u r, if_pos q, if_pos r, q, r]; rfl
  · rw [if_pos q, if_neg r, q, decide_eq_true r, decide_eq_true (show (-1 : Int) < brV σ o by omega)]; rfl
  · rw [if_neg q, if_pos r, r, decide_eq_true q, decide_eq_false (show ¬ brV σ c < -1 by omega)]; rfl
  · rw [if_neg q, if_neg r, decide_eq_true q, decide_eq_true r]; rfl
theorem dk_e {σ : YS} {LT : Nat → Int} (LI BR : Nat → Int) (hO : Ok σ) (hL : LR LT) (hK : LOk σ LT) : ∀ i : Nat, i ≤ 144 → dkS σ LT i = dkM σ (lkF (lgV σ) LI 144) (lkF (brV σ) BR 144) i := by
  intro i
  induction i with
  | zero => intro _; rfl
  | succ i ih =>
    intro hi
    have hr := dkM_r σ (lkF (lgV σ) LI 144) (lkF (brV σ) BR 144) i (by omega)
    simp only [dkS, dkM]
    rw [ih (by omega), drk_e LI BR hO hL hK (by omega) (show (dkM σ (lkF (lgV σ) LI 144) (lkF (brV σ) BR 144) i).toNat < 144 by omega)]
    simp only [decide_eq_true_eq]
/-! lights found anew -/
theorem shL_bt {σ : YS} {LT : Nat → Int} (hL : LR LT) {k c j : Nat} (hk : k < 4) (hc : c < 144) (hj : j < 4) : bt (shL σ LT k 144 c) j = if j = k then litB σ k c else bt (LT c) j := by
  have h := hL c
  have b := (bits4 (LT c).toNat (by omega) k hk).2.2.2.2.2 j hj
  rw [Int.toNat_of_nonneg h.1] at b
  unfold shL
  rw [if_pos hc]
  by_cases e : j = k
  · rw [if_pos e]
    cases q : litB σ k c
    · rw [if_neg (by simp), b.2, decide_eq_false (by simp [e])]; exact Bool.and_false _
    · rw [if_pos rfl, b.1, decide_eq_true e]; exact Bool.or_true _
  · rw [if_neg e]
    cases q : litB σ k c
    · rw [if_neg (by simp), b.2, decide_eq_true e]; exact Bool.and_true _
    · rw [if_pos rfl, b.1, decide_eq_false e]; exact Bool.or_false _
theorem shA_bt {σ : YS} {LT : Nat → Int} (hL : LR LT) {c j : Nat} (hc : c < 144) (hj : j < 4) : ∀ n : Nat, n ≤ 4 → bt (shA σ LT n c) j = if j < n then litB σ j c else bt (LT c) j := by
  intro n
  induction n with
  | zero => intro _; rfl
  | succ n ih =>
    intro hn
    simp only [shA]
    rw [shL_bt (LR_shA hL n (by omega)) (by omega) hc hj, ih (by omega)]
    by_cases e : j = n
    · rw [if_pos e, if_pos (by omega), e]
    · rw [if_neg e]
      by_cases g : j < n
      · rw [if_pos g, if_pos (by omega)]
      · rw [if_neg g, if_neg (by omega)]
theorem lit_e {σ σ' : YS} {j : Nat} (h0 : σ' 0 = σ 0) (h1 : σ' 1 j = σ 1 j) (h2 : σ' 2 j = σ 2 j) (c : Nat) : litB σ' j c = litB σ j c := by
  unfold litB dX dY
  rw [h0, h1, h2]
theorem LOk_set {σ σ' : YS} {LT : Nat → Int} (hO : Ok σ) (hL : LR LT) (hK : LOk σ LT) (hn : σ' 4 0 = σ 4 0) : LOk σ' (shA σ' LT (nLa σ')) := by
  have e : nLa σ' = nLa σ := by unfold nLa; rw [hn]
  have h4 := nLa_4 hO
  intro c hc j hj
  rw [shA_bt hL hc hj _ (by omega), e]
  by_cases g : j < nLa σ
  · rw [if_pos g, decide_eq_true g, Bool.true_and]
  · rw [if_neg g, hK c hc j hj, decide_eq_false g]; rfl
/-- lamp k alone is another one, or new -/
theorem LOk_one {σ σ' : YS} {LT : Nat → Int} {k : Nat} (hL : LR LT) (hK : LOk σ LT) (hk : k < 4) (h0 : σ' 0 = σ 0) (h1 : ∀ j : Nat, j ≠ k → σ' 1 j = σ 1 j ∧ σ' 2 j = σ 2 j) (hn : ∀ j : Nat, j ≠ k → (j < nLa σ' ↔ j < nLa σ)) (hkn : k < nLa σ') : LOk σ' (shL σ' LT k 144) := by
  intro c hc j hj
  rw [shL_bt hL hk hc hj]
  by_cases e : j = k
  · rw [if_pos e, e, decide_eq_true hkn, Bool.true_and]
  · rw [if_neg e, hK c hc j hj, lit_e h0 (h1 j e).1 (h1 j e).2]
    have := hn j e
    by_cases g : j < nLa σ
    · rw [decide_eq_true g, decide_eq_true (this.mpr g)]
    · rw [decide_eq_false g, decide_eq_false (fun q => g (this.mp q))]
theorem LOk_same {σ σ' : YS} {LT : Nat → Int} (hK : LOk σ LT) (h0 : σ' 0 = σ 0) (h1 : σ' 1 = σ 1) (h2 : σ' 2 = σ 2) (hn : σ' 4 0 = σ 4 0) : LOk σ' LT := by
  have e : nLa σ' = nLa σ := by unfold nLa; rw [hn]
  intro c hc j hj
  rw [hK c hc j hj, e, lit_e h0 (by rw [h1]) (by rw [h2])]
theorem any_lg {f : Nat → Bool} : ∀ n : Nat, anyB f n = decide (sm (fun k => bI (f k)) n ≠ 0) := by
  intro n
  induction n with
  | zero => rfl
  | succ n ih =>
    have h1 := smB_r f n
    simp only [anyB, sm]
    rw [ih]
    rcases Bool.eq_false_or_eq_true (f n) with q | q
    · have e : bI (f n) = 1 := bI_t q
      exact Eq.trans (b := true) (by rw [q]; exact Bool.or_true _) (decide_eq_true (by omega)).symm
    · have e : bI (f n) = 0 := bI_f q
      exact Eq.trans (b := decide (sm (fun k => bI (f k)) n ≠ 0)) (by rw [q]; exact Bool.or_false _) (decide_eq_decide.mpr (by rw [e, Int.add_zero]))
theorem wo_e {σ : YS} {LT : Nat → Int} (hO : Ok σ) (hL : LR LT) (hK : LOk σ LT) (c : Nat) (kd : Int) : woV σ LT c kd = litC (lgV (sU σ 0 c kd)) - litC (lgV σ) := by
  have e : litC LT = litC (lgV σ) := litC_e (fun c hc => lk_ne hO hL hK hc)
  unfold woV
  rw [e]
  exact congrArg (fun x : Int => x - litC (lgV σ)) (sm_e 144 (fun d _ => by rw [any_lg]; rfl))
theorem bq2 : ∀ a b c d x : Bool, (((a && decide (0 ≠ 0)) || (b && decide (1 ≠ 0)) || (c && decide (2 ≠ 0)) || (d && decide (3 ≠ 0))) || x) = decide (bI x + bI b + bI c + bI d ≠ 0) ∧ (((a && decide (0 ≠ 1)) || (b && decide (1 ≠ 1)) || (c && decide (2 ≠ 1)) || (d && decide (3 ≠ 1))) || x) = decide (bI a + bI x + bI c + bI d ≠ 0) ∧ (((a && decide (0 ≠ 2)) || (b && decide (1 ≠ 2)) || (c && decide (2 ≠ 2)) || (d && decide (3 ≠ 2))) || x) = decide (bI a + bI b + bI x + bI d ≠ 0) ∧ (((a && decide (0 ≠ 3)) || (b && decide (1 ≠ 3)) || (c && decide (2 ≠ 3)) || (d && decide (3 ≠ 3))) || x) = decide (bI a + bI b + bI c + bI x ≠ 0) := by decide
theorem lic_e {σ : YS} {LT : Nat → Int} (hO : Ok σ) (hL : LR LT) (hK : LOk σ LT) {k : Nat} (hk : k < nLa σ) {g : Int} (hg : 0 ≤ g ∧ g < 144) : licV σ LT k g = litC (lgV (sU σ 1 k g)) := by
  have h4 := nLa_4 hO
  have hO1 : Ok (sU σ 1 k g) := Ok_carry hO (by have := nLa_e hO; omega) hg
  refine sm_e 144 (fun c hc => ?_)
  have e : ∀ j : Nat, j ≠ k → lb (sU σ 1 k g) c j = lb σ c j := fun j hj => by
    unfold lb
    rw [lit_e (σ := σ) (σ' := sU σ 1 k g) rfl (if_neg hj) rfl]
    rfl
  have ek : lb (sU σ 1 k g) c k = litB (sU σ 1 k g) k c := by unfold lb; rw [decide_eq_true (show k < nLa (sU σ 1 k g) from hk)]; rfl
  congr 1
  rw [((bits16_e (hL c)).2 k (by omega)).1, hK c hc 0 (by decide), hK c hc 1 (by decide), hK c hc 2 (by decide), hK c hc 3 (by decide), lg4 hO1 c, ← ek]
  have q := bq2 (lb σ c 0) (lb σ c 1) (lb σ c 2) (lb σ c 3) (lb (sU σ 1 k g) c k)
  rcases (show k = 0 ∨ k = 1 ∨ k = 2 ∨ k = 3 by omega) with rfl | rfl | rfl | rfl
  · rw [e 1 (by decide), e 2 (by decide), e 3 (by decide)]; exact q.1
  · rw [e 0 (by decide), e 2 (by decide), e 3 (by decide)]; exact q.2.1
  · rw [e 0 (by decide), e 1 (by decide), e 3 (by decide)]; exact q.2.2.1
  · rw [e 0 (by decide), e 1 (by decide), e 2 (by decide)]; exact q.2.2.2
theorem ad_e {σ : YS} {LT : Nat → Int} (hO : Ok σ) (hL : LR LT) (hK : LOk σ LT) {k : Nat} (hk : k < nLa σ) : ∀ j : Nat, j ≤ 4 → adS σ LT k j = adM σ k j := by
  have h1 := (hO.2.2.1 k (by have := nLa_e hO; omega)).1
  intro j
  induction j with
  | zero => intro _; simp only [adS, adM]; rw [litC_e (fun c hc => lk_ne hO hL hK hc)]
  | succ j ih =>
    intro hj
    simp only [adS, adM]
    rw [ih (by omega)]
    rcases nb_r (c := σ 1 k) (s := (j : Int)) h1 with q | q
    · rw [q, if_neg (fun r => r.1 rfl), if_neg (fun r => r.1 rfl)]
    · rw [lic_e hO hL hK hk q]
theorem mean_e {σ : YS} {LT : Nat → Int} (BR : Nat → Int) (hO : Ok σ) (hL : LR LT) (hK : LOk σ LT) : meanV σ LT = FP.ddiv (FP.i2d (iI (sm (lkF (brV σ) BR 144) 144))) (FP.i2d (iI (litC (lgV σ)))) := by
  unfold meanV
  rw [litC_e (fun c hc => lk_ne hO hL hK hc), sm_e (f := brC σ LT) (g := lkF (brV σ) BR 144) 144 (fun c hc => by rw [lk_at _ _ hc, lk_br hO hK hc])]
