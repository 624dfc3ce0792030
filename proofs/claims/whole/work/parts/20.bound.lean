/-! 20: how great the numbers can be: sizes in the least number's units (2 ^ 1074 of them are 1) -/
def zeB (B : Nat) (d : ZD) : Prop := FP.Core.fits FP.Core.b64 d ∧ (∃ s c q, d = .fin s c q) ∧ FP.Core.zmag FP.Core.b64 d ≤ B
/-- not below zero, no sign: a number or the infinity above -/
def zeN (d : ZD) : Prop := FP.Core.fits FP.Core.b64 d ∧ d ≠ .nan ∧ FP.Core.sgn d = false
theorem zeq_qmin : FP.Core.b64.qmin = -1074 := FP.Core.qmin_b64
theorem zeB_mono {a b : Nat} {d : ZD} (h : zeB a d) (hab : a ≤ b) : zeB b d := ⟨h.1, h.2.1, Nat.le_trans h.2.2 hab⟩
theorem zeV_of {n k : Nat} (hn : n < 2 ^ 53) (hk : k ≤ 2045) : ∃ V : ZD, FP.Core.fits FP.Core.b64 V ∧ V ≠ .nan ∧ (∃ c q, V = .fin false c q) ∧ FP.Core.zmag FP.Core.b64 V = n * 2 ^ k := by
  obtain ⟨c', q', h1, h2⟩ := FP.Core.round_exact FP.Core.good_b64 false (c := n) (q := (k : Int) - 1074) hn (by rw [FP.Core.qmin_b64]; omega) (by rw [show FP.Core.b64.qmax = 971 by decide]; omega)
  refine ⟨_, FP.Core.round_fits FP.Core.good_b64 (.fin false n ((k : Int) - 1074)), by rw [h1]; exact FP.Core.Datum.noConfusion, ⟨_, _, h1⟩, ?_⟩
  rw [h1]
  show FP.Core.inUnits c' q' FP.Core.b64.qmin = _
  rw [h2, FP.Core.qmin_b64]
  unfold FP.Core.inUnits
  rw [show ((k : Int) - 1074 - -1074).toNat = k by omega]
theorem ze_ratio {s : Bool} {A B n k : Nat} {e e0 : Int} (hB : 0 < B) (hn : n < 2 ^ 53) (hk : k ≤ 2045) (h0 : e0 ≤ FP.Core.b64.qmin) (h0e : e0 ≤ e)
    (h : FP.Core.inUnits A e e0 ≤ n * 2 ^ k * 2 ^ (FP.Core.b64.qmin - e0).toNat * B) : zeB (n * 2 ^ k) (FP.Core.roundRatio FP.Core.b64 s A B e) := by
  obtain ⟨V, v1, v2, ⟨c, q, v3⟩, v4⟩ := zeV_of hn hk
  have h1 := FP.Core.zmag_roundRatio_le FP.Core.good_b64 (s := s) (A := A) hB v1 v2 h0 h0e (by rw [v4]; exact h)
  have hf := FP.Core.roundRatio_fits FP.Core.good_b64 s A hB e
  refine ⟨hf, ?_, by rw [v4] at h1; exact h1⟩
  rcases FP.Core.roundRatio_cases FP.Core.b64 s A B e with ⟨c', q', hR⟩ | hR
  · exact ⟨_, _, _, hR⟩
  · exfalso
    rw [hR, v3] at h1
    rw [v3] at v1
    have h2 := FP.Core.zmag_lt_top FP.Core.good_b64 v1
    have h3 : FP.Core.b64.tails * 2 ^ (FP.Core.b64.exps - 2) ≤ FP.Core.zmag FP.Core.b64 (.fin false c q) := h1
    exact Nat.lt_irrefl _ (Nat.lt_of_lt_of_le h2 h3)
theorem ze_neg {b : Nat} {d : ZD} (h : zeB b d) : zeB b (FP.Core.negate d) := by
  obtain ⟨f, ⟨s, c, q, rfl⟩, z⟩ := h
  exact ⟨FP.Core.negate_fits f, ⟨_, _, _, rfl⟩, z⟩
theorem zeB_A {x y : ZD} {a b : Nat} (hx : zeB a x) (hy : zeB b y) (n k : Nat) (hn : n < 2 ^ 53) (hk : k ≤ 2045) (h : a + b ≤ n * 2 ^ k) : zeB (n * 2 ^ k) (zA x y) := by
  obtain ⟨fx, ⟨s, c, q, rfl⟩, zx⟩ := hx
  obtain ⟨fy, ⟨t, d, r, rfl⟩, zy⟩ := hy
  obtain ⟨sg, v, e, p1, p2, p3⟩ := FP.Core.sum_units fx fy
  unfold zA
  rw [p1]
  show zeB _ (FP.Core.roundRatio FP.Core.b64 sg v 1 e)
  refine ze_ratio (by decide) hn hk (Int.le_refl _) p2 ?_
  rw [Int.sub_self, Int.toNat_zero, Nat.pow_zero, Nat.mul_one, Nat.mul_one]
  have h1 := congrArg Int.natAbs p3
  rw [FP.Core.natAbs_signed] at h1
  rw [h1]
  refine Nat.le_trans (Int.natAbs_add_le _ _) ?_
  unfold FP.Core.zval
  rw [FP.Core.natAbs_signed, FP.Core.natAbs_signed]
  exact Nat.le_trans (Nat.add_le_add zx zy) h
theorem zeB_S {x y : ZD} {a b : Nat} (hx : zeB a x) (hy : zeB b y) (n k : Nat) (hn : n < 2 ^ 53) (hk : k ≤ 2045) (h : a + b ≤ n * 2 ^ k) : zeB (n * 2 ^ k) (zS x y) :=
  zeB_A hx (ze_neg hy) n k hn hk h
theorem zeB_M {x y : ZD} {a b : Nat} (hx : zeB a x) (hy : zeB b y) (n k : Nat) (hn : n < 2 ^ 53) (hk : k ≤ 2045) (h : a * b ≤ n * 2 ^ k * 2 ^ 1074) : zeB (n * 2 ^ k) (zM x y) := by
  obtain ⟨fx, ⟨s, c, q, rfl⟩, zx⟩ := hx
  obtain ⟨fy, ⟨t, d, r, rfl⟩, zy⟩ := hy
  obtain ⟨p1, p2, p3⟩ := FP.Core.product_units fx fy
  unfold zM
  rw [p1]
  show zeB _ (FP.Core.roundRatio FP.Core.b64 (s != t) (c * d) 1 (q + r))
  refine ze_ratio (by decide) hn hk (e0 := 2 * FP.Core.b64.qmin) (by rw [FP.Core.qmin_b64]; decide) p2 ?_
  rw [p3, Nat.mul_one, FP.Core.qmin_b64, show ((-1074 : Int) - 2 * -1074).toNat = 1074 from rfl]
  exact Nat.le_trans (Nat.mul_le_mul zx zy) h
/-- by powers of two -/
theorem zeB_M2 {x y : ZD} {i j : Nat} (hx : zeB (2 ^ i) x) (hy : zeB (2 ^ j) y) (k : Nat) (hk : k ≤ 2045) (h : i + j ≤ k + 1074) : zeB (2 ^ k) (zM x y) := by
  have h1 := zeB_M hx hy 1 k (by decide) hk (by rw [Nat.one_mul, ← Nat.pow_add, ← Nat.pow_add]; exact Nat.pow_le_pow_right (by decide) h)
  rwa [Nat.one_mul] at h1
theorem ze_two (k : Nat) : 2 ^ k + 2 ^ k = 2 ^ (k + 1) := by rw [Nat.pow_succ]; omega
theorem zeB_A2 {x y : ZD} {i j : Nat} (hx : zeB (2 ^ i) x) (hy : zeB (2 ^ j) y) (k : Nat) (hk : k ≤ 2044) (hi : i ≤ k) (hj : j ≤ k) : zeB (2 ^ (k + 1)) (zA x y) := by
  have h1 := zeB_A hx hy 1 (k + 1) (by decide) (by omega) (by rw [Nat.one_mul, ← ze_two]; exact Nat.add_le_add (Nat.pow_le_pow_right (by decide) hi) (Nat.pow_le_pow_right (by decide) hj))
  rwa [Nat.one_mul] at h1
theorem zeB_S2 {x y : ZD} {i j : Nat} (hx : zeB (2 ^ i) x) (hy : zeB (2 ^ j) y) (k : Nat) (hk : k ≤ 2044) (hi : i ≤ k) (hj : j ≤ k) : zeB (2 ^ (k + 1)) (zS x y) :=
  zeB_A2 hx (ze_neg hy) k hk hi hj
/-! what is not below zero -/
theorem zeN_A {x y : ZD} (hx : zeN x) (hy : zeN y) : zeN (zA x y) ∧ FP.Core.zmag FP.Core.b64 x ≤ FP.Core.zmag FP.Core.b64 (zA x y) ∧ FP.Core.zmag FP.Core.b64 y ≤ FP.Core.zmag FP.Core.b64 (zA x y) := by
  obtain ⟨fx, nx, sx⟩ := hx
  obtain ⟨fy, ny, sy⟩ := hy
  have hfit : FP.Core.fits FP.Core.b64 (zA x y) := FP.Core.round_fits FP.Core.good_b64 _
  cases x with
  | nan => exact absurd rfl nx
  | inf s =>
    have hs : s = false := sx
    subst hs
    cases y with
    | nan => exact absurd rfl ny
    | inf t =>
      have ht : t = false := sy
      subst ht
      exact ⟨⟨hfit, (fun h => by cases h), rfl⟩, Nat.le_refl _, Nat.le_refl _⟩
    | fin t d r => exact ⟨⟨hfit, (fun h => by cases h), rfl⟩, Nat.le_refl _, FP.Core.zmag_le_top FP.Core.good_b64 fy⟩
  | fin s c q =>
    have hs : s = false := sx
    subst hs
    cases y with
    | nan => exact absurd rfl ny
    | inf t =>
      have ht : t = false := sy
      subst ht
      exact ⟨⟨hfit, (fun h => by cases h), rfl⟩, FP.Core.zmag_le_top FP.Core.good_b64 fx, Nat.le_refl _⟩
    | fin t d r =>
      have ht : t = false := sy
      subst ht
      have hsg : FP.Core.sumSign false false (FP.Core.sumUnits false c q false d r (min q r)) = false := by
        simp only [FP.Core.sumSign, FP.Core.sumUnits, FP.Core.signed, Bool.false_eq_true, if_false]
        split
        · rfl
        · exact decide_eq_false (by omega)
      have h1 : FP.Core.sgn (zA (.fin false c q) (.fin false d r)) = false := by
        show FP.Core.sgn (FP.Core.roundRatio FP.Core.b64 _ _ 1 _) = false
        rw [FP.Core.sgn_roundRatio, hsg]
      have h2 : zA (.fin false c q) (.fin false d r) ≠ .nan := FP.Core.roundRatio_ne_nan _ _ _ _ _
      have hvx : FP.Core.zval FP.Core.b64 (.fin false c q) = (FP.Core.zmag FP.Core.b64 (.fin false c q) : Int) := rfl
      have hvy : FP.Core.zval FP.Core.b64 (.fin false d r) = (FP.Core.zmag FP.Core.b64 (.fin false d r) : Int) := rfl
      have hvz : FP.Core.zval FP.Core.b64 (zA (.fin false c q) (.fin false d r)) = (FP.Core.zmag FP.Core.b64 (zA (.fin false c q) (.fin false d r)) : Int) := by
        unfold FP.Core.zval
        rw [h1]
        rfl
      have h3 := FP.Core.sum_ge FP.Core.good_b64 ⟨_, _, _, rfl⟩ ⟨_, _, _, rfl⟩ fx fy fx (fun h => by cases h) (by omega : FP.Core.zval FP.Core.b64 (.fin false c q) ≤ FP.Core.zval FP.Core.b64 (.fin false c q) + FP.Core.zval FP.Core.b64 (.fin false d r))
      have h4 := FP.Core.sum_ge FP.Core.good_b64 ⟨_, _, _, rfl⟩ ⟨_, _, _, rfl⟩ fx fy fy (fun h => by cases h) (by omega : FP.Core.zval FP.Core.b64 (.fin false d r) ≤ FP.Core.zval FP.Core.b64 (.fin false c q) + FP.Core.zval FP.Core.b64 (.fin false d r))
      have h3' : FP.Core.zval FP.Core.b64 (.fin false c q) ≤ FP.Core.zval FP.Core.b64 (zA (.fin false c q) (.fin false d r)) := h3
      have h4' : FP.Core.zval FP.Core.b64 (.fin false d r) ≤ FP.Core.zval FP.Core.b64 (zA (.fin false c q) (.fin false d r)) := h4
      rw [hvz, hvx] at h3'
      rw [hvz, hvy] at h4'
      exact ⟨⟨hfit, h2, h1⟩, by omega, by omega⟩
theorem zeN_M {x y : ZD} {a b : Nat} (hx : zeN x) (hy : zeN y) (bx : zeB a x) (bb : zeB b y) : zeN (zM x y) := by
  obtain ⟨fx, ⟨s, c, q, rfl⟩, zx⟩ := bx
  obtain ⟨fy, ⟨t, d, r, rfl⟩, zy⟩ := bb
  have hs : s = false := hx.2.2
  have ht : t = false := hy.2.2
  subst hs
  subst ht
  exact ⟨FP.Core.round_fits FP.Core.good_b64 _, FP.Core.roundRatio_ne_nan _ _ _ _ _, FP.Core.sgn_roundRatio _ _ _ _ _⟩
/-- a product's size, from below -/
theorem zeM_ge {x y : ZD} {a b : Nat} (bx : zeB a x) (bb : zeB b y) {i j k : Nat} (hi : 2 ^ i ≤ FP.Core.zmag FP.Core.b64 x) (hj : 2 ^ j ≤ FP.Core.zmag FP.Core.b64 y) (hk : k ≤ 2045) (h : k + 1074 ≤ i + j) :
    2 ^ k ≤ FP.Core.zmag FP.Core.b64 (zM x y) ∧ zM x y ≠ .nan ∧ FP.Core.sgn (zM x y) = (FP.Core.sgn x != FP.Core.sgn y) := by
  obtain ⟨fx, ⟨s, c, q, rfl⟩, zx⟩ := bx
  obtain ⟨fy, ⟨t, d, r, rfl⟩, zy⟩ := bb
  obtain ⟨p1, p2, p3⟩ := FP.Core.product_units fx fy
  obtain ⟨V, v1, v2, v3, v4⟩ := zeV_of (n := 1) (k := k) (by decide) hk
  have e1 : zM (.fin s c q) (.fin t d r) = FP.Core.roundRatio FP.Core.b64 (s != t) (c * d) 1 (q + r) := by
    unfold zM
    rw [p1]
    rfl
  refine ⟨?_, by rw [e1]; exact FP.Core.roundRatio_ne_nan _ _ _ _ _, by rw [e1]; exact FP.Core.sgn_roundRatio _ _ _ _ _⟩
  rw [e1]
  have h1 := FP.Core.zmag_roundRatio_ge FP.Core.good_b64 (s := (s != t)) (A := c * d) (B := 1) (e := q + r) (e0 := 2 * FP.Core.b64.qmin) (by decide) v1 (by rw [FP.Core.qmin_b64]; decide) p2 (by
    rw [v4, p3, Nat.mul_one, Nat.one_mul, FP.Core.qmin_b64, show ((-1074 : Int) - 2 * -1074).toNat = 1074 from rfl, ← Nat.pow_add]
    refine Nat.le_trans (Nat.pow_le_pow_right (by decide) h) ?_
    rw [Nat.pow_add]
    exact Nat.mul_le_mul hi hj)
  rw [v4, Nat.one_mul] at h1
  exact h1
/-- a square's worth: m * x * x -/
theorem zeMM {m x : ZD} {a b d i j k : Nat} (bm : zeB a m) (sm : FP.Core.sgn m = false) (bx : zeB b x) (bu : zeB d (zM m x)) : FP.Core.sgn (zM (zM m x) x) = false ∧ zM (zM m x) x ≠ .nan := by
  obtain ⟨fm, ⟨s, c, q, rfl⟩, zm⟩ := bm
  obtain ⟨fx, ⟨t, e, r, rfl⟩, zx⟩ := bx
  have hs : s = false := sm
  subst hs
  have hu : FP.Core.sgn (zM (.fin false c q) (.fin t e r)) = (false != t) := FP.Core.sgn_roundRatio _ _ _ _ _
  obtain ⟨fu, ⟨u, cu, qu, e9⟩, zu⟩ := bu
  rw [e9] at hu ⊢
  have hu2 : u = (false != t) := hu
  subst hu2
  refine ⟨(FP.Core.sgn_roundRatio FP.Core.b64 ((false != t) != t) (cu * e) 1 (qu + r)).trans ?_, FP.Core.roundRatio_ne_nan _ _ _ _ _⟩
  cases t <;> rfl
/-! quotients -/
/-- at least so much, the infinity above included -/
def zeL (b : Nat) (d : ZD) : Prop := zeN d ∧ b ≤ FP.Core.zmag FP.Core.b64 d
theorem zeB_Q {x y : ZD} {a b : Nat} (hx : zeB a x) (hy : zeL b y) (hb : 0 < b) (n k : Nat) (hn : n < 2 ^ 53) (hk : k ≤ 2045) (h : a * 2 ^ 1074 ≤ n * 2 ^ k * b) : zeB (n * 2 ^ k) (zQ x y) := by
  obtain ⟨fx, ⟨s, c, q, rfl⟩, zx⟩ := hx
  obtain ⟨⟨fy, ny, sy⟩, ly⟩ := hy
  cases y with
  | nan => exact absurd rfl ny
  | inf t => exact ⟨FP.Core.zero_fits FP.Core.good_b64 _, ⟨_, _, _, rfl⟩, by show FP.Core.zmag FP.Core.b64 (.fin (s != t) 0 FP.Core.b64.qmin) ≤ _; rw [show FP.Core.zmag FP.Core.b64 (.fin (s != t) 0 FP.Core.b64.qmin) = 0 * 2 ^ (FP.Core.b64.qmin - FP.Core.b64.qmin).toNat from rfl, Nat.zero_mul]; exact Nat.zero_le _⟩
  | fin t d r =>
    have hd0 : d ≠ 0 := by
      rintro rfl
      have h1 : FP.Core.zmag FP.Core.b64 (.fin t 0 r) = 0 := Nat.zero_mul _
      omega
    have e1 : zQ (.fin s c q) (.fin t d r) = FP.Core.roundRatio FP.Core.b64 (s != t) c d (q - r) := by
      unfold zQ
      simp only [FP.Core.quotient, if_neg hd0]
    rw [e1]
    have hx1 := fx.2.1
    have hy1 := fy.2.1
    refine ze_ratio (Nat.pos_of_ne_zero hd0) hn hk (e0 := 2 * FP.Core.b64.qmin - r) (by have := FP.Core.qmin_b64; omega) (by have := FP.Core.qmin_b64; omega) ?_
    have e2 : FP.Core.inUnits c (q - r) (2 * FP.Core.b64.qmin - r) = FP.Core.zmag FP.Core.b64 (.fin s c q) * 2 ^ 1074 := by
      show c * _ = c * _ * _
      rw [Nat.mul_assoc, ← Nat.pow_add]
      congr 2
      rw [FP.Core.qmin_b64] at hx1 ⊢
      omega
    have e3 : 2 ^ (FP.Core.b64.qmin - (2 * FP.Core.b64.qmin - r)).toNat * d = FP.Core.zmag FP.Core.b64 (.fin t d r) := by
      show _ = d * _
      rw [Nat.mul_comm]
      congr 2
      omega
    rw [e2, Nat.mul_assoc (n * 2 ^ k), e3]
    exact Nat.le_trans (Nat.mul_le_mul_right _ zx) (Nat.le_trans h (Nat.mul_le_mul_left _ ly))
theorem zeN_Q {x y : ZD} {a b : Nat} (hx : zeB a x) (sx : FP.Core.sgn x = false) (hy : zeL b y) (hb : 0 < b) : zeN (zQ x y) := by
  obtain ⟨fx, ⟨s, c, q, rfl⟩, zx⟩ := hx
  obtain ⟨⟨fy, ny, sy⟩, ly⟩ := hy
  have hs : s = false := sx
  subst hs
  cases y with
  | nan => exact absurd rfl ny
  | inf t =>
    have ht : t = false := sy
    subst ht
    exact ⟨FP.Core.zero_fits FP.Core.good_b64 _, (fun h => by cases h), rfl⟩
  | fin t d r =>
    have ht : t = false := sy
    subst ht
    have hd0 : d ≠ 0 := by
      rintro rfl
      have h1 : FP.Core.zmag FP.Core.b64 (.fin false 0 r) = 0 := Nat.zero_mul _
      omega
    have e1 : zQ (.fin false c q) (.fin false d r) = FP.Core.roundRatio FP.Core.b64 (false != false) c d (q - r) := by
      unfold zQ
      simp only [FP.Core.quotient, if_neg hd0]
    rw [e1]
    exact ⟨FP.Core.roundRatio_fits FP.Core.good_b64 _ _ (Nat.pos_of_ne_zero hd0) _, FP.Core.roundRatio_ne_nan _ _ _ _ _, FP.Core.sgn_roundRatio _ _ _ _ _⟩
/-- half of it -/
theorem zeL_half {x : ZD} {k : Nat} (hx : zeL (2 ^ (k + 1)) x) (hk : k ≤ 2045) : zeL (2 ^ k) (zQ x z2) := by
  obtain ⟨⟨fx, nx, sx⟩, lx⟩ := hx
  have e2 : z2 = .fin false (2 ^ 52) (-51) := by decide +kernel
  cases x with
  | nan => exact absurd rfl nx
  | inf s =>
    have hs : s = false := sx
    subst hs
    rw [e2]
    obtain ⟨V, v1, v2, ⟨c, q, v3⟩, v4⟩ := zeV_of (n := 1) (k := k) (by decide) hk
    refine ⟨⟨trivial, (fun h => by cases h), rfl⟩, ?_⟩
    have h1 := FP.Core.zmag_le_top FP.Core.good_b64 v1
    rw [v4, Nat.one_mul] at h1
    exact h1
  | fin s c q =>
    have hs : s = false := sx
    subst hs
    have hd0 : (2 ^ 52 : Nat) ≠ 0 := by decide
    have e1 : zQ (.fin false c q) z2 = FP.Core.roundRatio FP.Core.b64 (false != false) c (2 ^ 52) (q - -51) := by
      rw [e2]
      unfold zQ
      simp only [FP.Core.quotient, if_neg hd0]
    rw [e1]
    refine ⟨⟨FP.Core.roundRatio_fits FP.Core.good_b64 _ _ (by decide) _, FP.Core.roundRatio_ne_nan _ _ _ _ _, FP.Core.sgn_roundRatio _ _ _ _ _⟩, ?_⟩
    obtain ⟨V, v1, v2, v3, v4⟩ := zeV_of (n := 1) (k := k) (by decide) hk
    have hx1 := fx.2.1
    have h1 := FP.Core.zmag_roundRatio_ge FP.Core.good_b64 (s := (false != false)) (A := c) (B := 2 ^ 52) (e := q - -51) (e0 := FP.Core.b64.qmin) (by decide) v1 (Int.le_refl _) (by omega) (by
      rw [v4, Nat.one_mul, Int.sub_self, Int.toNat_zero, Nat.pow_zero, Nat.mul_one, ← Nat.pow_add]
      have e3 : FP.Core.inUnits c (q - -51) FP.Core.b64.qmin = FP.Core.zmag FP.Core.b64 (.fin false c q) * 2 ^ 51 := by
        show c * _ = c * _ * _
        rw [Nat.mul_assoc, ← Nat.pow_add]
        congr 2
        omega
      rw [e3, show k + 52 = k + 1 + 51 by omega, Nat.pow_add]
      exact Nat.mul_le_mul_right _ lx)
    rw [v4, Nat.one_mul] at h1
    exact h1
/-- ROOT: thirty halvings at most -/
theorem zeL_fold {v : ZD} {a b : Nat} (hv : zeB a v) (sv : FP.Core.sgn v = false) {r : ZD} (hr : zeL (2 ^ b) r) (hb : b ≤ 2045) : ∀ n, n ≤ b → zeL (2 ^ (b - n)) (zfold (zrootF v) n r)
  | 0, _ => hr
  | n + 1, h => by
    have ih := zeL_fold hv sv hr hb n (by omega)
    show zeL _ (zQ (zA (zfold (zrootF v) n r) (zQ v (zfold (zrootF v) n r))) z2)
    generalize zfold (zrootF v) n r = x at ih ⊢
    have h1 := zeN_Q hv sv ih (Nat.two_pow_pos _)
    obtain ⟨h2, h3, _⟩ := zeN_A ih.1 h1
    refine zeL_half ⟨h2, ?_⟩ (by omega)
    rw [show b - (n + 1) + 1 = b - n by omega]
    exact Nat.le_trans ih.2 h3
