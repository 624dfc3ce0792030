/-! 21: nowhere does the class's way of reckoning differ from what the plate asks -/
abbrev zez (d : ZD) : Nat := FP.Core.zmag FP.Core.b64 d
abbrev zef (d : ZD) : Prop := FP.Core.fits FP.Core.b64 d
theorem zge_val {x y : ZD} (fx : zef x) (fy : zef y) (h : zge x y = true) : x ≠ .nan ∧ y ≠ .nan ∧ FP.Core.zval FP.Core.b64 y ≤ FP.Core.zval FP.Core.b64 x := by
  unfold zge at h
  rw [Bool.or_eq_true] at h
  have h1 : ∃ o, FP.Core.order x y = some o ∧ o ≠ .lt := by
    rcases h with h | h
    · exact ⟨_, of_decide_eq_true h, by decide⟩
    · exact ⟨_, of_decide_eq_true h, by decide⟩
  obtain ⟨o, ho, hn⟩ := h1
  have nx : x ≠ .nan := fun q => by rw [(FP.Core.order_none x y).mpr (Or.inl q)] at ho; cases ho
  have ny : y ≠ .nan := fun q => by rw [(FP.Core.order_none x y).mpr (Or.inr q)] at ho; cases ho
  have h2 := FP.Core.order_zval FP.Core.good_b64 fx fy nx ny
  have h3 := h2.symm.trans ho
  injection h3 with h3
  refine ⟨nx, ny, Int.not_lt.mp (fun q => hn ?_)⟩
  rw [← h3]
  exact (FP.Core.compare_lt_iff _ _).mpr q
theorem zle_val {x y : ZD} (fx : zef x) (fy : zef y) (h : zle x y = true) : x ≠ .nan ∧ y ≠ .nan ∧ FP.Core.zval FP.Core.b64 x ≤ FP.Core.zval FP.Core.b64 y := by
  unfold zle at h
  rw [Bool.or_eq_true] at h
  have h1 : ∃ o, FP.Core.order x y = some o ∧ o ≠ .gt := by
    rcases h with h | h
    · exact ⟨_, of_decide_eq_true h, by decide⟩
    · exact ⟨_, of_decide_eq_true h, by decide⟩
  obtain ⟨o, ho, hn⟩ := h1
  have nx : x ≠ .nan := fun q => by rw [(FP.Core.order_none x y).mpr (Or.inl q)] at ho; cases ho
  have ny : y ≠ .nan := fun q => by rw [(FP.Core.order_none x y).mpr (Or.inr q)] at ho; cases ho
  have h2 := FP.Core.order_zval FP.Core.good_b64 fx fy nx ny
  have h3 := h2.symm.trans ho
  injection h3 with h3
  refine ⟨nx, ny, Int.not_lt.mp (fun q => hn ?_)⟩
  rw [← h3]
  exact (FP.Core.compare_gt_iff _ _).mpr q
theorem ze_zval {d : ZD} (h : FP.Core.sgn d = false) : FP.Core.zval FP.Core.b64 d = (zez d : Int) := by
  unfold FP.Core.zval
  rw [h]
  rfl
theorem ze_z0 : z0 = .fin false 0 FP.Core.b64.qmin := FP.Core.val64_zero
theorem ze_z0m : zez z0 = 0 := by rw [ze_z0]; exact Nat.zero_mul _
theorem ze_z0v : FP.Core.zval FP.Core.b64 z0 = 0 := FP.Core.zval64_zero
theorem ze_z0f : zef z0 := FP.Core.val64_fits 0
theorem ze_z0n : zeN z0 := ⟨ze_z0f, by rw [ze_z0]; exact FP.Core.Datum.noConfusion, by rw [ze_z0]; rfl⟩
theorem ze_z0b (b : Nat) : zeB b z0 := ⟨ze_z0f, ⟨_, _, _, ze_z0⟩, by rw [show FP.Core.zmag FP.Core.b64 z0 = 0 from ze_z0m]; exact Nat.zero_le _⟩
theorem ze_gt {d : ZD} {b : Nat} (h : zeL b d) (hb : 0 < b) : zgt d z0 = true ∧ zeq d z0 = false := by
  obtain ⟨⟨f, n, s⟩, l⟩ := h
  have h1 := FP.Core.order_zval FP.Core.good_b64 f ze_z0f n ze_z0n.2.1
  rw [ze_zval s, ze_z0v] at h1
  have h2 : compare (zez d : Int) 0 = .gt := (FP.Core.compare_gt_iff _ _).mpr (by
    have h9 : 0 < FP.Core.zmag FP.Core.b64 d := Nat.lt_of_lt_of_le hb l
    show (0 : Int) < ((FP.Core.zmag FP.Core.b64 d : Nat) : Int)
    omega)
  rw [h2] at h1
  unfold zgt zeq zo
  rw [h1]
  exact ⟨rfl, rfl⟩
theorem ze_gt0 {d : ZD} (f : zef d) (h : zgt d z0 = true) : d ≠ .nan ∧ 0 < FP.Core.zval FP.Core.b64 d := by
  have ho : FP.Core.order d z0 = some .gt := of_decide_eq_true h
  have n : d ≠ .nan := fun q => by rw [(FP.Core.order_none d z0).mpr (Or.inl q)] at ho; cases ho
  have h1 := FP.Core.order_zval FP.Core.good_b64 f ze_z0f n ze_z0n.2.1
  have h2 := h1.symm.trans ho
  injection h2 with h2
  rw [ze_z0v] at h2
  exact ⟨n, (FP.Core.compare_gt_iff _ _).mp h2⟩
theorem ze_z0gt : zgt z0 z0 = false := by decide +kernel
theorem ze_z0eq : zeq z0 z0 = true := by decide +kernel
theorem ze_c18v : FP.Core.zval FP.Core.b64 c18 = ((2 ^ 1071 : Nat) : Int) := by decide +kernel
theorem ze_c8v : FP.Core.zval FP.Core.b64 c8 = ((2 ^ 1077 : Nat) : Int) := by decide +kernel
theorem ze_top : 2 ^ 1077 < FP.Core.b64.tails * 2 ^ (FP.Core.b64.exps - 2) := by decide +kernel
/-- a thickness, a rate, a height -/
def zeR (v : ZD) : Prop := zeN v ∧ 2 ^ 1071 ≤ zez v ∧ zeB (2 ^ 1077) v
theorem zeR_val {v : ZD} (f : zef v) (n : v ≠ .nan) (h1 : ((2 ^ 1071 : Nat) : Int) ≤ FP.Core.zval FP.Core.b64 v) (h2 : FP.Core.zval FP.Core.b64 v ≤ ((2 ^ 1077 : Nat) : Int)) : zeR v := by
  have hp : 0 < 2 ^ 1071 := Nat.two_pow_pos _
  have ht := ze_top
  unfold zeR zeB
  generalize 2 ^ 1071 = a at *
  generalize 2 ^ 1077 = b at *
  have hs : FP.Core.sgn v = false := by
    cases hs : FP.Core.sgn v with
    | false => rfl
    | true =>
      unfold FP.Core.zval FP.Core.signed at h1
      rw [hs] at h1
      simp only [if_true] at h1
      omega
  rw [ze_zval hs] at h1 h2
  have h3 : a ≤ zez v := by omega
  have h4 : zez v ≤ b := by omega
  refine ⟨⟨f, n, hs⟩, h3, f, ?_, h4⟩
  cases v with
  | nan => exact absurd rfl n
  | inf s =>
    have h5 : FP.Core.b64.tails * 2 ^ (FP.Core.b64.exps - 2) ≤ b := h4
    exact absurd ht (Nat.not_lt.mpr h5)
  | fin s c q => exact ⟨_, _, _, rfl⟩
theorem zeR_of {v : ZD} (f : zef v) (h : zbt v c18 c8 = true) : zeR v := by
  unfold zbt at h
  rw [Bool.and_eq_true] at h
  obtain ⟨n, _, h1⟩ := zge_val f (FP.Core.val64_fits _) h.1
  obtain ⟨_, _, h2⟩ := zle_val f (FP.Core.val64_fits _) h.2
  rw [ze_c18v] at h1
  rw [ze_c8v] at h2
  exact zeR_val f n h1 h2
theorem zeR_gt {v : ZD} (h : zeR v) : zgt v z0 = true := (ze_gt ⟨h.1, h.2.1⟩ (Nat.two_pow_pos _)).1
/-- thicknesses as they can be -/
def zeG (T : Nat → ZD) (n : Nat) : Prop := ∀ c, c < n → T c = z0 ∨ zeR (T c)
theorem zeG_w {T : Nat → ZD} {n c : Nat} (h : zeG T n) (hc : c < n) (hw : zgt (T c) z0 = true) : zeR (T c) := by
  rcases h c hc with h1 | h1
  · rw [h1, ze_z0gt] at hw; cases hw
  · exact h1
theorem ze_gcB : zeB (2 ^ 1070) zgc := ⟨FP.Core.val64_fits _, ⟨false, 2 ^ 52, -56, by decide +kernel⟩, by decide +kernel⟩
theorem ze_gcm : zez zgc = 2 ^ 1070 := by decide +kernel
theorem ze_gcn : zeN zgc := ⟨FP.Core.val64_fits _, by decide +kernel, by decide +kernel⟩
theorem ze_z1m : zez z1 = 2 ^ 1074 := by decide +kernel
theorem ze_z1n : zeN z1 := ⟨FP.Core.val64_fits _, by decide +kernel, by decide +kernel⟩
theorem ze_z2L : zeL (2 ^ 1075) z2 := ⟨⟨FP.Core.val64_fits _, by decide +kernel, by decide +kernel⟩, by decide +kernel⟩
theorem ze_halfB : zeB (2 ^ 1073) zhalf := ⟨FP.Core.val64_fits _, ⟨false, 2 ^ 52, -53, by decide +kernel⟩, by decide +kernel⟩
theorem ze_pp (a b : Nat) : 2 ^ a * 2 ^ b = 2 ^ (a + b) := (Nat.pow_add 2 a b).symm
theorem ze_ple {a b : Nat} (h : a ≤ b) : 2 ^ a ≤ 2 ^ b := Nat.pow_le_pow_right (by decide) h
/-! springs -/
theorem ze_spring {r a b : ZD} (hr : zeR r) (ha : zeR a) (hb : zeR b) : zeN (zspring r a b) ∧ zeB (2 ^ 1086) (zspring r a b) := by
  obtain ⟨n1, _, _⟩ := zeN_A ha.1 hb.1
  have b1 := zeB_A2 ha.2.2 hb.2.2 1077 (by decide) (by decide) (by decide)
  have b2 := zeB_Q b1 ze_z2L (Nat.two_pow_pos _) 1 1077 (by decide) (by decide) (by rw [Nat.one_mul, ze_pp, ze_pp]; exact ze_ple (by decide))
  rw [Nat.one_mul] at b2
  have n2 := zeN_Q b1 n1.2.2 ze_z2L (Nat.two_pow_pos _)
  unfold zspring
  generalize zQ (zA a b) z2 = t at b2 n2 ⊢
  have b3 := zeB_M2 hr.2.2 b2 1080 (by decide) (by decide)
  have n3 := zeN_M hr.1 n2 hr.2.2 b2
  have b4 := zeB_M2 b3 b2 1083 (by decide) (by decide)
  have n4 := zeN_M n3 n2 b3 b2
  exact ⟨zeN_M n4 n2 b4 b2, zeB_M2 b4 b2 1086 (by decide) (by decide)⟩
/-- springs after j braces' steps -/
def zeP (w h : Nat) (R : Nat → ZD) (j : Nat) : Prop := ∀ x y, x < w → y < h → zeN (R (y * w + x)) ∧ zeB ((512 + j) * 2 ^ 1077) (R (y * w + x))
theorem zeP_w {i j : Nat} (h : i ≤ j) {d : ZD} (hb : zeB ((512 + i) * 2 ^ 1077) d) : zeB ((512 + j) * 2 ^ 1077) d := by
  refine zeB_mono hb ?_
  generalize 2 ^ 1077 = b
  exact Nat.mul_le_mul_right b (by omega)
theorem zeP_mono {w h : Nat} {R : Nat → ZD} {i j : Nat} (hp : zeP w h R i) (hij : i ≤ j) : zeP w h R j := fun x y hx hy => ⟨(hp x y hx hy).1, zeP_w hij (hp x y hx hy).2⟩
theorem zeP_0 (j : Nat) : zeN z0 ∧ zeB ((512 + j) * 2 ^ 1077) z0 := ⟨ze_z0n, ze_z0b _⟩
theorem ze_512 : 2 ^ 1086 = (512 + 0) * 2 ^ 1077 := by rw [show 512 + 0 = 2 ^ 9 from rfl, ze_pp]
theorem zeP_R0 {w h : Nat} {T : Nat → ZD} {A : ZD} (hT : zeG T (w * h)) (hA : zeR A) : zeP w h (zR0 w T A) 0 := by
  intro x y hx hy
  rw [zR0_at hx]
  unfold zsR
  by_cases q : x + 1 < w ∧ zgt (T (y * w + x)) z0 = true ∧ zgt (T (y * w + (x + 1))) z0 = true
  · rw [if_pos q, ← ze_512]
    exact ze_spring hA (zeG_w hT (zrow hx hy) q.2.1) (zeG_w hT (zrow q.1 hy) q.2.2)
  · rw [if_neg q]
    exact zeP_0 0
theorem zeP_N0 {w h : Nat} {T : Nat → ZD} {A : ZD} (hT : zeG T (w * h)) (hA : zeR A) : zeP w h (zN0 w h T A) 0 := by
  intro x y hx hy
  rw [zN0_at hx]
  unfold zsN
  by_cases q : y + 1 < h ∧ zgt (T (y * w + x)) z0 = true ∧ zgt (T ((y + 1) * w + x)) z0 = true
  · rw [if_pos q, ← ze_512]
    exact ze_spring hA (zeG_w hT (zrow hx hy) q.2.1) (zeG_w hT (zrow hx q.1) q.2.2)
  · rw [if_neg q]
    exact zeP_0 0
theorem zeP_add {a g : ZD} {j : Nat} (hj : j < 1000) (ha : zeN a ∧ zeB ((512 + j) * 2 ^ 1077) a) (hg : zeR g) : zeN (zA a g) ∧ zeB ((512 + (j + 1)) * 2 ^ 1077) (zA a g) := by
  refine ⟨(zeN_A ha.1 hg.1).1, zeB_A ha.2 hg.2.2 _ 1077 (by omega) (by decide) ?_⟩
  rw [← Nat.add_assoc, Nat.add_mul _ 1, Nat.one_mul]
  exact Nat.le_refl _
theorem zeP_bR {w h : Nat} {T : Nat → ZD} {x0 y0 x1 : Nat} {g : ZD} (hw : x1 < w) (hy0 : y0 < h) (hg : zeR g) {R : Nat → ZD} {j : Nat} (hp : zeP w h R j) : ∀ t, t ≤ x1 - x0 → j + t < 1000 → zeP w h (zfold (zbRF w T x0 y0 g) t R) (j + t)
  | 0, _, _ => hp
  | t + 1, h1, h2 => by
    have ih := zeP_bR (T := T) (x0 := x0) hw hy0 hg hp t (by omega) (by omega)
    show zeP w h (zbRF w T x0 y0 g t (zfold (zbRF w T x0 y0 g) t R)) (j + (t + 1))
    generalize zfold (zbRF w T x0 y0 g) t R = F at ih ⊢
    intro x y hx hy
    unfold zbRF
    by_cases e : y * w + x = y0 * w + (x0 + t)
    · rw [e, zu_s]
      have h3 := ih (x0 + t) y0 (by omega) hy0
      unfold zbRV
      split
      · exact zeP_add (j := j + t) (by omega) h3 hg
      · exact ⟨h3.1, zeP_w (i := j + t) (j := j + (t + 1)) (by omega) h3.2⟩
    · rw [zu_n e]
      exact ⟨(ih x y hx hy).1, zeP_w (i := j + t) (j := j + (t + 1)) (by omega) (ih x y hx hy).2⟩
theorem zeP_bN {w h : Nat} {T : Nat → ZD} {x0 y0 y1 : Nat} {g : ZD} (hx0 : x0 < w) (hh : y1 < h) (hg : zeR g) {N : Nat → ZD} {j : Nat} (hp : zeP w h N j) : ∀ t, t ≤ y1 - y0 → j + t < 1000 → zeP w h (zfold (zbNF w T x0 y0 g) t N) (j + t)
  | 0, _, _ => hp
  | t + 1, h1, h2 => by
    have ih := zeP_bN (T := T) (y0 := y0) hx0 hh hg hp t (by omega) (by omega)
    show zeP w h (zbNF w T x0 y0 g t (zfold (zbNF w T x0 y0 g) t N)) (j + (t + 1))
    generalize zfold (zbNF w T x0 y0 g) t N = F at ih ⊢
    intro x y hx hy
    unfold zbNF
    by_cases e : y * w + x = (y0 + t) * w + x0
    · rw [e, zu_s]
      have h3 := ih x0 (y0 + t) hx0 (by omega)
      unfold zbNV
      split
      · exact zeP_add (j := j + t) (by omega) h3 hg
      · exact ⟨h3.1, zeP_w (i := j + t) (j := j + (t + 1)) (by omega) h3.2⟩
    · rw [zu_n e]
      exact ⟨(ih x y hx hy).1, zeP_w (i := j + t) (j := j + (t + 1)) (by omega) (ih x y hx hy).2⟩
/-- the braces: where they lie, how high they are -/
def zeK (w h nb : Nat) (x0 y0 x1 y1 : Nat → Nat) (g : Nat → ZD) : Prop := ∀ k, k < nb → x0 k ≤ x1 k ∧ x1 k < w ∧ y0 k ≤ y1 k ∧ y1 k < h ∧ zeR (g k)
theorem zeP_R {w h nb : Nat} {T : Nat → ZD} {A : ZD} {x0 y0 x1 y1 : Nat → Nat} {g : Nat → ZD} (hw : w ≤ 6) (hT : zeG T (w * h)) (hA : zeR A) (hK : zeK w h nb x0 y0 x1 y1 g) : ∀ n, n ≤ nb → n ≤ 12 → zeP w h (zRB w T A x0 y0 x1 g n) (6 * n)
  | 0, _, _ => zeP_R0 hT hA
  | n + 1, h1, h2 => by
    have ih := zeP_R hw hT hA hK n (by omega) (by omega)
    obtain ⟨k1, k2, k3, k4, k5⟩ := hK n (by omega)
    have h3 := zeP_bR (T := T) (x0 := x0 n) k2 (by omega : y0 n < h) k5 ih (x1 n - x0 n) (Nat.le_refl _) (by omega)
    exact zeP_mono h3 (by omega)
theorem zeP_N {w h nb : Nat} {T : Nat → ZD} {A : ZD} {x0 y0 x1 y1 : Nat → Nat} {g : Nat → ZD} (hh : h ≤ 6) (hT : zeG T (w * h)) (hA : zeR A) (hK : zeK w h nb x0 y0 x1 y1 g) : ∀ n, n ≤ nb → n ≤ 12 → zeP w h (zNB w h T A x0 y0 y1 g n) (6 * n)
  | 0, _, _ => zeP_N0 hT hA
  | n + 1, h1, h2 => by
    have ih := zeP_N hh hT hA hK n (by omega) (by omega)
    obtain ⟨k1, k2, k3, k4, k5⟩ := hK n (by omega)
    have h3 := zeP_bN (T := T) (y0 := y0 n) (by omega : x0 n < w) k4 k5 ih (y1 n - y0 n) (Nat.le_refl _) (by omega)
    exact zeP_mono h3 (by omega)
/-- at the edges there is no spring -/
theorem ze_edR {w h nb : Nat} {T : Nat → ZD} {A : ZD} {x0 y0 x1 y1 : Nat → Nat} {g : Nat → ZD} (hK : zeK w h nb x0 y0 x1 y1 g) {x y : Nat} (hx : x < w) (hx1 : ¬ x + 1 < w) : ∀ n, n ≤ nb → zRB w T A x0 y0 x1 g n (y * w + x) = z0
  | 0, _ => by
    show zR0 w T A (y * w + x) = z0
    rw [zR0_at hx]
    exact if_neg (fun q => hx1 q.1)
  | n + 1, h1 => by
    have ih := ze_edR (T := T) (A := A) hK (y := y) hx hx1 n (by omega)
    obtain ⟨k1, k2, k3, k4, k5⟩ := hK n (by omega)
    show zfold (zbRF w T (x0 n) (y0 n) (g n)) (x1 n - x0 n) (zRB w T A x0 y0 x1 g n) (y * w + x) = z0
    generalize zRB w T A x0 y0 x1 g n = F at ih ⊢
    have h2 : ∀ t, t ≤ x1 n - x0 n → zfold (zbRF w T (x0 n) (y0 n) (g n)) t F (y * w + x) = z0 := by
      intro t
      induction t with
      | zero => intro _; exact ih
      | succ t iht =>
        intro ht
        show zbRF w T (x0 n) (y0 n) (g n) t _ (y * w + x) = z0
        unfold zbRF
        rw [zu_n (fun e => by obtain ⟨e1, _⟩ := zline hx (by omega) e; omega)]
        exact iht (by omega)
    exact h2 _ (Nat.le_refl _)
theorem ze_edN {w h nb : Nat} {T : Nat → ZD} {A : ZD} {x0 y0 x1 y1 : Nat → Nat} {g : Nat → ZD} (hK : zeK w h nb x0 y0 x1 y1 g) {x y : Nat} (hx : x < w) (hy1 : ¬ y + 1 < h) : ∀ n, n ≤ nb → zNB w h T A x0 y0 y1 g n (y * w + x) = z0
  | 0, _ => by
    show zN0 w h T A (y * w + x) = z0
    rw [zN0_at hx]
    exact if_neg (fun q => hy1 q.1)
  | n + 1, h1 => by
    have ih := ze_edN (T := T) (A := A) hK (y := y) hx hy1 n (by omega)
    obtain ⟨k1, k2, k3, k4, k5⟩ := hK n (by omega)
    show zfold (zbNF w T (x0 n) (y0 n) (g n)) (y1 n - y0 n) (zNB w h T A x0 y0 y1 g n) (y * w + x) = z0
    generalize zNB w h T A x0 y0 y1 g n = F at ih ⊢
    have h2 : ∀ t, t ≤ y1 n - y0 n → zfold (zbNF w T (x0 n) (y0 n) (g n)) t F (y * w + x) = z0 := by
      intro t
      induction t with
      | zero => intro _; exact ih
      | succ t iht =>
        intro ht
        show zbNF w T (x0 n) (y0 n) (g n) t _ (y * w + x) = z0
        unfold zbNF
        rw [zu_n (fun e => by obtain ⟨_, e1⟩ := zline hx (by omega) e; omega)]
        exact iht (by omega)
    exact h2 _ (Nat.le_refl _)
/-- the springs of a plate -/
def zeS (w h : Nat) (R N : Nat → ZD) : Prop := (∀ x y, x < w → y < h → zeN (R (y * w + x)) ∧ zeB (2 ^ 1087) (R (y * w + x))) ∧ (∀ x y, x < w → y < h → zeN (N (y * w + x)) ∧ zeB (2 ^ 1087) (N (y * w + x))) ∧
  (∀ x y, x < w → ¬ x + 1 < w → R (y * w + x) = z0) ∧ (∀ x y, x < w → ¬ y + 1 < h → N (y * w + x) = z0)
theorem ze_584 {n : Nat} (h : n ≤ 12) : (512 + 6 * n) * 2 ^ 1077 ≤ 2 ^ 1087 := by
  rw [show (1087 : Nat) = 10 + 1077 from rfl, Nat.pow_add]
  exact Nat.mul_le_mul_right _ (Nat.le_trans (by omega : 512 + 6 * n ≤ 1024) (by decide))
theorem zeS_of {w h nb : Nat} {T : Nat → ZD} {A C : ZD} {x0 y0 x1 y1 : Nat → Nat} {g : Nat → ZD} (hw : w ≤ 6) (hh : h ≤ 6) (hn : nb ≤ 12) (hT : zeG T (w * h)) (hA : zeR A) (hC : zeR C) (hK : zeK w h nb x0 y0 x1 y1 g) : zeS w h (zRB w T A x0 y0 x1 g nb) (zNB w h T C x0 y0 y1 g nb) :=
  ⟨fun x y hx hy => ⟨(zeP_R hw hT hA hK nb (Nat.le_refl _) hn x y hx hy).1, zeB_mono (zeP_R hw hT hA hK nb (Nat.le_refl _) hn x y hx hy).2 (ze_584 hn)⟩,
   fun x y hx hy => ⟨(zeP_N hh hT hC hK nb (Nat.le_refl _) hn x y hx hy).1, zeB_mono (zeP_N hh hT hC hK nb (Nat.le_refl _) hn x y hx hy).2 (ze_584 hn)⟩,
   fun x y hx h1 => ze_edR hK hx h1 nb (Nat.le_refl _), fun x y hx h1 => ze_edN hK hx h1 nb (Nat.le_refl _)⟩
/-! what holds a cell -/
theorem ze_cadd {b : Prop} [Decidable b] {a s : ZD} {k : Nat} (ha : zeN a) (ba : zeB (2 ^ k) a) (hs : b → zeN s ∧ zeB (2 ^ 1087) s) (hk : 1087 ≤ k) (hk2 : k ≤ 2044) : zeN (if b then zA a s else a) ∧ zeB (2 ^ (k + 1)) (if b then zA a s else a) ∧ zez a ≤ zez (if b then zA a s else a) ∧ (b → zez s ≤ zez (if b then zA a s else a)) := by
  by_cases h : b
  · rw [if_pos h]
    obtain ⟨h1, h2, h3⟩ := zeN_A ha (hs h).1
    exact ⟨h1, zeB_A2 ba (hs h).2 k hk2 (Nat.le_refl _) hk, h2, fun _ => h3⟩
  · rw [if_neg h]
    exact ⟨ha, zeB_mono ba (ze_ple (by omega)), Nat.le_refl _, fun q => absurd q h⟩
theorem ze_add0 {a : ZD} (h : zeN a) : zA a z0 = a := by
  unfold zA
  rw [ze_z0]
  refine FP.Core.round_sum_zero FP.Core.good_b64 h.1 false (fun s q e => Or.inl ?_)
  have h1 := h.2.2
  rw [e] at h1
  exact h1
theorem ze_hold {w h : Nat} {R N : Nat → ZD} (hs : zeS w h R N) {x y : Nat} (hx : x < w) (hy : y < h) : zeN (zhold w h R N x y) ∧ zeB (2 ^ 1091) (zhold w h R N x y) ∧ zez zgc ≤ zez (zhold w h R N x y) ∧
    (x + 1 < w → zez (R (y * w + x)) ≤ zez (zhold w h R N x y)) ∧ (0 < x → zez (R (y * w + (x - 1))) ≤ zez (zhold w h R N x y)) ∧ (y + 1 < h → zez (N (y * w + x)) ≤ zez (zhold w h R N x y)) ∧ (0 < y → zez (N ((y - 1) * w + x)) ≤ zez (zhold w h R N x y)) ∧ zholdC w R N x y = zhold w h R N x y := by
  obtain ⟨sR, sN, eR, eN⟩ := hs
  obtain ⟨a1, a2, a3, a4⟩ := ze_cadd (b := x + 1 < w) (s := R (y * w + x)) ze_gcn (zeB_mono ze_gcB (ze_ple (by decide : 1070 ≤ 1087))) (fun _ => sR x y hx hy) (by decide) (by decide)
  have e1 : zk1 w R x y = zh1 w R x y := by
    unfold zk1 zh1
    by_cases q : x + 1 < w
    · rw [if_pos q]
    · rw [if_neg q, eR x y hx q, ze_add0 ze_gcn]
  change zeN (zh1 w R x y) at a1
  change zeB (2 ^ 1088) (zh1 w R x y) at a2
  change zez zgc ≤ zez (zh1 w R x y) at a3
  change x + 1 < w → zez (R (y * w + x)) ≤ zez (zh1 w R x y) at a4
  obtain ⟨b1, b2, b3, b4⟩ := ze_cadd (b := 0 < x) (s := R (y * w + (x - 1))) a1 a2 (fun q => sR (x - 1) y (by omega) hy) (by decide) (by decide)
  have e2 : zk2 w R x y = zh2 w R x y := by
    unfold zk2 zh2
    rw [e1]
  change zeN (zh2 w R x y) at b1
  change zeB (2 ^ 1089) (zh2 w R x y) at b2
  change zez (zh1 w R x y) ≤ zez (zh2 w R x y) at b3
  change 0 < x → zez (R (y * w + (x - 1))) ≤ zez (zh2 w R x y) at b4
  obtain ⟨d1, d2, d3, d4⟩ := ze_cadd (b := y + 1 < h) (s := N (y * w + x)) b1 b2 (fun _ => sN x y hx hy) (by decide) (by decide)
  have e3 : zk3 w R N x y = zh3 w h R N x y := by
    unfold zk3 zh3
    rw [e2]
    by_cases q : y + 1 < h
    · rw [if_pos q]
    · rw [if_neg q, eN x y hx q, ze_add0 b1]
  change zeN (zh3 w h R N x y) at d1
  change zeB (2 ^ 1090) (zh3 w h R N x y) at d2
  change zez (zh2 w R x y) ≤ zez (zh3 w h R N x y) at d3
  change y + 1 < h → zez (N (y * w + x)) ≤ zez (zh3 w h R N x y) at d4
  obtain ⟨f1, f2, f3, f4⟩ := ze_cadd (b := 0 < y) (s := N ((y - 1) * w + x)) d1 d2 (fun q => sN x (y - 1) hx (by omega)) (by decide) (by decide)
  change zeN (zhold w h R N x y) at f1
  change zeB (2 ^ 1091) (zhold w h R N x y) at f2
  change zez (zh3 w h R N x y) ≤ zez (zhold w h R N x y) at f3
  change 0 < y → zez (N ((y - 1) * w + x)) ≤ zez (zhold w h R N x y) at f4
  refine ⟨f1, f2, ?_, fun q => ?_, fun q => ?_, fun q => ?_, f4, ?_⟩
  · exact Nat.le_trans a3 (Nat.le_trans b3 (Nat.le_trans d3 f3))
  · exact Nat.le_trans (a4 q) (Nat.le_trans b3 (Nat.le_trans d3 f3))
  · exact Nat.le_trans (b4 q) (Nat.le_trans d3 f3)
  · exact Nat.le_trans (d4 q) f3
  · unfold zholdC zhold
    rw [e3]
