/-! 04b: springs, sweeps, modes: over data -/
theorem zu_id {α : Type} (f : Nat → α) (k : Nat) : zu f k (f k) = f := by
  funext j
  unfold zu
  split
  · next h => rw [h]
  · rfl
/-- springs without braces -/
def zsR (w : Nat) (T : Nat → ZD) (A : ZD) (x y : Nat) : ZD := if x + 1 < w ∧ zgt (T (y * w + x)) z0 = true ∧ zgt (T (y * w + (x + 1))) z0 = true then zspring A (T (y * w + x)) (T (y * w + (x + 1))) else z0
def zsN (w h : Nat) (T : Nat → ZD) (B : ZD) (x y : Nat) : ZD := if y + 1 < h ∧ zgt (T (y * w + x)) z0 = true ∧ zgt (T ((y + 1) * w + x)) z0 = true then zspring B (T (y * w + x)) (T ((y + 1) * w + x)) else z0
def zR0 (w : Nat) (T : Nat → ZD) (A : ZD) : Nat → ZD := fun i => zsR w T A (i % w) (i / w)
def zN0 (w h : Nat) (T : Nat → ZD) (B : ZD) : Nat → ZD := fun i => zsN w h T B (i % w) (i / w)
theorem zR0_at {w : Nat} {T : Nat → ZD} {A : ZD} {x y : Nat} (hx : x < w) : zR0 w T A (y * w + x) = zsR w T A x y := by unfold zR0; rw [zmod_x hx, zdiv_y hx]
theorem zN0_at {w h : Nat} {T : Nat → ZD} {B : ZD} {x y : Nat} (hx : x < w) : zN0 w h T B (y * w + x) = zsN w h T B x y := by unfold zN0; rw [zmod_x hx, zdiv_y hx]
/-- a brace's springs: the t-th along x from x0, y0; the t-th along y -/
def zbRV (w : Nat) (T : Nat → ZD) (x0 y0 : Nat) (g : ZD) (t : Nat) (R : Nat → ZD) : ZD := if zgt (T (y0 * w + (x0 + t))) z0 = true ∧ zgt (T (y0 * w + (x0 + t + 1))) z0 = true then zA (R (y0 * w + (x0 + t))) g else R (y0 * w + (x0 + t))
def zbRF (w : Nat) (T : Nat → ZD) (x0 y0 : Nat) (g : ZD) : Nat → (Nat → ZD) → Nat → ZD := fun t R => zu R (y0 * w + (x0 + t)) (zbRV w T x0 y0 g t R)
def zbNV (w : Nat) (T : Nat → ZD) (x0 y0 : Nat) (g : ZD) (t : Nat) (N : Nat → ZD) : ZD := if zgt (T ((y0 + t) * w + x0)) z0 = true ∧ zgt (T ((y0 + t + 1) * w + x0)) z0 = true then zA (N ((y0 + t) * w + x0)) g else N ((y0 + t) * w + x0)
def zbNF (w : Nat) (T : Nat → ZD) (x0 y0 : Nat) (g : ZD) : Nat → (Nat → ZD) → Nat → ZD := fun t N => zu N ((y0 + t) * w + x0) (zbNV w T x0 y0 g t N)
def zRB (w : Nat) (T : Nat → ZD) (A : ZD) (x0 y0 x1 : Nat → Nat) (g : Nat → ZD) (n : Nat) : Nat → ZD := zfold (fun k R => zfold (zbRF w T (x0 k) (y0 k) (g k)) (x1 k - x0 k) R) n (zR0 w T A)
def zNB (w h : Nat) (T : Nat → ZD) (B : ZD) (x0 y0 y1 : Nat → Nat) (g : Nat → ZD) (n : Nat) : Nat → ZD := zfold (fun k N => zfold (zbNF w T (x0 k) (y0 k) (g k)) (y1 k - y0 k) N) n (zN0 w h T B)
/-- a sweep -/
def zrelF (w h : Nat) (T R N : Nat → ZD) : Nat → (Nat → ZD) → Nat → ZD := fun i S => if zgt (T i) z0 = true then zu S i (zA (S i) (zQ (zM zhalf (zforce w h R N S (i % w) (i / w))) (zhold w h R N (i % w) (i / w)))) else S
def zrel (w h : Nat) (T R N : Nat → ZD) (n : Nat) (S : Nat → ZD) : Nat → ZD := zfold (zrelF w h T R N) n S
theorem zrel_t {w h : Nat} {T R N S : Nat → ZD} {x y : Nat} (hx : x < w) (hh : zgt (T (y * w + x)) z0 = true) : zrel w h T R N (y * w + x + 1) S = zu (zrel w h T R N (y * w + x) S) (y * w + x) (zA (zrel w h T R N (y * w + x) S (y * w + x)) (zQ (zM zhalf (zforce w h R N (zrel w h T R N (y * w + x) S) x y)) (zhold w h R N x y))) := by
  refine Eq.trans (if_pos hh) ?_
  rw [zmod_x hx, zdiv_y hx]
  rfl
theorem zrel_f {w h : Nat} {T R N S : Nat → ZD} {n : Nat} (hh : zgt (T n) z0 = false) : zrel w h T R N (n + 1) S = zrel w h T R N n S := if_neg (by rw [hh]; decide)
def ztk (T : Nat → ZD) (p : ZD) (L S : Nat → ZD) : Nat → ZD := fun i => if zgt (T i) z0 = true then zS (S i) (zM p (L i)) else z0
def ztake (T : Nat → ZD) (de : ZD) (n : Nat) (L : Nat → Nat → ZD) (k : Nat) (S : Nat → ZD) : Nat → ZD := zfold (fun j S => ztk T (zprod T S (L j) de n) (L j) S) k S
theorem ztake_s {T : Nat → ZD} {de : ZD} {n : Nat} {L : Nat → Nat → ZD} {k : Nat} {S : Nat → ZD} : ztake T de n L (k + 1) S = ztk T (zprod T (ztake T de n L k S) (L k) de n) (L k) (ztake T de n L k S) := rfl
def znrm (T : Nat → ZD) (z : ZD) (S : Nat → ZD) : Nat → ZD := fun i => if zgt (T i) z0 = true then zQ (S i) z else z0
def zsw1 (w h : Nat) (T R N : Nat → ZD) (de : ZD) (k : Nat) (L : Nat → Nat → ZD) (S : Nat → ZD) : Nat → ZD := ztake T de (w * h) L k (zrel w h T R N (w * h) S)
def zsz (w h : Nat) (T R N : Nat → ZD) (de : ZD) (k : Nat) (L : Nat → Nat → ZD) (S : Nat → ZD) : ZD := zroot (zprod T (zsw1 w h T R N de k L S) (zsw1 w h T R N de k L S) de (w * h))
def zswO (w h : Nat) (T R N : Nat → ZD) (de : ZD) (k : Nat) (L : Nat → Nat → ZD) (S0 : Nat → ZD) : Nat → Option (Nat → ZD)
  | 0 => some S0
  | n + 1 => match zswO w h T R N de k L S0 n with
    | none => none
    | some S => if zeq (zsz w h T R N de k L S) z0 = true then none else some (znrm T (zsz w h T R N de k L S) (zsw1 w h T R N de k L S))
theorem zswO_n {w h : Nat} {T R N : Nat → ZD} {de : ZD} {k : Nat} {L : Nat → Nat → ZD} {S0 S : Nat → ZD} {n : Nat} (e : zswO w h T R N de k L S0 n = some S) (hz : zeq (zsz w h T R N de k L S) z0 = true) : zswO w h T R N de k L S0 (n + 1) = none := by
  show (match zswO w h T R N de k L S0 n with | none => none | some S => if zeq (zsz w h T R N de k L S) z0 = true then none else some (znrm T (zsz w h T R N de k L S) (zsw1 w h T R N de k L S))) = none
  rw [e]
  exact if_pos hz
theorem zswO_s {w h : Nat} {T R N : Nat → ZD} {de : ZD} {k : Nat} {L : Nat → Nat → ZD} {S0 S : Nat → ZD} {n : Nat} (e : zswO w h T R N de k L S0 n = some S) (hz : zeq (zsz w h T R N de k L S) z0 = false) : zswO w h T R N de k L S0 (n + 1) = some (znrm T (zsz w h T R N de k L S) (zsw1 w h T R N de k L S)) := by
  show (match zswO w h T R N de k L S0 n with | none => none | some S => if zeq (zsz w h T R N de k L S) z0 = true then none else some (znrm T (zsz w h T R N de k L S) (zsw1 w h T R N de k L S))) = _
  rw [e]
  exact if_neg (by rw [hz]; decide)
theorem zswO_none {w h : Nat} {T R N : Nat → ZD} {de : ZD} {k : Nat} {L : Nat → Nat → ZD} {S0 : Nat → ZD} {n : Nat} (e : zswO w h T R N de k L S0 n = none) : ∀ j, zswO w h T R N de k L S0 (n + j) = none
  | 0 => e
  | j + 1 => by
    have h1 := zswO_none e j
    show (match zswO w h T R N de k L S0 (n + j) with | none => none | some S => if zeq (zsz w h T R N de k L S) z0 = true then none else some (znrm T (zsz w h T R N de k L S) (zsw1 w h T R N de k L S))) = none
    rw [h1]
/-- how a mode begins -/
def zbeg (x y k : Nat) : ZD := zA z1 (zQ (zv (FP.i2d (nI ((3 * x + 5 * y + 7 * k) % 11)))) (zv 4620693217682128896))
def zbegin (w : Nat) (T : Nat → ZD) (k : Nat) : Nat → ZD := fun i => if zgt (T i) z0 = true then zbeg (i % w) (i / w) k else z0
theorem zbegin_t {w : Nat} {T : Nat → ZD} {k x y : Nat} (hx : x < w) (h : zgt (T (y * w + x)) z0 = true) : zbegin w T k (y * w + x) = zbeg x y k := by
  unfold zbegin
  rw [if_pos h, zmod_x hx, zdiv_y hx]
theorem zbegin_f {w : Nat} {T : Nat → ZD} {k i : Nat} (h : zgt (T i) z0 = false) : zbegin w T k i = z0 := if_neg (by rw [h]; decide)
/-- the first n modes' shapes, if all are -/
def zshO (w h : Nat) (T R N : Nat → ZD) (de : ZD) : Nat → Option (Nat → Nat → ZD)
  | 0 => some (fun _ _ => z0)
  | k + 1 => match zshO w h T R N de k with
    | none => none
    | some L => match zswO w h T R N de k L (zbegin w T k) 24 with
      | none => none
      | some S => some (zu L k S)
theorem zshO_n {w h : Nat} {T R N : Nat → ZD} {de : ZD} {k : Nat} {L : Nat → Nat → ZD} (e : zshO w h T R N de k = some L) (e2 : zswO w h T R N de k L (zbegin w T k) 24 = none) : zshO w h T R N de (k + 1) = none := by
  show (match zshO w h T R N de k with | none => none | some L => match zswO w h T R N de k L (zbegin w T k) 24 with | none => none | some S => some (zu L k S)) = none
  rw [e]
  show (match zswO w h T R N de k L (zbegin w T k) 24 with | none => none | some S => some (zu L k S)) = none
  rw [e2]
theorem zshO_s {w h : Nat} {T R N : Nat → ZD} {de : ZD} {k : Nat} {L : Nat → Nat → ZD} {S : Nat → ZD} (e : zshO w h T R N de k = some L) (e2 : zswO w h T R N de k L (zbegin w T k) 24 = some S) : zshO w h T R N de (k + 1) = some (zu L k S) := by
  show (match zshO w h T R N de k with | none => none | some L => match zswO w h T R N de k L (zbegin w T k) 24 with | none => none | some S => some (zu L k S)) = _
  rw [e]
  show (match zswO w h T R N de k L (zbegin w T k) 24 with | none => none | some S => some (zu L k S)) = _
  rw [e2]
theorem zshO_none {w h : Nat} {T R N : Nat → ZD} {de : ZD} {k : Nat} (e : zshO w h T R N de k = none) : ∀ j, zshO w h T R N de (k + j) = none
  | 0 => e
  | j + 1 => by
    have h1 := zshO_none e j
    show (match zshO w h T R N de (k + j) with | none => none | some L => match zswO w h T R N de (k + j) L (zbegin w T (k + j)) 24 with | none => none | some S => some (zu L (k + j) S)) = none
    rw [h1]
/-- how many of the first n modes there are -/
def zcnt (w h : Nat) (T R N : Nat → ZD) (de : ZD) : Nat → Nat
  | 0 => 0
  | n + 1 => if (zshO w h T R N de (n + 1)).isSome = true then n + 1 else zcnt w h T R N de n
theorem zcnt_some {w h : Nat} {T R N : Nat → ZD} {de : ZD} {L : Nat → Nat → ZD} : ∀ {n : Nat}, zshO w h T R N de n = some L → zcnt w h T R N de n = n
  | 0, _ => rfl
  | n + 1, e => if_pos (by rw [e]; rfl)
theorem zcnt_none {w h : Nat} {T R N : Nat → ZD} {de : ZD} {L : Nat → Nat → ZD} {k : Nat} (e : zshO w h T R N de k = some L) (e2 : zshO w h T R N de (k + 1) = none) : ∀ j, zcnt w h T R N de (k + j) = k
  | 0 => zcnt_some e
  | j + 1 => by
    have h1 : zshO w h T R N de (k + j + 1) = none := by
      have h2 := zshO_none e2 j
      rw [show k + 1 + j = k + j + 1 by omega] at h2
      exact h2
    show (if (zshO w h T R N de (k + j + 1)).isSome = true then k + j + 1 else zcnt w h T R N de (k + j)) = k
    rw [if_neg (by rw [h1]; decide)]
    exact zcnt_none e e2 j
theorem zcnt_le {w h : Nat} {T R N : Nat → ZD} {de : ZD} : ∀ n, zcnt w h T R N de n ≤ n
  | 0 => Nat.le_refl _
  | n + 1 => by
    show (if (zshO w h T R N de (n + 1)).isSome = true then n + 1 else zcnt w h T R N de n) ≤ n + 1
    split
    · exact Nat.le_refl _
    · exact Nat.le_succ_of_le (zcnt_le n)
/-- mode j's shape -/
def zshp (w h : Nat) (T R N : Nat → ZD) (de : ZD) (j : Nat) : Nat → ZD := match zshO w h T R N de (j + 1) with
  | none => fun _ => z0
  | some L => L j
theorem zshO_at {w h : Nat} {T R N : Nat → ZD} {de : ZD} : ∀ {n : Nat} {L : Nat → Nat → ZD}, zshO w h T R N de n = some L → ∀ j, j < n → L j = zshp w h T R N de j
  | 0, _, _, j, hj => absurd hj (Nat.not_lt_zero j)
  | n + 1, L, e, j, hj => by
    cases e1 : zshO w h T R N de n with
    | none => rw [zshO_none e1 1] at e; cases e
    | some L1 =>
      cases e2 : zswO w h T R N de n L1 (zbegin w T n) 24 with
      | none => rw [zshO_n e1 e2] at e; cases e
      | some S =>
        have e3 := zshO_s e1 e2
        rw [e3] at e
        cases e
        by_cases hjn : j = n
        · subst hjn
          unfold zshp
          rw [e3]
        · rw [zu_n hjn]
          exact zshO_at e1 j (by omega)
/-! rows of the grid, partly done -/
theorem zgrid {x y x' y' : Nat} (hx : x < 6) (hx' : x' < 6) (h : 6 * y + x = 6 * y' + x') : x = x' ∧ y = y' := by omega
theorem zline {w x y x' y' : Nat} (hx : x < w) (hx' : x' < w) (h : y * w + x = y' * w + x') : x = x' ∧ y = y' := by
  have h1 := zmod_x (y := y) hx
  have h2 := zmod_x (y := y') hx'
  have h3 := zdiv_y (y := y) hx
  have h4 := zdiv_y (y := y') hx'
  rw [h] at h1 h3
  exact ⟨h1.symm.trans h2, h3.symm.trans h4⟩
def zgrp (f : Nat → UInt64) (w h : Nat) (F : Nat → ZD) (n : Nat) : Prop := ∀ x y, x < w → y < h → y * w + x < n → zv (f (6 * y + x)) = F (y * w + x)
theorem zgrp_0 {f : Nat → UInt64} {w h : Nat} {F : Nat → ZD} : zgrp f w h F 0 := fun _ _ _ _ h => absurd h (Nat.not_lt_zero _)
theorem zgrp_put {f : Nat → UInt64} {w h : Nat} {F : Nat → ZD} {x y : Nat} {v : UInt64} (hw : w ≤ 6) (g : zgrp f w h F (y * w + x)) (hx : x < w) (hv : zv v = F (y * w + x)) : zgrp (zu f (6 * y + x) v) w h F (y * w + x + 1) := by
  intro x' y' hx' hy' hn
  by_cases e : 6 * y' + x' = 6 * y + x
  · obtain ⟨rfl, rfl⟩ := zgrid (by omega) (by omega) e
    rw [zu_s]
    exact hv
  · rw [zu_n e]
    refine g x' y' hx' hy' ?_
    rcases Nat.lt_or_eq_of_le (Nat.le_of_lt_succ hn) with h1 | h1
    · exact h1
    · obtain ⟨rfl, rfl⟩ := zline hx' hx h1
      exact absurd rfl e
theorem zgrp_all {f : Nat → UInt64} {w h : Nat} {F : Nat → ZD} {n : Nat} (g : zgrp f w h F n) (hn : n = h * w) : zgr f w h F := fun x y hx hy => g x y hx hy (by
  have := zrow hx hy
  rw [hn, Nat.mul_comm h w]
  exact this)
theorem zgrp_n {f : Nat → UInt64} {w h : Nat} {F : Nat → ZD} {n n' : Nat} (g : zgrp f w h F n) (hn : n = n') : zgrp f w h F n' := hn ▸ g
theorem zgr_put {f : Nat → UInt64} {w h : Nat} {F : Nat → ZD} {x y : Nat} {v : UInt64} {V : ZD} (hw : w ≤ 6) (g : zgr f w h F) (hx : x < w) {i : Nat} (hi : i = 6 * y + x) (hv : zv v = V) : zgr (zu f i v) w h (zu F (y * w + x) V) := by
  subst hi
  intro x' y' hx' hy'
  by_cases e : 6 * y' + x' = 6 * y + x
  · obtain ⟨rfl, rfl⟩ := zgrid (by omega) (by omega) e
    rw [zu_s, zu_s]
    exact hv
  · rw [zu_n e, zu_n (fun e2 => by obtain ⟨rfl, rfl⟩ := zline hx' hx e2; exact e rfl)]
    exact g x' y' hx' hy'
theorem zgs_put {f : Nat → UInt64} {k w h : Nat} {F : Nat → ZD} {x y : Nat} {v : UInt64} {V : ZD} (hw : w ≤ 6) (g : zgs f k w h F) (hx : x < w) {i : Nat} (hi : i = 36 * k + 6 * y + x) (hv : zv v = V) : zgs (zu f i v) k w h (zu F (y * w + x) V) := by
  subst hi
  intro x' y' hx' hy'
  by_cases e : 36 * k + 6 * y' + x' = 36 * k + 6 * y + x
  · obtain ⟨rfl, rfl⟩ := zgrid (x := x') (x' := x) (y := y') (y' := y) (by omega) (by omega) (by omega)
    rw [zu_s, zu_s]
    exact hv
  · rw [zu_n e, zu_n (fun e2 => by obtain ⟨rfl, rfl⟩ := zline hx' hx e2; exact e rfl)]
    exact g x' y' hx' hy'
theorem zgs_low {f t : Nat → UInt64} {k j w h : Nat} {F : Nat → ZD} (hw : w ≤ 6) (hh : h ≤ 6) (hf : ∀ i, i < 36 * k → f i = t i) (hj : j < k) (g : zgs t j w h F) : zgs f j w h F := fun x y hx hy => by
  rw [hf _ (by omega)]
  exact g x y hx hy
/-- shape k, its first c places already new -/
def zgsp (f : Nat → UInt64) (k w h c : Nat) (G F : Nat → ZD) : Prop := ∀ x y, x < w → y < h → zv (f (36 * k + 6 * y + x)) = if 6 * y + x < c then G (y * w + x) else F (y * w + x)
theorem zgsp_0 {f : Nat → UInt64} {k w h : Nat} {G F : Nat → ZD} (g : zgs f k w h F) : zgsp f k w h 0 G F := fun x y hx hy => by
  rw [if_neg (Nat.not_lt_zero _)]
  exact g x y hx hy
theorem zgsp_all {f : Nat → UInt64} {k w h c : Nat} {G F : Nat → ZD} (hw : w ≤ 6) (hh : h ≤ 6) (hc : 36 ≤ c) (g : zgsp f k w h c G F) : zgs f k w h G := fun x y hx hy => by
  rw [g x y hx hy, if_pos (by omega)]
theorem zgsp_put {f : Nat → UInt64} {k w h c : Nat} {G F : Nat → ZD} {v : UInt64} (g : zgsp f k w h c G F) (hv : ∀ x y, x < w → y < h → 6 * y + x = c → zv v = G (y * w + x)) {i : Nat} (hi : i = 36 * k + c) : zgsp (zu f i v) k w h (c + 1) G F := by
  subst hi
  intro x y hx hy
  by_cases e : 6 * y + x = c
  · rw [show 36 * k + 6 * y + x = 36 * k + c by omega, zu_s, if_pos (by omega)]
    exact hv x y hx hy e
  · rw [zu_n (by omega), g x y hx hy]
    by_cases e2 : 6 * y + x < c
    · rw [if_pos e2, if_pos (by omega)]
    · rw [if_neg e2, if_neg (by omega)]
theorem ztk_w {f tT : Nat → UInt64} {k j w h c : Nat} {T G F L : Nat → ZD} {p : ZD} {v : UInt64} (gT : zgr tT w h T) (gp : zgsp f k w h c G F) (gL : zgs f j w h L) (hv : zv v = zS (zv (f (36 * k + c))) (zM p (zv (f (36 * j + c))))) (hw : zgt (zv (tT c)) z0 = true) : ∀ x y, x < w → y < h → 6 * y + x = c → zv v = ztk T p L F (y * w + x) := by
  intro x y hx hy e
  have h1 := gp x y hx hy
  rw [if_neg (by omega)] at h1
  have h2 := gL x y hx hy
  have h3 := gT x y hx hy
  rw [e] at h3
  rw [show 36 * k + 6 * y + x = 36 * k + c by omega] at h1
  rw [show 36 * j + 6 * y + x = 36 * j + c by omega] at h2
  rw [hv, h1, h2]
  rw [h3] at hw
  exact (if_pos hw).symm
theorem ztk_n {tT : Nat → UInt64} {w h c : Nat} {T F L : Nat → ZD} {p : ZD} {v : UInt64} (gT : zgr tT w h T) (hv : zv v = z0) (hw : zgt (zv (tT c)) z0 = false) : ∀ x y, x < w → y < h → 6 * y + x = c → zv v = ztk T p L F (y * w + x) := by
  intro x y hx hy e
  have h3 := gT x y hx hy
  rw [e] at h3
  rw [h3] at hw
  rw [hv]
  exact (if_neg (by rw [hw]; decide)).symm
theorem znrm_w {f tT : Nat → UInt64} {k w h c : Nat} {T G F : Nat → ZD} {z : ZD} {v : UInt64} (gT : zgr tT w h T) (gp : zgsp f k w h c G F) (hv : zv v = zQ (zv (f (36 * k + c))) z) (hw : zgt (zv (tT c)) z0 = true) : ∀ x y, x < w → y < h → 6 * y + x = c → zv v = znrm T z F (y * w + x) := by
  intro x y hx hy e
  have h1 := gp x y hx hy
  rw [if_neg (by omega)] at h1
  have h3 := gT x y hx hy
  rw [e] at h3
  rw [show 36 * k + 6 * y + x = 36 * k + c by omega] at h1
  rw [hv, h1]
  rw [h3] at hw
  exact (if_pos hw).symm
theorem znrm_n {tT : Nat → UInt64} {w h c : Nat} {T F : Nat → ZD} {z : ZD} {v : UInt64} (gT : zgr tT w h T) (hv : zv v = z0) (hw : zgt (zv (tT c)) z0 = false) : ∀ x y, x < w → y < h → 6 * y + x = c → zv v = znrm T z F (y * w + x) := by
  intro x y hx hy e
  have h3 := gT x y hx hy
  rw [e] at h3
  rw [h3] at hw
  rw [hv]
  exact (if_neg (by rw [hw]; decide)).symm
/-- a mode's beginning, the first c places of the grid -/
def zgsb (f : Nat → UInt64) (k w h c : Nat) (G : Nat → ZD) : Prop := ∀ x y, x < w → y < h → 6 * y + x < c → zv (f (36 * k + 6 * y + x)) = G (y * w + x)
theorem zgsb_0 {f : Nat → UInt64} {k w h : Nat} {G : Nat → ZD} : zgsb f k w h 0 G := fun _ _ _ _ h => absurd h (Nat.not_lt_zero _)
theorem zgsb_put {f : Nat → UInt64} {k w h c : Nat} {G : Nat → ZD} {v : UInt64} (g : zgsb f k w h c G) (hv : ∀ x y, x < w → y < h → 6 * y + x = c → zv v = G (y * w + x)) {i : Nat} (hi : i = 36 * k + c) : zgsb (zu f i v) k w h (c + 1) G := by
  subst hi
  intro x y hx hy hc
  by_cases e : 6 * y + x = c
  · rw [show 36 * k + 6 * y + x = 36 * k + c by omega, zu_s]
    exact hv x y hx hy e
  · rw [zu_n (by omega)]
    exact g x y hx hy (by omega)
theorem zgsb_all {f : Nat → UInt64} {k w h c : Nat} {G : Nat → ZD} (hw : w ≤ 6) (hh : h ≤ 6) (hc : 36 ≤ c) (g : zgsb f k w h c G) : zgs f k w h G := fun x y hx hy => g x y hx hy (by omega)
theorem zgsb_n {f : Nat → UInt64} {k w h c c' : Nat} {G : Nat → ZD} (g : zgsb f k w h c G) (e : c = c') : zgsb f k w h c' G := e ▸ g
