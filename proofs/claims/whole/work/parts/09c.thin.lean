/-! 09c: thinning over data -/
theorem zu_back {α : Type} (f : Nat → α) (k : Nat) (v : α) : zu (zu f k v) k (f k) = f := by
  funext j
  unfold zu
  split
  · next h => rw [h]
  · rfl
def zCN (w h : Nat) (A B de : ZD) (bx0 by0 bx1 by1 : Nat → Nat) (bg : Nat → ZD) (ib need : Nat) (T : Nat → ZD) : Nat := zcnt w h T (zRB w T A bx0 by0 bx1 bg ib) (zNB w h T B bx0 by0 by1 bg ib) de need
def zTO (w h : Nat) (A B de : ZD) (bx0 by0 bx1 by1 : Nat → Nat) (bg : Nat → ZD) (ib : Nat) (wn : Nat → Nat) (ws : Nat → ZD) (iq : Nat) (T : Nat → ZD) : ZD := ztot (fun i => zSQ w h T (zRB w T A bx0 by0 bx1 bg ib) (zNB w h T B bx0 by0 by1 bg ib) de (wn i)) ws iq
def zthF (CN : (Nat → ZD) → Nat) (TO : (Nat → ZD) → ZD) (need : Nat) (st lo : ZD) : Nat → (Nat → ZD) × ZD × Nat → (Nat → ZD) × ZD × Nat := fun i q => if zgt (q.1 i) z0 = true ∧ zge (zS (q.1 i) st) lo = true then (if CN (zu q.1 i (zS (q.1 i) st)) = need ∧ zlt (TO (zu q.1 i (zS (q.1 i) st))) q.2.1 = true then (zu q.1 i (zS (q.1 i) st), TO (zu q.1 i (zS (q.1 i) st)), q.2.2 + 1) else q) else q
def zthin (CN : (Nat → ZD) → Nat) (TO : (Nat → ZD) → ZD) (need : Nat) (st lo : ZD) (T : Nat → ZD) (n : Nat) : (Nat → ZD) × ZD × Nat := zfold (zthF CN TO need st lo) n (T, TO T, 0)
theorem zth_no {CN : (Nat → ZD) → Nat} {TO : (Nat → ZD) → ZD} {need : Nat} {st lo : ZD} {T Tq : Nat → ZD} {Lq : ZD} {cn n : Nat} (e : zthin CN TO need st lo T n = (Tq, Lq, cn)) (h : ¬ (zgt (Tq n) z0 = true ∧ zge (zS (Tq n) st) lo = true)) : zthin CN TO need st lo T (n + 1) = (Tq, Lq, cn) := by
  show zthF CN TO need st lo n (zthin CN TO need st lo T n) = _
  rw [e]
  exact if_neg h
theorem zth_keep {CN : (Nat → ZD) → Nat} {TO : (Nat → ZD) → ZD} {need : Nat} {st lo : ZD} {T Tq : Nat → ZD} {Lq : ZD} {cn n : Nat} (e : zthin CN TO need st lo T n = (Tq, Lq, cn)) (h : zgt (Tq n) z0 = true ∧ zge (zS (Tq n) st) lo = true) (h2 : ¬ (CN (zu Tq n (zS (Tq n) st)) = need ∧ zlt (TO (zu Tq n (zS (Tq n) st))) Lq = true)) : zthin CN TO need st lo T (n + 1) = (Tq, Lq, cn) := by
  show zthF CN TO need st lo n (zthin CN TO need st lo T n) = _
  rw [e]
  exact (if_pos h).trans (if_neg h2)
theorem zth_yes {CN : (Nat → ZD) → Nat} {TO : (Nat → ZD) → ZD} {need : Nat} {st lo : ZD} {T Tq : Nat → ZD} {Lq : ZD} {cn n : Nat} (e : zthin CN TO need st lo T n = (Tq, Lq, cn)) (h : zgt (Tq n) z0 = true ∧ zge (zS (Tq n) st) lo = true) (h2 : CN (zu Tq n (zS (Tq n) st)) = need ∧ zlt (TO (zu Tq n (zS (Tq n) st))) Lq = true) : zthin CN TO need st lo T (n + 1) = (zu Tq n (zS (Tq n) st), TO (zu Tq n (zS (Tq n) st)), cn + 1) := by
  show zthF CN TO need st lo n (zthin CN TO need st lo T n) = _
  rw [e]
  exact (if_pos h).trans (if_pos h2)
def zcTh (st lo : ZD) (need cnt : Nat) : Nat := if zcTh1 st lo = false then 1 else if need = 0 ∨ cnt < need then 2 else 0
