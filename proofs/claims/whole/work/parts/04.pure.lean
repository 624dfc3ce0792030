/-! 04: what the plate answers, over data: one text for the class and for the reference. Cells by their number y * w + x. -/
abbrev zgc : ZD := zv 4589168020290535424
abbrev zhalf : ZD := zv 4602678819172646912
def zrootF (v : ZD) : Nat → ZD → ZD := fun _ r => zQ (zA r (zQ v r)) z2
def zroot (v : ZD) : ZD := if zgt v z0 = true then zfold (zrootF v) 30 (zA z1 v) else z0
theorem zroot_f {v : ZD} (h : zgt v z0 = false) : zroot v = z0 := if_neg (by rw [h]; decide)
theorem zroot_t {v : ZD} (h : zgt v z0 = true) : zroot v = zfold (zrootF v) 30 (zA z1 v) := if_pos h
def zspring (rate one other : ZD) : ZD := zM (zM (zM rate (zQ (zA one other) z2)) (zQ (zA one other) z2)) (zQ (zA one other) z2)
/-- FORCE, neighbour by neighbour -/
def zf1 (w : Nat) (R S : Nat → ZD) (x y : Nat) : ZD := if x + 1 < w then zA z0 (zM (R (y * w + x)) (zS (S (y * w + (x + 1))) (S (y * w + x)))) else z0
def zf2 (w : Nat) (R S : Nat → ZD) (x y : Nat) : ZD := if 0 < x then zA (zf1 w R S x y) (zM (R (y * w + (x - 1))) (zS (S (y * w + (x - 1))) (S (y * w + x)))) else zf1 w R S x y
def zf3 (w h : Nat) (R N S : Nat → ZD) (x y : Nat) : ZD := if y + 1 < h then zA (zf2 w R S x y) (zM (N (y * w + x)) (zS (S ((y + 1) * w + x)) (S (y * w + x)))) else zf2 w R S x y
def zf4 (w h : Nat) (R N S : Nat → ZD) (x y : Nat) : ZD := if 0 < y then zA (zf3 w h R N S x y) (zM (N ((y - 1) * w + x)) (zS (S ((y - 1) * w + x)) (S (y * w + x)))) else zf3 w h R N S x y
def zforce (w h : Nat) (R N S : Nat → ZD) (x y : Nat) : ZD := zS (zf4 w h R N S x y) (zM zgc (S (y * w + x)))
/-- GROUND + its springs -/
def zh1 (w : Nat) (R : Nat → ZD) (x y : Nat) : ZD := if x + 1 < w then zA zgc (R (y * w + x)) else zgc
def zh2 (w : Nat) (R : Nat → ZD) (x y : Nat) : ZD := if 0 < x then zA (zh1 w R x y) (R (y * w + (x - 1))) else zh1 w R x y
def zh3 (w h : Nat) (R N : Nat → ZD) (x y : Nat) : ZD := if y + 1 < h then zA (zh2 w R x y) (N (y * w + x)) else zh2 w R x y
def zhold (w h : Nat) (R N : Nat → ZD) (x y : Nat) : ZD := if 0 < y then zA (zh3 w h R N x y) (N ((y - 1) * w + x)) else zh3 w h R N x y
/-- PRODUCT over the first n cells -/
def zprodF (T S1 S2 : Nat → ZD) (de : ZD) : Nat → ZD → ZD := fun i a => if zgt (T i) z0 = true then zA a (zM (zM (zM (T i) de) (S1 i)) (S2 i)) else a
def zprod (T S1 S2 : Nat → ZD) (de : ZD) (n : Nat) : ZD := zfold (zprodF T S1 S2 de) n z0
theorem zprod_t {T S1 S2 : Nat → ZD} {de : ZD} {n : Nat} (h : zgt (T n) z0 = true) : zprod T S1 S2 de (n + 1) = zA (zprod T S1 S2 de n) (zM (zM (zM (T n) de) (S1 n)) (S2 n)) := if_pos h
theorem zprod_f {T S1 S2 : Nat → ZD} {de : ZD} {n : Nat} (h : zgt (T n) z0 = false) : zprod T S1 S2 de (n + 1) = zprod T S1 S2 de n := if_neg (by rw [h]; decide)
/-- the sum of the shape over the first n cells -/
def zsumF (T S : Nat → ZD) : Nat → ZD → ZD := fun i a => if zgt (T i) z0 = true then zA a (S i) else a
def zsum (T S : Nat → ZD) (n : Nat) : ZD := zfold (zsumF T S) n z0
theorem zsum_t {T S : Nat → ZD} {n : Nat} (h : zgt (T n) z0 = true) : zsum T S (n + 1) = zA (zsum T S n) (S n) := if_pos h
theorem zsum_f {T S : Nat → ZD} {n : Nat} (h : zgt (T n) z0 = false) : zsum T S (n + 1) = zsum T S n := if_neg (by rw [h]; decide)
/-- the sum of shape * FORCE over the first n cells -/
def zsqF (w h : Nat) (T R N S : Nat → ZD) : Nat → ZD → ZD := fun i a => if zgt (T i) z0 = true then zA a (zM (S i) (zforce w h R N S (i % w) (i / w))) else a
def zsq (w h : Nat) (T R N S : Nat → ZD) (n : Nat) : ZD := zfold (zsqF w h T R N S) n z0
theorem zsq_t {w h : Nat} {T R N S : Nat → ZD} {x y : Nat} (hx : x < w) (hh : zgt (T (y * w + x)) z0 = true) : zsq w h T R N S (y * w + x + 1) = zA (zsq w h T R N S (y * w + x)) (zM (S (y * w + x)) (zforce w h R N S x y)) := by
  refine Eq.trans (if_pos hh) ?_
  rw [zmod_x hx, zdiv_y hx]
  rfl
theorem zsq_f {w h : Nat} {T R N S : Nat → ZD} {n : Nat} (hh : zgt (T n) z0 = false) : zsq w h T R N S (n + 1) = zsq w h T R N S n := if_neg (by rw [hh]; decide)
/-- RESIDUE over the first n cells -/
def zabs (v : ZD) : ZD := if zlt v z0 = true then zN v else v
def zresV (w h : Nat) (T R N S : Nat → ZD) (de sq : ZD) (i x y : Nat) : ZD := zabs (zA (zforce w h R N S x y) (zM (zM sq (zM (T i) de)) (S i)))
def zresF (w h : Nat) (T R N S : Nat → ZD) (de sq : ZD) : Nat → ZD → ZD := fun i a => if zgt (T i) z0 = true then (if zgt (zresV w h T R N S de sq i (i % w) (i / w)) a = true then zresV w h T R N S de sq i (i % w) (i / w) else a) else a
def zres (w h : Nat) (T R N S : Nat → ZD) (de sq : ZD) (n : Nat) : ZD := zfold (zresF w h T R N S de sq) n z0
theorem zres_tt {w h : Nat} {T R N S : Nat → ZD} {de sq : ZD} {x y : Nat} (hx : x < w) (hh : zgt (T (y * w + x)) z0 = true) (hg : zgt (zresV w h T R N S de sq (y * w + x) x y) (zres w h T R N S de sq (y * w + x)) = true) : zres w h T R N S de sq (y * w + x + 1) = zresV w h T R N S de sq (y * w + x) x y := by
  refine Eq.trans (if_pos hh) ?_
  rw [zmod_x hx, zdiv_y hx]
  exact if_pos hg
theorem zres_tf {w h : Nat} {T R N S : Nat → ZD} {de sq : ZD} {x y : Nat} (hx : x < w) (hg : zgt (zresV w h T R N S de sq (y * w + x) x y) (zres w h T R N S de sq (y * w + x)) = false) : zres w h T R N S de sq (y * w + x + 1) = zres w h T R N S de sq (y * w + x) := by
  cases hh : zgt (T (y * w + x)) z0 with
  | false => exact if_neg (by rw [hh]; decide)
  | true =>
    refine Eq.trans (if_pos hh) ?_
    rw [zmod_x hx, zdiv_y hx]
    exact if_neg (by rw [show zgt _ (zfold (zresF w h T R N S de sq) (y * w + x) z0) = false from hg]; decide)
theorem zres_f {w h : Nat} {T R N S : Nat → ZD} {de sq : ZD} {n : Nat} (hh : zgt (T n) z0 = false) : zres w h T R N S de sq (n + 1) = zres w h T R N S de sq n := if_neg (by rw [hh]; decide)
/-- the reference's own rows: a grid of six by six, rows of shapes behind one another -/
def zgr (f : Nat → UInt64) (w h : Nat) (F : Nat → ZD) : Prop := ∀ x y, x < w → y < h → zv (f (6 * y + x)) = F (y * w + x)
def zgs (f : Nat → UInt64) (k w h : Nat) (F : Nat → ZD) : Prop := ∀ x y, x < w → y < h → zv (f (36 * k + 6 * y + x)) = F (y * w + x)
theorem zgr_at {f : Nat → UInt64} {w h : Nat} {F : Nat → ZD} (g : zgr f w h F) (x y : Nat) {i : Nat} (hx : x < w) (hy : y < h) (hi : i = 6 * y + x) : zv (f i) = F (y * w + x) := by
  subst hi
  exact g x y hx hy
theorem zgs_at {f : Nat → UInt64} {k w h : Nat} {F : Nat → ZD} (g : zgs f k w h F) (x y : Nat) {i : Nat} (hx : x < w) (hy : y < h) (hi : i = 36 * k + 6 * y + x) : zv (f i) = F (y * w + x) := by
  subst hi
  exact g x y hx hy
/-- WANTED: how many modes are needed; the SUM -/
def zneed (f : Nat → Nat) : Nat → Nat
  | 0 => 0
  | n + 1 => if f n + 1 > zneed f n then f n + 1 else zneed f n
def ztotF (sq ws : Nat → ZD) : Nat → ZD → ZD := fun i a => zA a (zM (zS (sq i) (ws i)) (zS (sq i) (ws i)))
def ztot (sq ws : Nat → ZD) (n : Nat) : ZD := zfold (ztotF sq ws) n z0
