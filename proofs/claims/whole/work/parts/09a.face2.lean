/-! 09a: more of the face over data -/
theorem zcnt_isSome {w h : Nat} {T R N : Nat → ZD} {de : ZD} : ∀ n, ∃ L, zshO w h T R N de (zcnt w h T R N de n) = some L
  | 0 => ⟨_, rfl⟩
  | n + 1 => by
    show ∃ L, zshO w h T R N de (if (zshO w h T R N de (n + 1)).isSome = true then n + 1 else zcnt w h T R N de n) = some L
    by_cases e : (zshO w h T R N de (n + 1)).isSome = true
    · rw [if_pos e]
      exact Option.isSome_iff_exists.mp e
    · rw [if_neg e]
      exact zcnt_isSome n
theorem zcnt_idem {w h : Nat} {T R N : Nat → ZD} {de : ZD} (n : Nat) : zcnt w h T R N de (zcnt w h T R N de n) = zcnt w h T R N de n := by
  obtain ⟨L, hL⟩ := zcnt_isSome (w := w) (h := h) (T := T) (R := R) (N := N) (de := de) n
  exact zcnt_some hL
theorem zckM_le (b : Bool) (M : Nat) (k : Int32) : zckM b M k ≤ 2 := by
  unfold zckM
  split
  · exact Nat.le_succ 1
  · split
    · exact Nat.zero_le _
    · exact Nat.le_refl _
theorem zckM_0 {b : Bool} {M : Nat} {k : Int32} (h : zckM b M k = 0) : b = true ∧ k < nI M := by
  unfold zckM at h
  cases b
  · rw [if_pos rfl] at h; exact absurd h (by decide)
  · rw [if_neg (by decide)] at h
    by_cases hk : k < nI M
    · exact ⟨rfl, hk⟩
    · rw [if_neg hk] at h; exact absurd h (by decide)
theorem zltM {mk : Bool} {im : Nat} {k : Int32} (h0 : ¬ k < 0) : k < nI (zmks mk im) ↔ mk = true ∧ k < nI im := by
  cases mk
  · constructor
    · intro h
      rw [zmks_f, nI_0] at h
      exact absurd h h0
    · intro h; exact absurd h.1 (by decide)
  · exact ⟨fun h => ⟨rfl, h⟩, fun h => h.2⟩
theorem zchk_M {b mk : Bool} {im : Nat} {k : Int32} (h : b = true → ¬ k < 0) : zchk b mk im k = nI (zckM b (zmks mk im) k) := by
  unfold zchk zckM
  cases b
  · rfl
  · rw [if_neg (show ¬ (true = false) by decide), if_neg (show ¬ (true = false) by decide)]
    by_cases hk : k < nI (zmks mk im)
    · rw [if_pos hk, if_pos ((zltM (h rfl)).mp hk)]
    · rw [if_neg hk, if_neg (fun q => hk ((zltM (h rfl)).mpr q))]
theorem zmks_le {mk : Bool} {im n : Nat} (h : im ≤ n) : zmks mk im ≤ n := by
  cases mk
  · exact Nat.zero_le _
  · exact h
theorem zkM {mk : Bool} {im kn : Nat} (hk : kn < 4) (hi : im ≤ 4) (h : nI kn < nI (zmks mk im)) : mk = true ∧ kn < im := by
  have h4 := zmks_le (mk := mk) hi
  exact zmks_lt ((nI_ltI (by omega) (by omega)).mp h)
def zmodeV (what : Int32) (sq re sm : ZD) : ZD := if what = 0 then sq else if what = nI 1 then re else sm
def zmx (a b : Int32) : Int32 := if b < a then a else b
theorem zmx_lt {a b n : Nat} (ha : a < 2 ^ 31) (hb : b < 2 ^ 31) (hn : n < 2 ^ 31) (h : zmx (nI a) (nI b) < nI n) : nI a < nI n ∧ nI b < nI n := by
  unfold zmx at h
  by_cases hc : nI b < nI a
  · rw [if_pos hc] at h
    have h1 := (nI_ltI hb ha).mp hc
    have h2 := (nI_ltI ha hn).mp h
    exact ⟨h, nI_lt (by omega) hn⟩
  · rw [if_neg hc] at h
    have h1 : ¬ b < a := fun q => hc (nI_lt q ha)
    have h2 := (nI_ltI hb hn).mp h
    exact ⟨nI_lt (by omega) hn, h⟩
def zwtF (T : Nat → ZD) (de : ZD) : Nat → ZD → ZD := fun i a => zA a (zM (T i) de)
def zwt (T : Nat → ZD) (de : ZD) (n : Nat) : ZD := zfold (zwtF T de) n z0
/-- where a mirror shows a cell -/
def zmirI (w h : Nat) (ax : Bool) (x y : Nat) : Nat := if ax = true then y * w + (w - x - 1) else (h - y - 1) * w + x
def zmirF (w h : Nat) (T : Nat → ZD) (ax : Bool) : Nat → Bool → Bool := fun i b => b && zeq (T i) (T (zmirI w h ax (i % w) (i / w)))
def zmir (w h : Nat) (T : Nat → ZD) (ax : Bool) (n : Nat) : Bool := zfold (zmirF w h T ax) n true
theorem zmir_s {w h : Nat} {T : Nat → ZD} {ax : Bool} {x y : Nat} (hx : x < w) : zmir w h T ax (y * w + x + 1) = (zmir w h T ax (y * w + x) && zeq (T (y * w + x)) (T (zmirI w h ax x y))) := by
  show zmirF w h T ax (y * w + x) (zmir w h T ax (y * w + x)) = _
  unfold zmirF
  rw [zmod_x hx, zdiv_y hx]
def zcpV (sq su q g : ZD) (gr : Bool) : ZD := if gr = true then zQ (zA (zA (zA sq (zM (zM q su) su)) g) (zroot (zS (zM (zA (zA sq (zM (zM q su) su)) g) (zA (zA sq (zM (zM q su) su)) g)) (zM (zM (zv 4616189618054758400) sq) g)))) z2
  else zQ (zS (zA (zA sq (zM (zM q su) su)) g) (zroot (zS (zM (zA (zA sq (zM (zM q su) su)) g) (zA (zA sq (zM (zM q su) su)) g)) (zM (zM (zv 4616189618054758400) sq) g)))) z2
def ztapV (sh v sq : ZD) : ZD := zQ (zM sh sh) (zA z1 (zM (zS v sq) (zS v sq)))
theorem zneed_pos {f : Nat → Nat} {n : Nat} (h : 0 < n) : 0 < zneed f n := by
  cases n with
  | zero => exact absurd h (Nat.lt_irrefl _)
  | succ n =>
    show 0 < (if f n + 1 > zneed f n then f n + 1 else zneed f n)
    split
    · exact Nat.succ_pos _
    · next q => exact Nat.lt_of_lt_of_le (Nat.succ_pos _) (Nat.le_of_not_lt q)
theorem zneed_gt {f : Nat → Nat} : ∀ {n i : Nat}, i < n → f i < zneed f n
  | 0, i, h => absurd h (Nat.not_lt_zero i)
  | n + 1, i, h => by
    show f i < (if f n + 1 > zneed f n then f n + 1 else zneed f n)
    by_cases e : i = n
    · subst e
      split
      · exact Nat.lt_succ_self _
      · next q => exact Nat.lt_of_lt_of_le (Nat.lt_succ_self _) (Nat.le_of_not_lt q)
    · have h1 := zneed_gt (f := f) (show i < n by omega)
      split
      · next q => exact Nat.lt_trans h1 q
      · exact h1
