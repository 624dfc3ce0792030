/-! 08: the face over data: which exception a call ends with (0: none), what it answers -/
abbrev c18 : ZD := zv 4593671619917905920
abbrev c8 : ZD := zv 4620693217682128896
abbrev c64 : ZD := zv 4634204016564240384
/-- there is no such cell; no such mode -/
abbrev zncl (iw ih : Nat) (x y : Int32) : Prop := x < 0 ∨ nI iw ≤ x ∨ y < 0 ∨ nI ih ≤ y
abbrev znmd (k : Int32) : Prop := k < 0 ∨ nI 4 ≤ k
def zbt (v a b : ZD) : Bool := zge v a && zle v b
def zn (x : Int32) : Nat := x.toNatClampNeg
theorem zn_nI {n : Nat} (h : n < 2 ^ 31) : zn (nI n) = n := nI_clamp h
def zmin (a b : Nat) : Nat := if a < b then a else b
def zmax (a b : Nat) : Nat := if a < b then b else a
theorem zcl_of {iw ih : Nat} (hw : iw ≤ 6) (hh : ih ≤ 6) {x y : Int32} (h : ¬ zncl iw ih x y) : ∃ xn yn : Nat, xn < iw ∧ yn < ih ∧ x = nI xn ∧ y = nI yn := by
  have h1 : ¬ x < 0 := fun q => h (Or.inl q)
  have h2 : ¬ nI iw ≤ x := fun q => h (Or.inr (Or.inl q))
  have h3 : ¬ y < 0 := fun q => h (Or.inr (Or.inr (Or.inl q)))
  have h4 : ¬ nI ih ≤ y := fun q => h (Or.inr (Or.inr (Or.inr q)))
  obtain ⟨xn, hx, rfl⟩ := nI_of h1
  obtain ⟨yn, hy, rfl⟩ := nI_of h3
  exact ⟨xn, yn, Nat.lt_of_not_le (fun q => h2 (nI_le q hx)), Nat.lt_of_not_le (fun q => h4 (nI_le q hy)), rfl, rfl⟩
theorem zmd_of {k : Int32} (h : ¬ znmd k) : ∃ kn : Nat, kn < 4 ∧ k = nI kn := by
  have h1 : ¬ k < 0 := fun q => h (Or.inl q)
  have h2 : ¬ nI 4 ≤ k := fun q => h (Or.inr q)
  obtain ⟨kn, hk, rfl⟩ := nI_of h1
  exact ⟨kn, Nat.lt_of_not_le (fun q => h2 (nI_le q hk)), rfl⟩
def zcW (iw ih : Nat) (x y : Int32) (v : ZD) : Nat := if zncl iw ih x y then 1 else if (zeq v z0 || zbt v c18 c8) = true then 0 else 2
def zcR (a b d : ZD) : Nat := if (zbt a c18 c8 && zbt b c18 c8 && zbt d c18 c8) = true then 0 else 1
abbrev zline2 (x0 y0 x1 y1 : Int32) : Prop := (x0 = x1 ∧ ¬ y0 = y1) ∨ (¬ x0 = x1 ∧ y0 = y1)
def zcB (iw ih nb : Nat) (x0 y0 x1 y1 : Int32) (g : ZD) : Nat := if zncl iw ih x0 y0 ∨ zncl iw ih x1 y1 then 1 else if ¬ zline2 x0 y0 x1 y1 ∨ zbt g c18 c8 = false then 2 else if nb = 12 then 3 else 0
def zcMs (n : Int32) : Nat := if n < nI 1 ∨ nI 4 < n then 1 else 0
/-- a mode among M: 1 if what else is asked isn't there, 2 (or 3) if she isn't -/
def zckM (there : Bool) (M : Nat) (k : Int32) : Nat := if there = false then 1 else if k < nI M then 0 else 2
def zcC (M : Nat) (k : Int32) (q g : ZD) : Nat := if znmd k then 1 else if (zbt q z0 c8 && zbt g z0 c8) = false then 2 else if k < nI M then 0 else 3
def zcT (iw ih M : Nat) (k x y : Int32) (v : ZD) : Nat := if znmd k ∨ zncl iw ih x y then 1 else if zbt v z0 c64 = false then 2 else if k < nI M then 0 else 3
def zcWt (nq : Nat) (k : Int32) (v : ZD) : Nat := if znmd k then 1 else if zbt v z0 c64 = false then 2 else if nq = 4 then 3 else 0
def zcTh1 (st lo : ZD) : Bool := zbt st c18 z1 && zbt lo c18 c8
def zcS (nq M need : Nat) : Nat := if 0 < nq ∧ need ≤ M then 0 else 1
/-- how many modes stand -/
def zmks (mk : Bool) (im : Nat) : Nat := if mk = true then im else 0
theorem zmks_t {im : Nat} : zmks true im = im := rfl
theorem zmks_f {im : Nat} : zmks false im = 0 := rfl
theorem zmks_lt {mk : Bool} {im k : Nat} (h : k < zmks mk im) : mk = true ∧ k < im := by
  cases mk
  · exact absurd h (Nat.not_lt_zero _)
  · exact ⟨rfl, h⟩
theorem zcp (c : Prop) [Decidable c] : (zp c = 0 → ¬ c) ∧ (¬ zp c = 0 → c) := by
  unfold zp
  by_cases h : c
  · rw [if_pos h]; exact ⟨fun q => absurd q (by decide), fun _ => h⟩
  · rw [if_neg h]; exact ⟨fun _ => h, fun q => absurd rfl q⟩
section ZP
variable {p : Program} {l : Launch} {e : Env} {R : Room} {s : State} {m : MethodId} {args : Array Value} {below : List Frame} {meth : Method} {c : Code} {H : Heap} {locs : List Loc} {cells slots : Nat} {Q : State → Prop}
variable {cc : ByteArray} {pc : Nat} {ls : Array Slot} {rest : List Value}
theorem z_if_eq_p (hx : p.tables.exec = Jvm.exec) (hb : c.code = cc) (v : Prop) [Decidable v] {off : Int} {tgt : Nat} (hdg : decode cc pc = .ok (.ifCond .eq off, 3)) (ht : (pc : Int) + off = (tgt : Int))
    (kt : ¬ v → W p l e R s m args below meth c H locs cells slots Q (F0 m tgt ls rest)) (kf : v → W p l e R s m args below meth c H locs cells slots Q (F0 m (pc + 3) ls rest)) : W p l e R s m args below meth c H locs cells slots Q (F0 m pc ls (.int (zp v) :: rest)) :=
  lv_if_eq hx hb hdg ht (fun h => kt ((zcp v).1 h)) (fun h => kf ((zcp v).2 h))
theorem z_if_ne_p (hx : p.tables.exec = Jvm.exec) (hb : c.code = cc) (v : Prop) [Decidable v] {off : Int} {tgt : Nat} (hdg : decode cc pc = .ok (.ifCond .ne off, 3)) (ht : (pc : Int) + off = (tgt : Int))
    (kt : v → W p l e R s m args below meth c H locs cells slots Q (F0 m tgt ls rest)) (kf : ¬ v → W p l e R s m args below meth c H locs cells slots Q (F0 m (pc + 3) ls rest)) : W p l e R s m args below meth c H locs cells slots Q (F0 m pc ls (.int (zp v) :: rest)) :=
  lv_if_ne hx hb hdg ht (fun h => kt ((zcp v).2 h)) (fun h => kf ((zcp v).1 h))
end ZP
/-- a square, as the reference reckons it -/
def zSQ (w h : Nat) (T R N : Nat → ZD) (de : ZD) (j : Nat) : ZD := zS z0 (zsq w h T R N (zshp w h T R N de j) (w * h))
/-- the reference's modes stand, where they are made -/
def q5m (iw ih : Nat) (mk : Bool) (im : Nat) (tR tN tS tQ : Nat → UInt64) (T R N : Nat → ZD) (de : ZD) : Prop := im ≤ 4 ∧ (mk = true → zgr tR iw ih R ∧ zgr tN iw ih N ∧ zcnt iw ih T R N de im = im ∧ ∀ j, j < im → zgs tS j iw ih (zshp iw ih T R N de j) ∧ zv (tQ j) = zSQ iw ih T R N de j)
theorem q5m_f {iw ih im : Nat} {tR tN tS tQ : Nat → UInt64} {T R N : Nat → ZD} {de : ZD} (h : im ≤ 4) : q5m iw ih false im tR tN tS tQ T R N de := ⟨h, fun q => absurd q (by decide)⟩
