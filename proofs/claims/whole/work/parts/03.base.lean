/-! 03: the numbers. A double is spoken of by its datum (FP.Core.val64): a NaN by one datum, whatever its bits. -/
abbrev ZD : Type := FP.Core.Datum
abbrev zv (x : UInt64) : ZD := FP.Core.val64 x
def zA (x y : ZD) : ZD := FP.Core.round FP.Core.b64 (FP.Core.exactSum x y)
def zS (x y : ZD) : ZD := FP.Core.round FP.Core.b64 (FP.Core.exactSum x (FP.Core.negate y))
def zM (x y : ZD) : ZD := FP.Core.round FP.Core.b64 (FP.Core.exactProduct x y)
def zQ (x y : ZD) : ZD := FP.Core.quotient FP.Core.b64 x y
def zN (x : ZD) : ZD := FP.Core.negate x
def zo (x y : ZD) : Option Ordering := FP.Core.order x y
def zlt (x y : ZD) : Bool := decide (zo x y = some .lt)
def zgt (x y : ZD) : Bool := decide (zo x y = some .gt)
def zeq (x y : ZD) : Bool := decide (zo x y = some .eq)
def zle (x y : ZD) : Bool := decide (zo x y = some .lt) || decide (zo x y = some .eq)
def zge (x y : ZD) : Bool := decide (zo x y = some .gt) || decide (zo x y = some .eq)
abbrev z0 : ZD := zv 0
abbrev z1 : ZD := zv 4607182418800017408
abbrev z2 : ZD := zv 4611686018427387904
/-- an int of a truth value -/
def zb (b : Bool) : Int32 := if b then 1 else 0
theorem zb_t : zb true = 1 := rfl
theorem zb_f : zb false = 0 := rfl
theorem z_nan {b : UInt64} (h : isNaN64 b = true) : zv b = .nan := by
  rw [isNaN64_iff] at h
  apply Classical.byContradiction
  intro hn
  have h2 := (FP.Core.ne_nan b).mp hn
  rw [show (0x7fffffffffffffff : Nat) = 2 ^ 63 - 1 from rfl, Nat.and_two_pow_sub_one_eq_mod] at h
  omega
theorem z_alike {r v : UInt64} (h : alike64 r v = true) : zv r = zv v := by
  unfold alike64 at h
  rw [Bool.or_eq_true, Bool.and_eq_true] at h
  rcases h with h | ⟨h1, h2⟩
  · rw [of_decide_eq_true h]
  · rw [z_nan h1, z_nan h2]
theorem zi_add {a b c : Nat} (h : a + b = c) : nI a + nI b = nI c := by rw [nI_add, h]
theorem zi_mul {a b c : Nat} (h : a * b = c) : nI a * nI b = nI c := by rw [pk_mul, h]
theorem zi_sub {a b c : Nat} (h : b ≤ a) (h2 : a - b = c) : nI a - nI b = nI c := by rw [pk_sub h, h2]
theorem zi_inc {a c : Nat} (h : a + 1 = c) : nI c = nI a + 1 := by rw [← h]; exact nI_succ a
/-- the first n steps of f from a -/
def zfold {α : Type} (f : Nat → α → α) : Nat → α → α
  | 0, a => a
  | n + 1, a => f n (zfold f n a)
theorem zfold_0 {α : Type} (f : Nat → α → α) (a : α) : zfold f 0 a = a := rfl
theorem zfold_s {α : Type} (f : Nat → α → α) (n : Nat) (a : α) : zfold f (n + 1) a = f n (zfold f n a) := rfl
/-- f, but v at k -/
def zu {α : Type} (f : Nat → α) (k : Nat) (v : α) : Nat → α := fun j => if j = k then v else f j
theorem zu_s {α : Type} {f : Nat → α} {k : Nat} {v : α} : zu f k v k = v := if_pos rfl
theorem zu_n {α : Type} {f : Nat → α} {k j : Nat} {v : α} (h : j ≠ k) : zu f k v j = f j := if_neg h
theorem zrow {x w y h : Nat} (hx : x < w) (hy : y < h) : y * w + x < w * h := by
  have h1 : (y + 1) * w ≤ h * w := Nat.mul_le_mul_right w hy
  rw [Nat.add_mul, Nat.one_mul] at h1
  rw [Nat.mul_comm w h]
  omega
theorem zrow_end (y w : Nat) : y * w + w = (y + 1) * w := by rw [Nat.add_mul, Nat.one_mul]
/-- the same world after a callee that writes nothing -/
theorem zro {D : va_G} {cl : List vw_C} {ws : va_W} {H0 H : Heap} {locs : List Loc} (hP : va_P D cl ws H0) (hS : va_S (fun _ => False) H0 H locs) : va_P D cl ws H := hP.kept (fun k q hk => hS.2.1 q.1 (hP k q hk).lt (fun h => h))
theorem zro1 {D : va_G} {cl : List vw_C} {ws : va_W} {H H1 : Heap} (hP : va_P D cl ws H) (hk1 : ∀ q : Nat, q < H.size → ¬ (fun _ : Nat => False) q → H1[q]? = H[q]?) : va_P D cl ws H1 := hP.kept (fun k q hk => hk1 q.1 (hP k q hk).lt (fun h => h))
section ZR
variable {p : Program} {l : Launch} {e : Env} {R : Room} {s : State} {m : MethodId} {args : Array Value} {below : List Frame} {meth : Method} {c : Code} {H : Heap} {locs : List Loc} {cells slots : Nat} {Q : State → Prop}
variable {cc : ByteArray} {pc : Nat} {ls : Array Slot} {rest : List Value}
theorem zr_dadd {d0 : Drawn} (hd0 : s.drawn.sameBut d0 lw_cs) (hx : p.tables.exec = Jvm.exec) (hb : c.code = cc) {x y : UInt64} {a b : ZD} (ha : zv x = a) (hbb : zv y = b) (hdg : decode cc pc = .ok (.dadd, 1))
    (k : ∀ (r : UInt64) (d' : Drawn), zv r = zA a b → s.drawn.sameBut d' lw_cs → W p l e R (s.setDrawn d') m args below meth c H locs cells slots Q (F0 m (pc + 1) ls (.double r :: rest))) : W p l e R (s.setDrawn d0) m args below meth c H locs cells slots Q (F0 m pc ls (.double y :: .double x :: rest)) := by
  refine lv_dadd_any hd0 lw_bits hx hb hdg (fun r d1 hal hd1 => k r d1 ?_ hd1)
  rw [← ha, ← hbb]
  exact (z_alike hal).trans (FP.Core.val64_dadd x y)
theorem zr_dsub {d0 : Drawn} (hd0 : s.drawn.sameBut d0 lw_cs) (hx : p.tables.exec = Jvm.exec) (hb : c.code = cc) {x y : UInt64} {a b : ZD} (ha : zv x = a) (hbb : zv y = b) (hdg : decode cc pc = .ok (.dsub, 1))
    (k : ∀ (r : UInt64) (d' : Drawn), zv r = zS a b → s.drawn.sameBut d' lw_cs → W p l e R (s.setDrawn d') m args below meth c H locs cells slots Q (F0 m (pc + 1) ls (.double r :: rest))) : W p l e R (s.setDrawn d0) m args below meth c H locs cells slots Q (F0 m pc ls (.double y :: .double x :: rest)) := by
  refine lv_dsub_any hd0 lw_bits hx hb hdg (fun r d1 hal hd1 => k r d1 ?_ hd1)
  rw [← ha, ← hbb]
  exact (z_alike hal).trans (FP.Core.val64_dsub x y)
theorem zr_dmul {d0 : Drawn} (hd0 : s.drawn.sameBut d0 lw_cs) (hx : p.tables.exec = Jvm.exec) (hb : c.code = cc) {x y : UInt64} {a b : ZD} (ha : zv x = a) (hbb : zv y = b) (hdg : decode cc pc = .ok (.dmul, 1))
    (k : ∀ (r : UInt64) (d' : Drawn), zv r = zM a b → s.drawn.sameBut d' lw_cs → W p l e R (s.setDrawn d') m args below meth c H locs cells slots Q (F0 m (pc + 1) ls (.double r :: rest))) : W p l e R (s.setDrawn d0) m args below meth c H locs cells slots Q (F0 m pc ls (.double y :: .double x :: rest)) := by
  refine lv_dmul_any hd0 lw_bits hx hb hdg (fun r d1 hal hd1 => k r d1 ?_ hd1)
  rw [← ha, ← hbb]
  exact (z_alike hal).trans (FP.Core.val64_dmul x y)
theorem zr_ddiv {d0 : Drawn} (hd0 : s.drawn.sameBut d0 lw_cs) (hx : p.tables.exec = Jvm.exec) (hb : c.code = cc) {x y : UInt64} {a b : ZD} (ha : zv x = a) (hbb : zv y = b) (hdg : decode cc pc = .ok (.ddiv, 1))
    (k : ∀ (r : UInt64) (d' : Drawn), zv r = zQ a b → s.drawn.sameBut d' lw_cs → W p l e R (s.setDrawn d') m args below meth c H locs cells slots Q (F0 m (pc + 1) ls (.double r :: rest))) : W p l e R (s.setDrawn d0) m args below meth c H locs cells slots Q (F0 m pc ls (.double y :: .double x :: rest)) := by
  refine lv_ddiv_any hd0 lw_bits hx hb hdg (fun r d1 hal hd1 => k r d1 ?_ hd1)
  rw [← ha, ← hbb]
  exact (z_alike hal).trans (FP.Core.val64_ddiv x y)
theorem zr_dneg (hx : p.tables.exec = Jvm.exec) (hb : c.code = cc) {x : UInt64} {a : ZD} (ha : zv x = a) (hdg : decode cc pc = .ok (.dneg, 1))
    (k : ∀ r : UInt64, zv r = zN a → W p l e R s m args below meth c H locs cells slots Q (F0 m (pc + 1) ls (.double r :: rest))) : W p l e R s m args below meth c H locs cells slots Q (F0 m pc ls (.double x :: rest)) := by
  refine lv_dneg hx hb hdg (k _ ?_)
  rw [← ha]
  exact FP.val64_dneg x
theorem z_icmp_lt (hx : p.tables.exec = Jvm.exec) (hb : c.code = cc) {a b : Nat} (ha : a < 2 ^ 31) (hbd : b < 2 ^ 31) {off : Int} {tgt : Nat} (hdg : decode cc pc = .ok (.if_icmp .lt off, 3)) (ht : (pc : Int) + off = (tgt : Int))
    (kt : a < b → W p l e R s m args below meth c H locs cells slots Q (F0 m tgt ls rest)) (kf : b ≤ a → W p l e R s m args below meth c H locs cells slots Q (F0 m (pc + 3) ls rest)) : W p l e R s m args below meth c H locs cells slots Q (F0 m pc ls (.int (nI b) :: .int (nI a) :: rest)) :=
  lv_icmp_lt hx hb hdg ht (fun h => kt ((nI_ltI ha hbd).mp h)) (fun h => kf (Nat.le_of_not_lt (fun q => h ((nI_ltI ha hbd).mpr q))))
theorem z_icmp_ge (hx : p.tables.exec = Jvm.exec) (hb : c.code = cc) {a b : Nat} (ha : a < 2 ^ 31) (hbd : b < 2 ^ 31) {off : Int} {tgt : Nat} (hdg : decode cc pc = .ok (.if_icmp .ge off, 3)) (ht : (pc : Int) + off = (tgt : Int))
    (kt : b ≤ a → W p l e R s m args below meth c H locs cells slots Q (F0 m tgt ls rest)) (kf : a < b → W p l e R s m args below meth c H locs cells slots Q (F0 m (pc + 3) ls rest)) : W p l e R s m args below meth c H locs cells slots Q (F0 m pc ls (.int (nI b) :: .int (nI a) :: rest)) :=
  lv_icmp_ge hx hb hdg ht (fun h => kt ((nI_leI hbd ha).mp h)) (fun h => kf (Nat.lt_of_not_le (fun q => h ((nI_leI hbd ha).mpr q))))
theorem z_icmp_gt (hx : p.tables.exec = Jvm.exec) (hb : c.code = cc) {a b : Nat} (ha : a < 2 ^ 31) (hbd : b < 2 ^ 31) {off : Int} {tgt : Nat} (hdg : decode cc pc = .ok (.if_icmp .gt off, 3)) (ht : (pc : Int) + off = (tgt : Int))
    (kt : b < a → W p l e R s m args below meth c H locs cells slots Q (F0 m tgt ls rest)) (kf : a ≤ b → W p l e R s m args below meth c H locs cells slots Q (F0 m (pc + 3) ls rest)) : W p l e R s m args below meth c H locs cells slots Q (F0 m pc ls (.int (nI b) :: .int (nI a) :: rest)) :=
  lv_icmp_gt hx hb hdg ht (fun h => kt ((nI_ltI hbd ha).mp h)) (fun h => kf (Nat.le_of_not_lt (fun q => h ((nI_ltI hbd ha).mpr q))))
theorem z_icmp_le (hx : p.tables.exec = Jvm.exec) (hb : c.code = cc) {a b : Nat} (ha : a < 2 ^ 31) (hbd : b < 2 ^ 31) {off : Int} {tgt : Nat} (hdg : decode cc pc = .ok (.if_icmp .le off, 3)) (ht : (pc : Int) + off = (tgt : Int))
    (kt : a ≤ b → W p l e R s m args below meth c H locs cells slots Q (F0 m tgt ls rest)) (kf : b < a → W p l e R s m args below meth c H locs cells slots Q (F0 m (pc + 3) ls rest)) : W p l e R s m args below meth c H locs cells slots Q (F0 m pc ls (.int (nI b) :: .int (nI a) :: rest)) :=
  lv_icmp_le hx hb hdg ht (fun h => kt ((nI_leI ha hbd).mp h)) (fun h => kf (Nat.lt_of_not_le (fun q => h ((nI_leI ha hbd).mpr q))))
theorem z_icmp_eq (hx : p.tables.exec = Jvm.exec) (hb : c.code = cc) {a b : Nat} (ha : a < 2 ^ 31) (hbd : b < 2 ^ 31) {off : Int} {tgt : Nat} (hdg : decode cc pc = .ok (.if_icmp .eq off, 3)) (ht : (pc : Int) + off = (tgt : Int))
    (kt : a = b → W p l e R s m args below meth c H locs cells slots Q (F0 m tgt ls rest)) (kf : a ≠ b → W p l e R s m args below meth c H locs cells slots Q (F0 m (pc + 3) ls rest)) : W p l e R s m args below meth c H locs cells slots Q (F0 m pc ls (.int (nI b) :: .int (nI a) :: rest)) :=
  lv_icmp_eq hx hb hdg ht (fun h => kt ((nI_eq ha hbd).mp h)) (fun h => kf (fun q => h ((nI_eq ha hbd).mpr q)))
theorem z_icmp_ne (hx : p.tables.exec = Jvm.exec) (hb : c.code = cc) {a b : Nat} (ha : a < 2 ^ 31) (hbd : b < 2 ^ 31) {off : Int} {tgt : Nat} (hdg : decode cc pc = .ok (.if_icmp .ne off, 3)) (ht : (pc : Int) + off = (tgt : Int))
    (kt : a ≠ b → W p l e R s m args below meth c H locs cells slots Q (F0 m tgt ls rest)) (kf : a = b → W p l e R s m args below meth c H locs cells slots Q (F0 m (pc + 3) ls rest)) : W p l e R s m args below meth c H locs cells slots Q (F0 m pc ls (.int (nI b) :: .int (nI a) :: rest)) :=
  lv_icmp_ne hx hb hdg ht (fun h => kt (fun q => h ((nI_eq ha hbd).mpr q))) (fun h => kf ((nI_eq ha hbd).mp h))
theorem z_if_eq_b (hx : p.tables.exec = Jvm.exec) (hb : c.code = cc) {v : Bool} {off : Int} {tgt : Nat} (hdg : decode cc pc = .ok (.ifCond .eq off, 3)) (ht : (pc : Int) + off = (tgt : Int))
    (kt : v = false → W p l e R s m args below meth c H locs cells slots Q (F0 m tgt ls rest)) (kf : v = true → W p l e R s m args below meth c H locs cells slots Q (F0 m (pc + 3) ls rest)) : W p l e R s m args below meth c H locs cells slots Q (F0 m pc ls (.int (zb v) :: rest)) :=
  lv_if_eq hx hb hdg ht (fun h => kt (by cases v; rfl; exact absurd h (by decide))) (fun h => kf (by cases v; exact absurd rfl h; rfl))
theorem z_if_ne_b (hx : p.tables.exec = Jvm.exec) (hb : c.code = cc) {v : Bool} {off : Int} {tgt : Nat} (hdg : decode cc pc = .ok (.ifCond .ne off, 3)) (ht : (pc : Int) + off = (tgt : Int))
    (kt : v = true → W p l e R s m args below meth c H locs cells slots Q (F0 m tgt ls rest)) (kf : v = false → W p l e R s m args below meth c H locs cells slots Q (F0 m (pc + 3) ls rest)) : W p l e R s m args below meth c H locs cells slots Q (F0 m pc ls (.int (zb v) :: rest)) :=
  lv_if_ne hx hb hdg ht (fun h => kt (by cases v; exact absurd rfl h; rfl)) (fun h => kf (by cases v; rfl; exact absurd h (by decide)))
theorem z_if_eq (hx : p.tables.exec = Jvm.exec) (hb : c.code = cc) {a : Nat} (ha : a < 2 ^ 31) {off : Int} {tgt : Nat} (hdg : decode cc pc = .ok (.ifCond .eq off, 3)) (ht : (pc : Int) + off = (tgt : Int))
    (kt : a = 0 → W p l e R s m args below meth c H locs cells slots Q (F0 m tgt ls rest)) (kf : a ≠ 0 → W p l e R s m args below meth c H locs cells slots Q (F0 m (pc + 3) ls rest)) : W p l e R s m args below meth c H locs cells slots Q (F0 m pc ls (.int (nI a) :: rest)) :=
  lv_if_eq hx hb hdg ht (fun h => kt ((nI_eq ha (by decide)).mp (h.trans nI_0.symm))) (fun h => kf (fun q => h (by rw [q]; exact nI_0)))
theorem z_if_ne (hx : p.tables.exec = Jvm.exec) (hb : c.code = cc) {a : Nat} (ha : a < 2 ^ 31) {off : Int} {tgt : Nat} (hdg : decode cc pc = .ok (.ifCond .ne off, 3)) (ht : (pc : Int) + off = (tgt : Int))
    (kt : a ≠ 0 → W p l e R s m args below meth c H locs cells slots Q (F0 m tgt ls rest)) (kf : a = 0 → W p l e R s m args below meth c H locs cells slots Q (F0 m (pc + 3) ls rest)) : W p l e R s m args below meth c H locs cells slots Q (F0 m pc ls (.int (nI a) :: rest)) :=
  lv_if_ne hx hb hdg ht (fun h => kt (fun q => h (by rw [q]; exact nI_0))) (fun h => kf ((nI_eq ha (by decide)).mp (h.trans nI_0.symm)))
theorem z_if_lt (hx : p.tables.exec = Jvm.exec) (hb : c.code = cc) {a : Nat} (ha : a < 2 ^ 31) {off : Int} {tgt : Nat} (hdg : decode cc pc = .ok (.ifCond .lt off, 3)) (ht : (pc : Int) + off = (tgt : Int))
    (kt : False → W p l e R s m args below meth c H locs cells slots Q (F0 m tgt ls rest)) (kf : 0 ≤ a → W p l e R s m args below meth c H locs cells slots Q (F0 m (pc + 3) ls rest)) : W p l e R s m args below meth c H locs cells slots Q (F0 m pc ls (.int (nI a) :: rest)) :=
  lv_if_lt hx hb hdg ht (fun h => kt (nI_pos ha h)) (fun h => kf (Nat.zero_le a))
theorem z_if_ge (hx : p.tables.exec = Jvm.exec) (hb : c.code = cc) {a : Nat} (ha : a < 2 ^ 31) {off : Int} {tgt : Nat} (hdg : decode cc pc = .ok (.ifCond .ge off, 3)) (ht : (pc : Int) + off = (tgt : Int))
    (kt : 0 ≤ a → W p l e R s m args below meth c H locs cells slots Q (F0 m tgt ls rest)) (kf : False → W p l e R s m args below meth c H locs cells slots Q (F0 m (pc + 3) ls rest)) : W p l e R s m args below meth c H locs cells slots Q (F0 m pc ls (.int (nI a) :: rest)) :=
  lv_if_ge hx hb hdg ht (fun h => kt (Nat.zero_le a)) (fun h => kf (h (nI_pos' ha)))
theorem z_if_gt (hx : p.tables.exec = Jvm.exec) (hb : c.code = cc) {a : Nat} (ha : a < 2 ^ 31) {off : Int} {tgt : Nat} (hdg : decode cc pc = .ok (.ifCond .gt off, 3)) (ht : (pc : Int) + off = (tgt : Int))
    (kt : 0 < a → W p l e R s m args below meth c H locs cells slots Q (F0 m tgt ls rest)) (kf : a = 0 → W p l e R s m args below meth c H locs cells slots Q (F0 m (pc + 3) ls rest)) : W p l e R s m args below meth c H locs cells slots Q (F0 m pc ls (.int (nI a) :: rest)) :=
  lv_if_gt hx hb hdg ht (fun h => kt (Nat.pos_of_ne_zero (fun q => by rw [q, nI_0] at h; exact absurd h (by decide)))) (fun h => kf (Classical.byContradiction (fun q => h (by rw [← nI_0]; exact nI_lt (Nat.pos_of_ne_zero q) ha))))
theorem z_if_le (hx : p.tables.exec = Jvm.exec) (hb : c.code = cc) {a : Nat} (ha : a < 2 ^ 31) {off : Int} {tgt : Nat} (hdg : decode cc pc = .ok (.ifCond .le off, 3)) (ht : (pc : Int) + off = (tgt : Int))
    (kt : a = 0 → W p l e R s m args below meth c H locs cells slots Q (F0 m tgt ls rest)) (kf : 0 < a → W p l e R s m args below meth c H locs cells slots Q (F0 m (pc + 3) ls rest)) : W p l e R s m args below meth c H locs cells slots Q (F0 m pc ls (.int (nI a) :: rest)) :=
  lv_if_le hx hb hdg ht (fun h => kt (Classical.byContradiction (fun q => nI_nle (Nat.pos_of_ne_zero q) ha h))) (fun h => kf (Nat.pos_of_ne_zero (fun q => h (by rw [q, nI_0]; decide))))
theorem z_cmp_g_ge (hx : p.tables.exec = Jvm.exec) (hb : c.code = cc) {x y : UInt64} {a b : ZD} (ha : zv x = a) (hbb : zv y = b) {off : Int} {tgt : Nat} (hdg : decode cc pc = .ok (.dcmp .g, 1)) (hdg2 : decode cc (pc + 1) = .ok (.ifCond .ge off, 3)) (ht : ((pc + 1 : Nat) : Int) + off = (tgt : Int))
    (kt : zlt a b = false → W p l e R s m args below meth c H locs cells slots Q (F0 m tgt ls rest)) (kf : zlt a b = true → W p l e R s m args below meth c H locs cells slots Q (F0 m (pc + 1 + 3) ls rest)) : W p l e R s m args below meth c H locs cells slots Q (F0 m pc ls (.double y :: .double x :: rest)) := by
  refine lv_dcmp hx hb hdg ?_
  have e : FP.dcmp x y = zo a b := by rw [← ha, ← hbb]; rfl
  rw [e]
  refine lv_if_ge hx hb hdg2 ht (fun h => kt ?_) (fun h => kf ?_)
  · unfold zlt
    revert h
    rcases zo a b with _ | (_ | _ | _) <;> intro h <;> first | rfl | exact absurd h (by decide) | exact absurd (by decide) h
  · unfold zlt
    revert h
    rcases zo a b with _ | (_ | _ | _) <;> intro h <;> first | rfl | exact absurd h (by decide) | exact absurd (by decide) h
theorem z_cmp_g_gt (hx : p.tables.exec = Jvm.exec) (hb : c.code = cc) {x y : UInt64} {a b : ZD} (ha : zv x = a) (hbb : zv y = b) {off : Int} {tgt : Nat} (hdg : decode cc pc = .ok (.dcmp .g, 1)) (hdg2 : decode cc (pc + 1) = .ok (.ifCond .gt off, 3)) (ht : ((pc + 1 : Nat) : Int) + off = (tgt : Int))
    (kt : zle a b = false → W p l e R s m args below meth c H locs cells slots Q (F0 m tgt ls rest)) (kf : zle a b = true → W p l e R s m args below meth c H locs cells slots Q (F0 m (pc + 1 + 3) ls rest)) : W p l e R s m args below meth c H locs cells slots Q (F0 m pc ls (.double y :: .double x :: rest)) := by
  refine lv_dcmp hx hb hdg ?_
  have e : FP.dcmp x y = zo a b := by rw [← ha, ← hbb]; rfl
  rw [e]
  refine lv_if_gt hx hb hdg2 ht (fun h => kt ?_) (fun h => kf ?_)
  · unfold zle
    revert h
    rcases zo a b with _ | (_ | _ | _) <;> intro h <;> first | rfl | exact absurd h (by decide) | exact absurd (by decide) h
  · unfold zle
    revert h
    rcases zo a b with _ | (_ | _ | _) <;> intro h <;> first | rfl | exact absurd h (by decide) | exact absurd (by decide) h
theorem z_cmp_g_le (hx : p.tables.exec = Jvm.exec) (hb : c.code = cc) {x y : UInt64} {a b : ZD} (ha : zv x = a) (hbb : zv y = b) {off : Int} {tgt : Nat} (hdg : decode cc pc = .ok (.dcmp .g, 1)) (hdg2 : decode cc (pc + 1) = .ok (.ifCond .le off, 3)) (ht : ((pc + 1 : Nat) : Int) + off = (tgt : Int))
    (kt : zle a b = true → W p l e R s m args below meth c H locs cells slots Q (F0 m tgt ls rest)) (kf : zle a b = false → W p l e R s m args below meth c H locs cells slots Q (F0 m (pc + 1 + 3) ls rest)) : W p l e R s m args below meth c H locs cells slots Q (F0 m pc ls (.double y :: .double x :: rest)) := by
  refine lv_dcmp hx hb hdg ?_
  have e : FP.dcmp x y = zo a b := by rw [← ha, ← hbb]; rfl
  rw [e]
  refine lv_if_le hx hb hdg2 ht (fun h => kt ?_) (fun h => kf ?_)
  · unfold zle
    revert h
    rcases zo a b with _ | (_ | _ | _) <;> intro h <;> first | rfl | exact absurd h (by decide) | exact absurd (by decide) h
  · unfold zle
    revert h
    rcases zo a b with _ | (_ | _ | _) <;> intro h <;> first | rfl | exact absurd h (by decide) | exact absurd (by decide) h
theorem z_cmp_l_eq (hx : p.tables.exec = Jvm.exec) (hb : c.code = cc) {x y : UInt64} {a b : ZD} (ha : zv x = a) (hbb : zv y = b) {off : Int} {tgt : Nat} (hdg : decode cc pc = .ok (.dcmp .l, 1)) (hdg2 : decode cc (pc + 1) = .ok (.ifCond .eq off, 3)) (ht : ((pc + 1 : Nat) : Int) + off = (tgt : Int))
    (kt : zeq a b = true → W p l e R s m args below meth c H locs cells slots Q (F0 m tgt ls rest)) (kf : zeq a b = false → W p l e R s m args below meth c H locs cells slots Q (F0 m (pc + 1 + 3) ls rest)) : W p l e R s m args below meth c H locs cells slots Q (F0 m pc ls (.double y :: .double x :: rest)) := by
  refine lv_dcmp hx hb hdg ?_
  have e : FP.dcmp x y = zo a b := by rw [← ha, ← hbb]; rfl
  rw [e]
  refine lv_if_eq hx hb hdg2 ht (fun h => kt ?_) (fun h => kf ?_)
  · unfold zeq
    revert h
    rcases zo a b with _ | (_ | _ | _) <;> intro h <;> first | rfl | exact absurd h (by decide) | exact absurd (by decide) h
  · unfold zeq
    revert h
    rcases zo a b with _ | (_ | _ | _) <;> intro h <;> first | rfl | exact absurd h (by decide) | exact absurd (by decide) h
theorem z_cmp_l_gt (hx : p.tables.exec = Jvm.exec) (hb : c.code = cc) {x y : UInt64} {a b : ZD} (ha : zv x = a) (hbb : zv y = b) {off : Int} {tgt : Nat} (hdg : decode cc pc = .ok (.dcmp .l, 1)) (hdg2 : decode cc (pc + 1) = .ok (.ifCond .gt off, 3)) (ht : ((pc + 1 : Nat) : Int) + off = (tgt : Int))
    (kt : zgt a b = true → W p l e R s m args below meth c H locs cells slots Q (F0 m tgt ls rest)) (kf : zgt a b = false → W p l e R s m args below meth c H locs cells slots Q (F0 m (pc + 1 + 3) ls rest)) : W p l e R s m args below meth c H locs cells slots Q (F0 m pc ls (.double y :: .double x :: rest)) := by
  refine lv_dcmp hx hb hdg ?_
  have e : FP.dcmp x y = zo a b := by rw [← ha, ← hbb]; rfl
  rw [e]
  refine lv_if_gt hx hb hdg2 ht (fun h => kt ?_) (fun h => kf ?_)
  · unfold zgt
    revert h
    rcases zo a b with _ | (_ | _ | _) <;> intro h <;> first | rfl | exact absurd h (by decide) | exact absurd (by decide) h
  · unfold zgt
    revert h
    rcases zo a b with _ | (_ | _ | _) <;> intro h <;> first | rfl | exact absurd h (by decide) | exact absurd (by decide) h
theorem z_cmp_l_le (hx : p.tables.exec = Jvm.exec) (hb : c.code = cc) {x y : UInt64} {a b : ZD} (ha : zv x = a) (hbb : zv y = b) {off : Int} {tgt : Nat} (hdg : decode cc pc = .ok (.dcmp .l, 1)) (hdg2 : decode cc (pc + 1) = .ok (.ifCond .le off, 3)) (ht : ((pc + 1 : Nat) : Int) + off = (tgt : Int))
    (kt : zgt a b = false → W p l e R s m args below meth c H locs cells slots Q (F0 m tgt ls rest)) (kf : zgt a b = true → W p l e R s m args below meth c H locs cells slots Q (F0 m (pc + 1 + 3) ls rest)) : W p l e R s m args below meth c H locs cells slots Q (F0 m pc ls (.double y :: .double x :: rest)) := by
  refine lv_dcmp hx hb hdg ?_
  have e : FP.dcmp x y = zo a b := by rw [← ha, ← hbb]; rfl
  rw [e]
  refine lv_if_le hx hb hdg2 ht (fun h => kt ?_) (fun h => kf ?_)
  · unfold zgt
    revert h
    rcases zo a b with _ | (_ | _ | _) <;> intro h <;> first | rfl | exact absurd h (by decide) | exact absurd (by decide) h
  · unfold zgt
    revert h
    rcases zo a b with _ | (_ | _ | _) <;> intro h <;> first | rfl | exact absurd h (by decide) | exact absurd (by decide) h
theorem z_cmp_l_lt (hx : p.tables.exec = Jvm.exec) (hb : c.code = cc) {x y : UInt64} {a b : ZD} (ha : zv x = a) (hbb : zv y = b) {off : Int} {tgt : Nat} (hdg : decode cc pc = .ok (.dcmp .l, 1)) (hdg2 : decode cc (pc + 1) = .ok (.ifCond .lt off, 3)) (ht : ((pc + 1 : Nat) : Int) + off = (tgt : Int))
    (kt : zge a b = false → W p l e R s m args below meth c H locs cells slots Q (F0 m tgt ls rest)) (kf : zge a b = true → W p l e R s m args below meth c H locs cells slots Q (F0 m (pc + 1 + 3) ls rest)) : W p l e R s m args below meth c H locs cells slots Q (F0 m pc ls (.double y :: .double x :: rest)) := by
  refine lv_dcmp hx hb hdg ?_
  have e : FP.dcmp x y = zo a b := by rw [← ha, ← hbb]; rfl
  rw [e]
  refine lv_if_lt hx hb hdg2 ht (fun h => kt ?_) (fun h => kf ?_)
  · unfold zge
    revert h
    rcases zo a b with _ | (_ | _ | _) <;> intro h <;> first | rfl | exact absurd h (by decide) | exact absurd (by decide) h
  · unfold zge
    revert h
    rcases zo a b with _ | (_ | _ | _) <;> intro h <;> first | rfl | exact absurd h (by decide) | exact absurd (by decide) h
theorem z_cmp_l_ne (hx : p.tables.exec = Jvm.exec) (hb : c.code = cc) {x y : UInt64} {a b : ZD} (ha : zv x = a) (hbb : zv y = b) {off : Int} {tgt : Nat} (hdg : decode cc pc = .ok (.dcmp .l, 1)) (hdg2 : decode cc (pc + 1) = .ok (.ifCond .ne off, 3)) (ht : ((pc + 1 : Nat) : Int) + off = (tgt : Int))
    (kt : zeq a b = false → W p l e R s m args below meth c H locs cells slots Q (F0 m tgt ls rest)) (kf : zeq a b = true → W p l e R s m args below meth c H locs cells slots Q (F0 m (pc + 1 + 3) ls rest)) : W p l e R s m args below meth c H locs cells slots Q (F0 m pc ls (.double y :: .double x :: rest)) := by
  refine lv_dcmp hx hb hdg ?_
  have e : FP.dcmp x y = zo a b := by rw [← ha, ← hbb]; rfl
  rw [e]
  refine lv_if_ne hx hb hdg2 ht (fun h => kt ?_) (fun h => kf ?_)
  · unfold zeq
    revert h
    rcases zo a b with _ | (_ | _ | _) <;> intro h <;> first | rfl | exact absurd h (by decide) | exact absurd (by decide) h
  · unfold zeq
    revert h
    rcases zo a b with _ | (_ | _ | _) <;> intro h <;> first | rfl | exact absurd h (by decide) | exact absurd (by decide) h
theorem z_cmp_g_lt (hx : p.tables.exec = Jvm.exec) (hb : c.code = cc) {x y : UInt64} {a b : ZD} (ha : zv x = a) (hbb : zv y = b) {off : Int} {tgt : Nat} (hdg : decode cc pc = .ok (.dcmp .g, 1)) (hdg2 : decode cc (pc + 1) = .ok (.ifCond .lt off, 3)) (ht : ((pc + 1 : Nat) : Int) + off = (tgt : Int))
    (kt : zlt a b = true → W p l e R s m args below meth c H locs cells slots Q (F0 m tgt ls rest)) (kf : zlt a b = false → W p l e R s m args below meth c H locs cells slots Q (F0 m (pc + 1 + 3) ls rest)) : W p l e R s m args below meth c H locs cells slots Q (F0 m pc ls (.double y :: .double x :: rest)) := by
  refine lv_dcmp hx hb hdg ?_
  have e : FP.dcmp x y = zo a b := by rw [← ha, ← hbb]; rfl
  rw [e]
  refine lv_if_lt hx hb hdg2 ht (fun h => kt ?_) (fun h => kf ?_)
  · unfold zlt
    revert h
    rcases zo a b with _ | (_ | _ | _) <;> intro h <;> first | rfl | exact absurd h (by decide) | exact absurd (by decide) h
  · unfold zlt
    revert h
    rcases zo a b with _ | (_ | _ | _) <;> intro h <;> first | rfl | exact absurd h (by decide) | exact absurd (by decide) h
theorem z_cmp_l_ge (hx : p.tables.exec = Jvm.exec) (hb : c.code = cc) {x y : UInt64} {a b : ZD} (ha : zv x = a) (hbb : zv y = b) {off : Int} {tgt : Nat} (hdg : decode cc pc = .ok (.dcmp .l, 1)) (hdg2 : decode cc (pc + 1) = .ok (.ifCond .ge off, 3)) (ht : ((pc + 1 : Nat) : Int) + off = (tgt : Int))
    (kt : zge a b = true → W p l e R s m args below meth c H locs cells slots Q (F0 m tgt ls rest)) (kf : zge a b = false → W p l e R s m args below meth c H locs cells slots Q (F0 m (pc + 1 + 3) ls rest)) : W p l e R s m args below meth c H locs cells slots Q (F0 m pc ls (.double y :: .double x :: rest)) := by
  refine lv_dcmp hx hb hdg ?_
  have e : FP.dcmp x y = zo a b := by rw [← ha, ← hbb]; rfl
  rw [e]
  refine lv_if_ge hx hb hdg2 ht (fun h => kt ?_) (fun h => kf ?_)
  · unfold zge
    revert h
    rcases zo a b with _ | (_ | _ | _) <;> intro h <;> first | rfl | exact absurd h (by decide) | exact absurd (by decide) h
  · unfold zge
    revert h
    rcases zo a b with _ | (_ | _ | _) <;> intro h <;> first | rfl | exact absurd h (by decide) | exact absurd (by decide) h
/-- a number read from a row of doubles -/
theorem z_dald {D : va_G} {cl : List vw_C} {tys : List (ClassId × FieldType)} {ws : va_W} {a : Nat} (hx : p.tables.exec = Jvm.exec) (hb : c.code = cc) (hK : va_K D cl tys s) (hP : va_P D cl ws H) (q0 t0 : Nat) {cA : ClassId} {n : Nat} {f : Nat → UInt64} (ha : ws[q0]? = some (a, .inl (cA, n, .inr (.inr (.inr (.inl f)))))) (ht : tys[t0]? = some (cA, .double)) {i : Nat} (hi : i < n) (hn : n < 2 ^ 31) (hdg : decode cc pc = .ok (.daload, 1))
    (k : W p l e R s m args below meth c H locs cells slots Q (F0 m (pc + 1) ls (.double (f i) :: rest))) : W p l e R s m args below meth c H locs cells slots Q (F0 m pc ls (.int (nI i) :: .ref a :: rest)) := by
  refine va_dald hx hb hK hP q0 t0 ha ht (vp_in_nI hi hn) hdg ?_
  rw [nI_clamp (Nat.lt_trans hi hn)]
  exact k
theorem z_iald {D : va_G} {cl : List vw_C} {tys : List (ClassId × FieldType)} {ws : va_W} {a : Nat} (hx : p.tables.exec = Jvm.exec) (hb : c.code = cc) (hK : va_K D cl tys s) (hP : va_P D cl ws H) (q0 t0 : Nat) {cA : ClassId} {n : Nat} {f : Nat → Int32} (ha : ws[q0]? = some (a, .inl (cA, n, .inl f))) (ht : tys[t0]? = some (cA, .int)) {i : Nat} (hi : i < n) (hn : n < 2 ^ 31) (hdg : decode cc pc = .ok (.iaload, 1))
    (k : W p l e R s m args below meth c H locs cells slots Q (F0 m (pc + 1) ls (.int (f i) :: rest))) : W p l e R s m args below meth c H locs cells slots Q (F0 m pc ls (.int (nI i) :: .ref a :: rest)) := by
  refine va_iald hx hb hK hP q0 t0 ha ht (vp_in_nI hi hn) hdg ?_
  rw [nI_clamp (Nat.lt_trans hi hn)]
  exact k
theorem z_dast {D : va_G} {cl : List vw_C} {tys : List (ClassId × FieldType)} {ws : va_W} {a : Nat} {A : Nat → Prop} {H0 : Heap} (hx : p.tables.exec = Jvm.exec) (hb : c.code = cc) (hK : va_K D cl tys s) (hP : va_P D cl ws H) (hD : va_D A ws) (hS : va_S A H0 H locs) (q0 t0 : Nat) {cA : ClassId} {n : Nat} {f : Nat → UInt64} (ha : ws[q0]? = some (a, .inl (cA, n, .inr (.inr (.inr (.inl f)))))) (ht : tys[t0]? = some (cA, .double)) {i : Nat} {x : UInt64} (hi : i < n) (hn : n < 2 ^ 31) (hdg : decode cc pc = .ok (.dastore, 1))
    (k : ∀ (H1 : Heap) (locs1 : List Loc), va_P D cl (ws.set q0 (a, .inl (cA, n, .inr (.inr (.inr (.inl (zu f i x))))))) H1 → va_D A (ws.set q0 (a, .inl (cA, n, .inr (.inr (.inr (.inl (zu f i x))))))) → va_S A H0 H1 locs1 → W p l e R s m args below meth c H1 locs1 cells slots Q (F0 m (pc + 1) ls rest)) : W p l e R s m args below meth c H locs cells slots Q (F0 m pc ls (.double x :: .int (nI i) :: .ref a :: rest)) := by
  refine va_dast hx hb hK hP hD hS q0 t0 ha ht (vp_in_nI hi hn) hdg (fun H1 locs1 h1 h2 h3 => ?_)
  rw [nI_clamp (Nat.lt_trans hi hn)] at h1 h2
  exact k H1 locs1 h1 h2 h3
theorem z_iast {D : va_G} {cl : List vw_C} {tys : List (ClassId × FieldType)} {ws : va_W} {a : Nat} {A : Nat → Prop} {H0 : Heap} (hx : p.tables.exec = Jvm.exec) (hb : c.code = cc) (hK : va_K D cl tys s) (hP : va_P D cl ws H) (hD : va_D A ws) (hS : va_S A H0 H locs) (q0 t0 : Nat) {cA : ClassId} {n : Nat} {f : Nat → Int32} (ha : ws[q0]? = some (a, .inl (cA, n, .inl f))) (ht : tys[t0]? = some (cA, .int)) {i : Nat} {x : Int32} (hi : i < n) (hn : n < 2 ^ 31) (hdg : decode cc pc = .ok (.iastore, 1))
    (k : ∀ (H1 : Heap) (locs1 : List Loc), va_P D cl (ws.set q0 (a, .inl (cA, n, .inl (zu f i x)))) H1 → va_D A (ws.set q0 (a, .inl (cA, n, .inl (zu f i x)))) → va_S A H0 H1 locs1 → W p l e R s m args below meth c H1 locs1 cells slots Q (F0 m (pc + 1) ls rest)) : W p l e R s m args below meth c H locs cells slots Q (F0 m pc ls (.int x :: .int (nI i) :: .ref a :: rest)) := by
  refine va_iast hx hb hK hP hD hS q0 t0 ha ht (vp_in_nI hi hn) hdg (fun H1 locs1 h1 h2 h3 => ?_)
  rw [nI_clamp (Nat.lt_trans hi hn)] at h1 h2
  exact k H1 locs1 h1 h2 h3
end ZR
theorem zfb {av : List Value} {D : va_G} {cl : List vw_C} {ws : va_W} {tys : List (ClassId × FieldType)} : FrameBlind (va_Pc av (fun U => va_P D cl ws U.heap ∧ va_K D cl tys U)) := fun a U g mk q => by
  obtain ⟨q1, qP, qK⟩ := q
  exact ⟨q1, qP, va_K.moved (u := U) (U := U.calling g mk a) (Vm.Alike.refl U.vm) qK⟩
theorem zfb0 {av : List Value} : FrameBlind (va_Pc av (fun _ => True)) := fun a U g mk q => q
theorem zpre {av : List Value} {D : va_G} {cl : List vw_C} {ws : va_W} {tys : List (ClassId × FieldType)} {H : Heap} {s : State} (hP : va_P D cl ws H) (hK : va_K D cl tys s) : ∀ U : State, U.heap = H → s.WarmedH U.vm → va_Pc av (fun U => va_P D cl ws U.heap ∧ va_K D cl tys U) av.toArray U := fun U hU hW => ⟨rfl, by rw [hU]; exact hP, va_K.moved hW.alike hK⟩
theorem zpre0 {av : List Value} {H : Heap} {s : State} : ∀ U : State, U.heap = H → s.WarmedH U.vm → va_Pc av (fun _ => True) av.toArray U := fun U hU hW => ⟨rfl, trivial⟩
theorem zfbw {av : List Value} {D : va_G} {cl : List vw_C} {ws : va_W} {tys : List (ClassId × FieldType)} {sz : Nat} {A : Nat → Prop} : FrameBlind (va_Pc av (fun U => U.heap.size = sz ∧ va_P D cl ws U.heap ∧ va_K D cl tys U ∧ va_D A ws)) := fun a U g mk q => by
  obtain ⟨q0, q1, qP, qK, qD⟩ := q
  exact ⟨q0, q1, qP, va_K.moved (u := U) (U := U.calling g mk a) (Vm.Alike.refl U.vm) qK, qD⟩
theorem zprew {av : List Value} {D : va_G} {cl : List vw_C} {ws : va_W} {tys : List (ClassId × FieldType)} {H : Heap} {s : State} {A : Nat → Prop} (hP : va_P D cl ws H) (hK : va_K D cl tys s) (hD : va_D A ws) : ∀ U : State, U.heap = H → s.WarmedH U.vm → va_Pc av (fun U => U.heap.size = H.size ∧ va_P D cl ws U.heap ∧ va_K D cl tys U ∧ va_D (fun _ => True) ws) av.toArray U := fun U hU hW => ⟨rfl, by rw [hU], by rw [hU]; exact hP, va_K.moved hW.alike hK, hD.weaken (fun _ _ _ _ => trivial)⟩
/-- behind a callee whose world is the caller's whole one -/
theorem zself {A0 : Nat → Prop} {ws : va_W} {H0 H : Heap} {locs : List Loc} (hD : va_D A0 ws) (hS : va_S A0 H0 H locs) (hA : ∀ q, H0.size ≤ q → A0 q) : ∀ q, va_A ws H.size q → A0 q := by
  intro q h
  rcases h with ⟨k, e, h⟩ | h
  · exact hD.2 k (q, e) h
  · exact hA q (Nat.le_trans hS.1 h)
theorem zb_nar (b : Bool) : narrow .boolean (.int (zb b)) = .int (zb b) := by cases b <;> rfl
theorem zb_fit (b : Bool) : fits .boolean (.int (zb b)) = true := by cases b <;> rfl
theorem znot_t {b : Bool} (h : (!b) = true) : b = false := by cases b <;> simp_all
theorem znot_f {b : Bool} (h : (!b) = false) : b = true := by cases b <;> simp_all
theorem zmod_x {x w y : Nat} (hx : x < w) : (y * w + x) % w = x := by
  rw [Nat.mul_comm, Nat.mul_add_mod]
  exact Nat.mod_eq_of_lt hx
theorem zdiv_y {x w y : Nat} (hx : x < w) : (y * w + x) / w = y := by
  rw [Nat.mul_comm, Nat.mul_add_div (by omega), Nat.div_eq_of_lt hx, Nat.add_zero]
