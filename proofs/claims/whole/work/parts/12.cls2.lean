/-! 12: the class: Plate over all its cells -/
/-- the words for the private methods of PlateModes that its nest mates call -/
def zNw (U : State) : Prop := va_Nw (.methodLinkNest RX2 92 yX4_ground "PlateModes") U ∧ va_Nw (.methodLinkNest RX1 67 yX4_root "PlateModes") U
theorem zNw.sd {s : State} {d : Drawn} (h : zNw s) : zNw (s.setDrawn d) := ⟨va_Nw.same rfl rfl h.1, va_Nw.same rfl rfl h.2⟩
theorem zNw.warm {s U : State} (hW : s.WarmedH U.vm) (h : zNw s) : zNw U := ⟨va_Nw.warmM hW h.1, va_Nw.warmM hW h.2⟩
theorem zfbN {av : List Value} {D : va_G} {cl : List vw_C} {ws : va_W} {tys : List (ClassId × FieldType)} : FrameBlind (va_Pc av (fun U => va_P D cl ws U.heap ∧ va_K D cl tys U ∧ zNw U)) := fun a U g mk q => by
  obtain ⟨q1, qP, qK, qN⟩ := q
  exact ⟨q1, qP, va_K.moved (u := U) (U := U.calling g mk a) (Vm.Alike.refl U.vm) qK, va_Nw.same rfl rfl qN.1, va_Nw.same rfl rfl qN.2⟩
theorem zpreN {av : List Value} {D : va_G} {cl : List vw_C} {ws : va_W} {tys : List (ClassId × FieldType)} {H : Heap} {s : State} (hP : va_P D cl ws H) (hK : va_K D cl tys s) (hN : zNw s) : ∀ U : State, U.heap = H → s.WarmedH U.vm → va_Pc av (fun U => va_P D cl ws U.heap ∧ va_K D cl tys U ∧ zNw U) av.toArray U := fun U hU hW => ⟨rfl, by rw [hU]; exact hP, va_K.moved hW.alike hK, zNw.warm hW hN⟩
theorem zfbwN {av : List Value} {D : va_G} {cl : List vw_C} {ws : va_W} {tys : List (ClassId × FieldType)} {sz : Nat} {A : Nat → Prop} : FrameBlind (va_Pc av (fun U => U.heap.size = sz ∧ va_P D cl ws U.heap ∧ va_K D cl tys U ∧ zNw U ∧ va_D A ws)) := fun a U g mk q => by
  obtain ⟨q0, q1, qP, qK, qN, qD⟩ := q
  exact ⟨q0, q1, qP, va_K.moved (u := U) (U := U.calling g mk a) (Vm.Alike.refl U.vm) qK, ⟨va_Nw.same rfl rfl qN.1, va_Nw.same rfl rfl qN.2⟩, qD⟩
theorem zprewN {av : List Value} {D : va_G} {cl : List vw_C} {ws : va_W} {tys : List (ClassId × FieldType)} {H : Heap} {s : State} {A : Nat → Prop} (hP : va_P D cl ws H) (hK : va_K D cl tys s) (hD : va_D A ws) (hN : zNw s) : ∀ U : State, U.heap = H → s.WarmedH U.vm → va_Pc av (fun U => U.heap.size = H.size ∧ va_P D cl ws U.heap ∧ va_K D cl tys U ∧ zNw U ∧ va_D (fun _ => True) ws) av.toArray U := fun U hU hW => ⟨rfl, by rw [hU], by rw [hU]; exact hP, va_K.moved hW.alike hK, zNw.warm hW hN, hD.weaken (fun _ _ _ _ => trivial)⟩
theorem zmir_f {w h : Nat} {T : Nat → ZD} {ax : Bool} {n : Nat} (e : zmir w h T ax n = false) : ∀ j, zmir w h T ax (n + j) = false
  | 0 => e
  | j + 1 => by
    show (zmir w h T ax (n + j) && zeq _ _) = false
    rw [zmir_f e j]
    rfl
theorem zmir_g {w h : Nat} {T : Nat → ZD} {ax : Bool} {x y : Nat} (hx : x < w) (hy : y < h) (h0 : zmir w h T ax (y * w + x) = true) (e : zeq (T (y * w + x)) (T (zmirI w h ax x y)) = false) : zmir w h T ax (w * h) = false := by
  have h1 : zmir w h T ax (y * w + x + 1) = false := by rw [zmir_s hx, h0, e]; rfl
  have h2 := zmir_f h1 (w * h - (y * w + x + 1))
  have h3 := zrow hx hy
  rw [show y * w + x + 1 + (w * h - (y * w + x + 1)) = w * h by omega] at h2
  exact h2
theorem zsR_in {w x y : Nat} {T : Nat → ZD} {A : ZD} (h : x + 1 < w) : (if zgt (T (y * w + x)) z0 = true ∧ zgt (T (y * w + (x + 1))) z0 = true then zspring A (T (y * w + x)) (T (y * w + (x + 1))) else z0) = zsR w T A x y := by
  unfold zsR
  simp only [h, true_and]
theorem zsR_out {w x y : Nat} {T : Nat → ZD} {A : ZD} (h : ¬ x + 1 < w) : z0 = zsR w T A x y := (if_neg (fun q => h q.1)).symm
theorem zsN_in {w h x y : Nat} {T : Nat → ZD} {B : ZD} (hh : y + 1 < h) : (if zgt (T (y * w + x)) z0 = true ∧ zgt (T ((y + 1) * w + x)) z0 = true then zspring B (T (y * w + x)) (T ((y + 1) * w + x)) else z0) = zsN w h T B x y := by
  unfold zsN
  simp only [hh, true_and]
theorem zsN_out {w h x y : Nat} {T : Nat → ZD} {B : ZD} (hh : ¬ y + 1 < h) : z0 = zsN w h T B x y := (if_neg (fun q => hh q.1)).symm
theorem zbR_no {w x0 y0 t : Nat} {T R : Nat → ZD} {g : ZD} (h : ¬ (zgt (T (y0 * w + (x0 + t))) z0 = true ∧ zgt (T (y0 * w + (x0 + t + 1))) z0 = true)) : zbRF w T x0 y0 g t R = R := by
  unfold zbRF zbRV
  rw [if_neg h, zu_id]
theorem zbR_yes {w x0 y0 t : Nat} {T R : Nat → ZD} {g : ZD} (h : zgt (T (y0 * w + (x0 + t))) z0 = true ∧ zgt (T (y0 * w + (x0 + t + 1))) z0 = true) : zbRF w T x0 y0 g t R = zu R (y0 * w + (x0 + t)) (zA (R (y0 * w + (x0 + t))) g) := by
  unfold zbRF zbRV
  rw [if_pos h]
theorem zbN_no {w x0 y0 t : Nat} {T R : Nat → ZD} {g : ZD} (h : ¬ (zgt (T ((y0 + t) * w + x0)) z0 = true ∧ zgt (T ((y0 + t + 1) * w + x0)) z0 = true)) : zbNF w T x0 y0 g t R = R := by
  unfold zbNF zbNV
  rw [if_neg h, zu_id]
theorem zbN_yes {w x0 y0 t : Nat} {T R : Nat → ZD} {g : ZD} (h : zgt (T ((y0 + t) * w + x0)) z0 = true ∧ zgt (T ((y0 + t + 1) * w + x0)) z0 = true) : zbNF w T x0 y0 g t R = zu R ((y0 + t) * w + x0) (zA (R ((y0 + t) * w + x0)) g) := by
  unfold zbNF zbNV
  rw [if_pos h]
theorem zmulle {a b w : Nat} (h : a * w < b * w) : a < b := Nat.lt_of_mul_lt_mul_right h
theorem zYlt {y0 t n w x0 : Nat} (h : (y0 + t) * w + x0 < (y0 + n) * w + x0) : t < n := by
  have h1 : (y0 + t) * w < (y0 + n) * w := by omega
  have h2 := zmulle h1
  omega
theorem zYge {y0 t n w x0 : Nat} (hw : 0 < w) (h : ¬ (y0 + t) * w + x0 < (y0 + n) * w + x0) : n ≤ t := by
  apply Classical.byContradiction
  intro q
  apply h
  have h1 : (y0 + t) * w ≤ (y0 + n) * w := Nat.mul_le_mul_right w (by omega)
  have h3 : (y0 + t + 1) * w ≤ (y0 + n) * w := Nat.mul_le_mul_right w (by omega)
  rw [Nat.add_mul, Nat.one_mul] at h3
  omega
/-- what holds a cell, as the class adds it up -/
def zk1 (w : Nat) (R : Nat → ZD) (x y : Nat) : ZD := zA zgc (R (y * w + x))
def zk2 (w : Nat) (R : Nat → ZD) (x y : Nat) : ZD := if 0 < x then zA (zk1 w R x y) (R (y * w + (x - 1))) else zk1 w R x y
def zk3 (w : Nat) (R N : Nat → ZD) (x y : Nat) : ZD := zA (zk2 w R x y) (N (y * w + x))
def zholdC (w : Nat) (R N : Nat → ZD) (x y : Nat) : ZD := if 0 < y then zA (zk3 w R N x y) (N ((y - 1) * w + x)) else zk3 w R N x y
theorem zwt_s {T : Nat → ZD} {de : ZD} {n : Nat} : zwt T de (n + 1) = zA (zwt T de n) (zM (T n) de) := rfl
set_option maxHeartbeats 4000000 in
set_option maxRecDepth 100000 in
/-- ground -/
theorem c4_ground (l : Launch)  : Met l yX4_ground wsX4_ground ({ frames := 0, cells := 0, slots := 0, locals := 0 } : Room) (va_Pc [] (fun _ => True)) (va_Qd (fun (r : UInt64) (_ : Unit) => r = 4589168020290535424) (fun _ _ => True) (fun _ => False)) 0 0 (fun _ => False) := by
  refine Met.ofW (cc := cX4_ground) (maxL := 0) (ret := (some .double)) (by decide) rfl ?_
  intro p e s m args below meth c s₁ B hml hv
  obtain ⟨rfl, -⟩ := hv
  have hx := B.exec
  have hb := B.bytes
  have hr := B.returns
  have hts := atoms_spec (ws := wsX4_ground) B.pre
  have hown : s.vm.findClass RX4 = some m.cls := findClass_of_methodNamed B.named
  have hlocks := B.notSynchronized
  have hS : va_S (fun _ => False) s.heap s.heap [] := va_S.rf
  have hl := lv_entry ([]) (n := 0) (Nat.le_of_ble_eq_true rfl)
  rw [lg_entry_eq]
  generalize (lg_sl ([]) ++ List.replicate (0 - (lg_sl ([])).length) Slot.unset).toArray = ls at hl ⊢
  have hl : lv_has ls 0 [] := hl
  refine lv_ldc2d (v := 4589168020290535424) hx hb hown (hts (.constantDouble RX4 198 (4589168020290535424)) (by decide +kernel)) dX4_ground_0 ?_
  exact W.dret (v := 4589168020290535424) hx hb hr (fun t ht hW => ⟨⟨4589168020290535424, (), rfl, ⟨rfl, trivial⟩⟩, hS.F ht⟩) hS.2.2 dX4_ground_3
set_option maxHeartbeats 4000000 in
set_option maxRecDepth 100000 in
/-- ROOT -/
theorem c4_root (l : Launch) (v : UInt64) : MetD lw_cs l yX4_root wsX4_root ({ frames := 0, cells := 0, slots := 0, locals := 0 } : Room) (va_Pc [.double v] (fun _ => True)) (va_Qd (fun (r : UInt64) (_ : Unit) => zv r = zroot (zv v)) (fun _ _ => True) (fun _ => False)) 0 0 (fun _ => False) := by
  refine MetD.ofW (cc := cX4_root) (maxL := 5) (ret := (some .double)) (by decide) rfl ?_
  intro p e s m args below meth c s₁ B hml hv hd0
  obtain ⟨rfl, -⟩ := hv
  have hx := B.exec
  have hb := B.bytes
  have hr := B.returns
  have hts := atoms_spec (ws := wsX4_root) B.pre
  have hown : s.vm.findClass RX4 = some m.cls := findClass_of_methodNamed B.named
  have hlocks := B.notSynchronized
  have hS : va_S (fun _ => False) s.heap s.heap [] := va_S.rf
  have hl := lv_entry ([.double v]) (n := 5) (Nat.le_of_ble_eq_true rfl)
  rw [lg_entry_eq]
  generalize (lg_sl ([.double v]) ++ List.replicate (5 - (lg_sl ([.double v])).length) Slot.unset).toArray = ls at hl ⊢
  have hl : lv_has ls 5 [(0, .double v)] := hl
  refine lv_dload_n hx hb dX4_root_0 rfl (lv_at hl 0 rfl) ?_
  refine lv_dconst0 hx hb dX4_root_1 ?_
  refine z_cmp_l_gt (tgt := 8) hx hb (a := zv v) (b := z0) rfl rfl dX4_root_2 dX4_root_3 (by decide) (fun c1 => ?_) (fun c2 => ?_)
  · skip
    have c_gt := c1
    refine lv_dconst1 hx hb dX4_root_8 ?_
    refine lv_dload_n hx hb dX4_root_9 rfl (lv_at hl 0 rfl) ?_
    refine zr_dadd hd0 hx hb (a := z1) (b := zv v) rfl rfl dX4_root_10 (fun r3 d4 hr3 hd4 => ?_)
    refine lv_dstore_n (lv' := [(2, .double r3), (0, .double v)]) hx hb dX4_root_11 rfl hl (by decide) rfl (fun ls hl => ?_)
    refine lv_iconst (v := (nI 0)) hx hb dX4_root_12 (by decide) ?_
    refine lv_istore (lv' := [(4, .int (nI 0)), (2, .double r3), (0, .double v)]) hx hb dX4_root_13 hl (by decide) rfl (fun ls hl => ?_)
    have L_15 : ∀ (n : Nat) (i : Nat) (r : UInt64) (d0 : Drawn) (H : Heap) (locs : List Loc) (ls : Array Slot), 30 - i < n → (i ≤ 30) → (zv r = zfold (zrootF (zv v)) i (zA z1 (zv v))) → s.drawn.sameBut d0 lw_cs → va_S (fun _ => False) s.heap H locs → lv_has ls 5 [(4, .int (nI i)), (2, .double r), (0, .double v)] → W p l e (headSpec wsX4_root ({ frames := 0, cells := 0, slots := 0, locals := 0 } : Room)).room (s.setDrawn d0) m ([.double v] : List Value).toArray below meth c H locs 0 0 (MQD lw_cs below (va_Qd (fun (r : UInt64) (_ : Unit) => zv r = zroot (zv v)) (fun _ _ => True) (fun _ => False)) ([.double v] : List Value).toArray s 0 0 (fun _ => False)) (F0 m 15 ls []) := by
      intro n
      induction n with
      | zero => intro i r d0 H locs ls hn; exact absurd hn (Nat.not_lt_zero _)
      | succ n ih_L_15 =>
        intro i r d0 H locs ls hn hi hr0 hd0 hS hl
        refine lv_iload hx hb dX4_root_15 (lv_at hl 0 rfl) ?_
        refine lv_bipush (v := (nI 30)) hx hb dX4_root_17 (by decide) ?_
        refine z_icmp_ge (a := i) (b := 30) (tgt := 38) hx hb (by omega) (by omega) dX4_root_19 (by decide) (fun c5 => ?_) (fun c6 => ?_)
        · skip
          refine lv_dload_n hx hb dX4_root_38 rfl (lv_at hl 1 rfl) ?_
          refine W.endD hd0 ?_
          exact W.dret (v := r) hx hb hr (fun t ht hW => ⟨⟨r, (), rfl, ⟨by dsimp only; rw [zroot_t c_gt, hr0, show i = 30 by omega], trivial⟩⟩, hS.F ht⟩) hS.2.2 dX4_root_39
        · skip
          refine lv_dload_n hx hb dX4_root_22 rfl (lv_at hl 1 rfl) ?_
          refine lv_dload_n hx hb dX4_root_23 rfl (lv_at hl 2 rfl) ?_
          refine lv_dload_n hx hb dX4_root_24 rfl (lv_at hl 1 rfl) ?_
          refine zr_ddiv hd0 hx hb (a := zv v) (b := zfold (zrootF (zv v)) i (zA z1 (zv v))) rfl hr0 dX4_root_25 (fun r7 d8 hr7 hd8 => ?_)
          refine zr_dadd hd8 hx hb (a := zfold (zrootF (zv v)) i (zA z1 (zv v))) (b := zQ (zv v) (zfold (zrootF (zv v)) i (zA z1 (zv v)))) hr0 hr7 dX4_root_26 (fun r9 d10 hr9 hd10 => ?_)
          refine lv_ldc2d (v := 4611686018427387904) hx hb hown (dr_words hts d10 (.constantDouble RX4 143 (4611686018427387904)) (by decide +kernel)) dX4_root_27 ?_
          refine zr_ddiv hd10 hx hb (a := zA (zfold (zrootF (zv v)) i (zA z1 (zv v))) (zQ (zv v) (zfold (zrootF (zv v)) i (zA z1 (zv v))))) (b := zv 4611686018427387904) hr9 rfl dX4_root_30 (fun r11 d12 hr11 hd12 => ?_)
          refine lv_dstore_n (lv' := [(2, .double r11), (4, .int (nI i)), (0, .double v)]) hx hb dX4_root_31 rfl hl (by decide) rfl (fun ls hl => ?_)
          refine lv_iinc (v := nI (i + 1)) (lv' := [(4, .int (nI (i + 1))), (2, .double r11), (0, .double v)]) hx hb dX4_root_32 hl (k := 1) rfl (show nI i + nI 1 = _ from zi_add (by omega)) (by decide) rfl (fun ls hl => ?_)
          refine lv_goto (tgt := 15) hx hb dX4_root_35 (by decide) ?_
          exact ih_L_15 (i + 1) r11 _ _ _ _ (by omega) (by omega) hr11 hd12 hS hl
    exact L_15 _ 0 r3 _ _ _ _ (Nat.lt_succ_self _) (by omega) hr3 hd4 hS hl
  · skip
    have c_gt := c2
    refine lv_dconst0 hx hb dX4_root_6 ?_
    refine W.endD hd0 ?_
    exact W.dret (v := FP.dconst0) hx hb hr (fun t ht hW => ⟨⟨FP.dconst0, (), rfl, ⟨(zroot_f c_gt).symm, trivial⟩⟩, hS.F ht⟩) hS.2.2 dX4_root_7
theorem in_X2_massOfAll_X2 : ∀ w ∈ wsX20, w ∈ wsX2_massOfAll := by intro w h; unfold wsX2_massOfAll; simp only [List.mem_cons, List.mem_append]; first | exact Or.inr (Or.inr h) | exact Or.inr (Or.inl (Or.inr h)) | exact Or.inr (Or.inl (Or.inl (Or.inr h))) | exact Or.inr (Or.inr (Or.inl h)) | exact Or.inr (Or.inr (Or.inr h))
set_option maxHeartbeats 4000000 in
set_option maxRecDepth 100000 in
/-- massOfAll -/
theorem c2_massOfAll (l : Launch) (dC : Nat → ClassId) (dI : Nat → Nat → Nat) (aP pT pR pN pB bP bF bL bH : Nat) (cD cI cQ : ClassId) (iw ih : Nat) (al ac de : UInt64) (nb : Nat) (tT tR tN : Nat → UInt64) (uP uF uL : Nat → Int32) (uH : Nat → UInt64) (hw6 : iw ≤ 6) (hh6 : ih ≤ 6) (T : Nat → ZD) (gT : zcr tT (iw * ih) T) : MetD lw_cs l yX2_massOfAll wsX2_massOfAll ({ frames := 1, cells := 0, slots := 0, locals := 21 } : Room) (va_Pc [.ref aP] (fun U => va_P (dC, dI) vwCl [(aP, .inr (2, [.int (nI iw), .int (nI ih), .ref pT, .ref pR, .ref pN, .ref pB, .double al, .double ac, .double de])), (pT, .inl (cD, (iw * ih), .inr (.inr (.inr (.inl tT))))), (pR, .inl (cD, (iw * ih), .inr (.inr (.inr (.inl tR))))), (pN, .inl (cD, (iw * ih), .inr (.inr (.inr (.inl tN))))), (pB, .inr (0, [.ref bP, .ref bF, .ref bL, .ref bH, .int (nI nb)])), (bP, .inl (cI, 12, .inl uP)), (bF, .inl (cI, 12, .inl uF)), (bL, .inl (cI, 12, .inl uL)), (bH, .inl (cD, 12, .inr (.inr (.inr (.inl uH)))))] U.heap ∧ va_K (dC, dI) vwCl [(cD, .double), (cI, .int), (cQ, .array .double)] U)) (va_Qd (fun (r : UInt64) (_ : Unit) => zv r = zwt T (zv de) (iw * ih)) (fun _ _ => True) (fun _ => False)) 0 0 (fun _ => False) := by
  refine MetD.ofW (cc := cX2_massOfAll) (maxL := 4) (ret := (some .double)) (by decide) rfl ?_
  intro p e s m args below meth c s₁ B hml hv hd0
  obtain ⟨rfl, hP0, hK⟩ := hv
  have hx := B.exec
  have hb := B.bytes
  have hr := B.returns
  have hts := atoms_spec (ws := wsX2_massOfAll) B.pre
  have hown : s.vm.findClass RX2 = some m.cls := findClass_of_methodNamed B.named
  have hlocks := B.notSynchronized
  have hS : va_S (fun _ => False) s.heap s.heap [] := va_S.rf
  have hP := hP0
  have hl := lv_entry ([.ref aP]) (n := 4) (Nat.le_of_ble_eq_true rfl)
  rw [lg_entry_eq]
  generalize (lg_sl ([.ref aP]) ++ List.replicate (4 - (lg_sl ([.ref aP])).length) Slot.unset).toArray = ls at hl ⊢
  have hl : lv_has ls 4 [(0, .ref aP)] := hl
  have hn36 : iw * ih ≤ 36 := Nat.mul_le_mul hw6 hh6
  refine lv_dconst0 hx hb dX2_massOfAll_0 ?_
  refine lv_dstore_n (lv' := [(1, .double FP.dconst0), (0, .ref aP)]) hx hb dX2_massOfAll_1 rfl hl (by decide) rfl (fun ls hl => ?_)
  refine lv_iconst (v := (nI 0)) hx hb dX2_massOfAll_2 (by decide) ?_
  refine lv_istore_n (lv' := [(3, .int (nI 0)), (1, .double FP.dconst0), (0, .ref aP)]) hx hb dX2_massOfAll_3 rfl hl (by decide) rfl (fun ls hl => ?_)
  have L_4 : ∀ (n : Nat) (k : Nat) (sx : UInt64) (d0 : Drawn) (H : Heap) (locs : List Loc) (ls : Array Slot), iw * ih - k < n → (k ≤ iw * ih) → (zv sx = zwt T (zv de) k) → s.drawn.sameBut d0 lw_cs → va_S (fun _ => False) s.heap H locs → lv_has ls 4 [(3, .int (nI k)), (1, .double sx), (0, .ref aP)] → W p l e (headSpec wsX2_massOfAll ({ frames := 1, cells := 0, slots := 0, locals := 21 } : Room)).room (s.setDrawn d0) m ([.ref aP] : List Value).toArray below meth c H locs 0 0 (MQD lw_cs below (va_Qd (fun (r : UInt64) (_ : Unit) => zv r = zwt T (zv de) (iw * ih)) (fun _ _ => True) (fun _ => False)) ([.ref aP] : List Value).toArray s 0 0 (fun _ => False)) (F0 m 4 ls []) := by
    intro n
    induction n with
    | zero => intro k sx d0 H locs ls hn; exact absurd hn (Nat.not_lt_zero _)
    | succ n ih_L_4 =>
      intro k sx d0 H locs ls hn hk hsx hd0 hS hl
      have hP := zro hP0 hS
      refine lv_iload_n hx hb dX2_massOfAll_4 rfl (lv_at hl 0 rfl) ?_
      refine lv_aload_n hx hb dX2_massOfAll_5 rfl (lv_at hl 2 rfl) ?_
      refine va_get (D := (dC, dI)) (ci := 2) (v := .ref pT) (C := RX2) (T := TX2) (N := 9) hx hb (dr_words hts d0) (in_X2_massOfAll_X2) hown hK hP 0 rfl rfl 2 (by decide) (dr_words hts d0 (.fieldLink RX2 18 "PlateModes$Plate" "thick" "[D") (by decide +kernel)) (fun _ h9 => h9) rfl dX2_massOfAll_6 ?_
      refine va_alen (s := s.setDrawn d0) hx hb hK hP 1 0 rfl (v := nI (iw * ih)) rfl rfl dX2_massOfAll_9 ?_
      refine z_icmp_ge (a := k) (b := iw * ih) (tgt := 27) hx hb (by omega) (by omega) dX2_massOfAll_10 (by decide) (fun c1 => ?_) (fun c2 => ?_)
      · skip
        refine lv_dload_n hx hb dX2_massOfAll_27 rfl (lv_at hl 1 rfl) ?_
        refine W.endD hd0 ?_
        exact W.dret (v := sx) hx hb hr (fun t ht hW => ⟨⟨sx, (), rfl, ⟨by dsimp only; rw [hsx, show k = iw * ih by omega], trivial⟩⟩, hS.F ht⟩) hS.2.2 dX2_massOfAll_28
      · skip
        refine lv_dload_n hx hb dX2_massOfAll_13 rfl (lv_at hl 1 rfl) ?_
        refine lv_aload_n hx hb dX2_massOfAll_14 rfl (lv_at hl 2 rfl) ?_
        refine lv_iload_n hx hb dX2_massOfAll_15 rfl (lv_at hl 0 rfl) ?_
        have hPc := hP
        refine va_calldD hd0 (va_runV_D (As := [.int (nI k)]) (rest := [.double sx]) ⟨hx, hb, hml, hown, (dr_words hts d0)⟩ (c2_massOf l dC dI aP pT pR pN pB bP bF bL bH cD cI cQ iw ih al ac de nb tT tR tN uP uF uL uH hw6 hh6 k (by omega)) (cwV 1 (dr_words hts d0) gX2_massOfAll_X2_massOf rfl rfl rfl (by decide +kernel) ⟨Nat.le_of_ble_eq_true rfl, Nat.le_of_ble_eq_true rfl⟩) ⟨zfb, va_recv hK hP (ci := 2) (q0 := 0) rfl rfl, zpre hPc hK⟩ rfl rfl hl.1 rfl (lv_room (Nat.le_of_ble_eq_true rfl)) dX2_massOfAll_16 ⟨Nat.le_of_ble_eq_true rfl, Nat.le_of_ble_eq_true rfl⟩) hS (fun q _ h => h.elim) (fun q h => h.elim) (fun r3 u9 t9 H locs ht9 hvm9 hr3 hB9 hz9 hk1 hS dhd4 hd4 => ?_)
        have hP := zro1 hP hk1
        have hr3 : zv r3 = zM (T k) (zv de) := by rw [hr3, show zv (tT k) = T k from gT _ (by omega)]
        refine zr_dadd hd4 hx hb (a := zwt T (zv de) k) (b := zM (T k) (zv de)) hsx hr3 dX2_massOfAll_19 (fun r5 d6 hr5 hd6 => ?_)
        refine lv_dstore_n (lv' := [(1, .double r5), (3, .int (nI k)), (0, .ref aP)]) hx hb dX2_massOfAll_20 rfl hl (by decide) rfl (fun ls hl => ?_)
        refine lv_iinc (v := nI (k + 1)) (lv' := [(3, .int (nI (k + 1))), (1, .double r5), (0, .ref aP)]) hx hb dX2_massOfAll_21 hl (k := 1) rfl (show nI k + nI 1 = _ from zi_add (by omega)) (by decide) rfl (fun ls hl => ?_)
        refine lv_goto (tgt := 4) hx hb dX2_massOfAll_24 (by decide) ?_
        exact ih_L_4 (k + 1) r5 _ _ _ _ (by omega) (by omega) hr5 hd6 hS hl
  exact L_4 _ 0 FP.dconst0 _ _ _ _ (Nat.lt_succ_self _) (by omega) rfl hd0 hS hl
theorem in_X2_mirroredAlongX_X2 : ∀ w ∈ wsX20, w ∈ wsX2_mirroredAlongX := by intro w h; unfold wsX2_mirroredAlongX; simp only [List.mem_cons, List.mem_append]; first | exact Or.inr (Or.inr h) | exact Or.inr (Or.inl (Or.inr h)) | exact Or.inr (Or.inl (Or.inl (Or.inr h))) | exact Or.inr (Or.inr (Or.inl h)) | exact Or.inr (Or.inr (Or.inr h))
set_option maxHeartbeats 4000000 in
set_option maxRecDepth 100000 in
/-- X2_mirroredAlongX -/
theorem c2_mirroredX (l : Launch) (dC : Nat → ClassId) (dI : Nat → Nat → Nat) (aP pT pR pN pB bP bF bL bH : Nat) (cD cI cQ : ClassId) (iw ih : Nat) (al ac de : UInt64) (nb : Nat) (tT tR tN : Nat → UInt64) (uP uF uL : Nat → Int32) (uH : Nat → UInt64) (hw6 : iw ≤ 6) (hh6 : ih ≤ 6) (T : Nat → ZD) (gT : zcr tT (iw * ih) T) : Met l yX2_mirroredAlongX wsX2_mirroredAlongX ({ frames := 1, cells := 0, slots := 0, locals := 22 } : Room) (va_Pc [.ref aP] (fun U => va_P (dC, dI) vwCl [(aP, .inr (2, [.int (nI iw), .int (nI ih), .ref pT, .ref pR, .ref pN, .ref pB, .double al, .double ac, .double de])), (pT, .inl (cD, (iw * ih), .inr (.inr (.inr (.inl tT))))), (pR, .inl (cD, (iw * ih), .inr (.inr (.inr (.inl tR))))), (pN, .inl (cD, (iw * ih), .inr (.inr (.inr (.inl tN))))), (pB, .inr (0, [.ref bP, .ref bF, .ref bL, .ref bH, .int (nI nb)])), (bP, .inl (cI, 12, .inl uP)), (bF, .inl (cI, 12, .inl uF)), (bL, .inl (cI, 12, .inl uL)), (bH, .inl (cD, 12, .inr (.inr (.inr (.inl uH)))))] U.heap ∧ va_K (dC, dI) vwCl [(cD, .double), (cI, .int), (cQ, .array .double)] U)) (va_Qi (fun (r : Int32) (_ : Unit) => r = zb (zmir iw ih T true (iw * ih))) (fun _ _ => True) (fun _ => False)) 0 0 (fun _ => False) := by
  refine Met.ofW (cc := cX2_mirroredAlongX) (maxL := 3) (ret := (some .boolean)) (by decide) rfl ?_
  intro p e s m args below meth c s₁ B hml hv
  obtain ⟨rfl, hP0, hK⟩ := hv
  have hx := B.exec
  have hb := B.bytes
  have hr := B.returns
  have hts := atoms_spec (ws := wsX2_mirroredAlongX) B.pre
  have hown : s.vm.findClass RX2 = some m.cls := findClass_of_methodNamed B.named
  have hlocks := B.notSynchronized
  have hS : va_S (fun _ => False) s.heap s.heap [] := va_S.rf
  have hP := hP0
  have hl := lv_entry ([.ref aP]) (n := 3) (Nat.le_of_ble_eq_true rfl)
  rw [lg_entry_eq]
  generalize (lg_sl ([.ref aP]) ++ List.replicate (3 - (lg_sl ([.ref aP])).length) Slot.unset).toArray = ls at hl ⊢
  have hl : lv_has ls 3 [(0, .ref aP)] := hl
  have hn36 : iw * ih ≤ 36 := Nat.mul_le_mul hw6 hh6
  refine lv_iconst (v := (nI 0)) hx hb dX2_mirroredAlongX_0 (by decide) ?_
  refine lv_istore_n (lv' := [(1, .int (nI 0)), (0, .ref aP)]) hx hb dX2_mirroredAlongX_1 rfl hl (by decide) rfl (fun ls hl => ?_)
  have L_2 : ∀ (n : Nat) (y : Nat) (H : Heap) (locs : List Loc) (ls : Array Slot), ih - y < n → (y ≤ ih) → (zmir iw ih T true (y * iw) = true) → va_S (fun _ => False) s.heap H locs → lv_has ls 3 [(1, .int (nI y)), (0, .ref aP)] → W p l e (headSpec wsX2_mirroredAlongX ({ frames := 1, cells := 0, slots := 0, locals := 22 } : Room)).room s m ([.ref aP] : List Value).toArray below meth c H locs 0 0 (MQ below (va_Qi (fun (r : Int32) (_ : Unit) => r = zb (zmir iw ih T true (iw * ih))) (fun _ _ => True) (fun _ => False)) ([.ref aP] : List Value).toArray s 0 0 (fun _ => False)) (F0 m 2 ls []) := by
    intro n
    induction n with
    | zero => intro y H locs ls hn; exact absurd hn (Nat.not_lt_zero _)
    | succ n ih_L_2 =>
      intro y H locs ls hn hyh hm1 hS hl
      have hP := zro hP0 hS
      refine lv_iload_n hx hb dX2_mirroredAlongX_2 rfl (lv_at hl 0 rfl) ?_
      refine lv_aload_n hx hb dX2_mirroredAlongX_3 rfl (lv_at hl 1 rfl) ?_
      refine va_get (D := (dC, dI)) (ci := 2) (v := .int (nI ih)) (C := RX2) (T := TX2) (N := 9) hx hb hts (in_X2_mirroredAlongX_X2) hown hK hP 0 rfl rfl 1 (by decide) (hts (.fieldLink RX2 15 "PlateModes$Plate" "height" "I") (by decide +kernel)) (fun _ h9 => h9) rfl dX2_mirroredAlongX_4 ?_
      refine z_icmp_ge (a := y) (b := ih) (tgt := 67) hx hb (by omega) (by omega) dX2_mirroredAlongX_7 (by decide) (fun c1 => ?_) (fun c2 => ?_)
      · skip
        refine lv_iconst (v := (nI 1)) hx hb dX2_mirroredAlongX_67 (by decide) ?_
        exact W.zret (v := (nI 1)) hx hb hr rfl (fun t ht hW => ⟨⟨(nI 1), (), rfl, ⟨by rw [show iw * ih = y * iw by rw [show y = ih by omega, Nat.mul_comm], hm1]; rfl, trivial⟩⟩, hS.F ht⟩) hS.2.2 dX2_mirroredAlongX_68
      · skip
        refine lv_iconst (v := (nI 0)) hx hb dX2_mirroredAlongX_10 (by decide) ?_
        refine lv_istore_n (lv' := [(2, .int (nI 0)), (1, .int (nI y)), (0, .ref aP)]) hx hb dX2_mirroredAlongX_11 rfl hl (by decide) rfl (fun ls hl => ?_)
        have L_12 : ∀ (n : Nat) (x : Nat) (H : Heap) (locs : List Loc) (ls : Array Slot), iw - x < n → (x ≤ iw) → (zmir iw ih T true (y * iw + x) = true) → va_S (fun _ => False) s.heap H locs → lv_has ls 3 [(2, .int (nI x)), (1, .int (nI y)), (0, .ref aP)] → W p l e (headSpec wsX2_mirroredAlongX ({ frames := 1, cells := 0, slots := 0, locals := 22 } : Room)).room s m ([.ref aP] : List Value).toArray below meth c H locs 0 0 (MQ below (va_Qi (fun (r : Int32) (_ : Unit) => r = zb (zmir iw ih T true (iw * ih))) (fun _ _ => True) (fun _ => False)) ([.ref aP] : List Value).toArray s 0 0 (fun _ => False)) (F0 m 12 ls []) := by
          intro n
          induction n with
          | zero => intro x H locs ls hn; exact absurd hn (Nat.not_lt_zero _)
          | succ n ih_L_12 =>
            intro x H locs ls hn hxw hm2 hS hl
            have hP := zro hP0 hS
            refine lv_iload_n hx hb dX2_mirroredAlongX_12 rfl (lv_at hl 0 rfl) ?_
            refine lv_aload_n hx hb dX2_mirroredAlongX_13 rfl (lv_at hl 2 rfl) ?_
            refine va_get (D := (dC, dI)) (ci := 2) (v := .int (nI iw)) (C := RX2) (T := TX2) (N := 9) hx hb hts (in_X2_mirroredAlongX_X2) hown hK hP 0 rfl rfl 0 (by decide) (hts (.fieldLink RX2 9 "PlateModes$Plate" "width" "I") (by decide +kernel)) (fun _ h9 => h9) rfl dX2_mirroredAlongX_14 ?_
            refine z_icmp_ge (a := x) (b := iw) (tgt := 61) hx hb (by omega) (by omega) dX2_mirroredAlongX_17 (by decide) (fun c3 => ?_) (fun c4 => ?_)
            · skip
              refine lv_iinc (v := nI (y + 1)) (lv' := [(1, .int (nI (y + 1))), (2, .int (nI x)), (0, .ref aP)]) hx hb dX2_mirroredAlongX_61 hl (k := 1) rfl (show nI y + nI 1 = _ from zi_add (by omega)) (by decide) rfl (fun ls hl => ?_)
              refine lv_goto (tgt := 2) hx hb dX2_mirroredAlongX_64 (by decide) ?_
              exact ih_L_2 (y + 1) _ _ _ (by omega) (by omega) (by rw [show (y + 1) * iw = y * iw + x by rw [← zrow_end]; omega]; exact hm2) hS (lv_sub hl [0, 2] rfl)
            · skip
              refine lv_aload_n hx hb dX2_mirroredAlongX_20 rfl (lv_at hl 2 rfl) ?_
              refine va_get (D := (dC, dI)) (ci := 2) (v := .ref pT) (C := RX2) (T := TX2) (N := 9) hx hb hts (in_X2_mirroredAlongX_X2) hown hK hP 0 rfl rfl 2 (by decide) (hts (.fieldLink RX2 18 "PlateModes$Plate" "thick" "[D") (by decide +kernel)) (fun _ h9 => h9) rfl dX2_mirroredAlongX_21 ?_
              refine lv_aload_n hx hb dX2_mirroredAlongX_24 rfl (lv_at hl 2 rfl) ?_
              refine lv_iload_n hx hb dX2_mirroredAlongX_25 rfl (lv_at hl 0 rfl) ?_
              refine lv_iload_n hx hb dX2_mirroredAlongX_26 rfl (lv_at hl 1 rfl) ?_
              have hPc := hP
              refine va_calli (va_runV (As := [.int (nI x), .int (nI y)]) (rest := [.ref pT]) ⟨hx, hb, hml, hown, hts⟩ (c2_cellAt l dC dI aP pT pR pN pB bP bF bL bH cD cI cQ iw ih al ac de nb tT tR tN uP uF uL uH x y) (cwV 2 hts gX2_mirroredAlongX_X2_cellAt rfl rfl rfl (by decide +kernel) ⟨Nat.le_of_ble_eq_true rfl, Nat.le_of_ble_eq_true rfl⟩) ⟨zfb, va_recv hK hP (ci := 2) (q0 := 0) rfl rfl, zpre hPc hK⟩ rfl rfl hl.1 rfl (lv_room (Nat.le_of_ble_eq_true rfl)) dX2_mirroredAlongX_27 ⟨Nat.le_of_ble_eq_true rfl, Nat.le_of_ble_eq_true rfl⟩) hS (fun q _ h => h.elim) (fun q h => h.elim) (fun r5 u9 t9 H locs ht9 hvm9 hr5 hB9 hz9 hk1 hS => ?_)
              have hP := zro1 hP hk1
              subst hr5
              refine z_dald (n := (iw * ih)) (i := y * iw + x) hx hb hK hP 1 0 rfl rfl (zrow (x := x) (y := y) (by omega) (by omega)) (by omega) dX2_mirroredAlongX_30 ?_
              refine lv_aload_n hx hb dX2_mirroredAlongX_31 rfl (lv_at hl 2 rfl) ?_
              refine va_get (D := (dC, dI)) (ci := 2) (v := .ref pT) (C := RX2) (T := TX2) (N := 9) hx hb hts (in_X2_mirroredAlongX_X2) hown hK hP 0 rfl rfl 2 (by decide) (hts (.fieldLink RX2 18 "PlateModes$Plate" "thick" "[D") (by decide +kernel)) (fun _ h9 => h9) rfl dX2_mirroredAlongX_32 ?_
              refine lv_aload_n hx hb dX2_mirroredAlongX_35 rfl (lv_at hl 2 rfl) ?_
              refine lv_aload_n hx hb dX2_mirroredAlongX_36 rfl (lv_at hl 2 rfl) ?_
              refine va_get (D := (dC, dI)) (ci := 2) (v := .int (nI iw)) (C := RX2) (T := TX2) (N := 9) hx hb hts (in_X2_mirroredAlongX_X2) hown hK hP 0 rfl rfl 0 (by decide) (hts (.fieldLink RX2 9 "PlateModes$Plate" "width" "I") (by decide +kernel)) (fun _ h9 => h9) rfl dX2_mirroredAlongX_37 ?_
              refine lv_iconst (v := (nI 1)) hx hb dX2_mirroredAlongX_40 (by decide) ?_
              refine t_isub hx hb dX2_mirroredAlongX_41 (v := nI (iw - 1)) (zi_sub (by omega) (by omega)) ?_
              refine lv_iload_n hx hb dX2_mirroredAlongX_42 rfl (lv_at hl 0 rfl) ?_
              refine t_isub hx hb dX2_mirroredAlongX_43 (v := nI (iw - x - 1)) (zi_sub (by omega) (by omega)) ?_
              refine lv_iload_n hx hb dX2_mirroredAlongX_44 rfl (lv_at hl 1 rfl) ?_
              have hPc := hP
              refine va_calli (va_runV (As := [.int (nI (iw - x - 1)), .int (nI y)]) (rest := [.ref pT, .double (tT (y * iw + x))]) ⟨hx, hb, hml, hown, hts⟩ (c2_cellAt l dC dI aP pT pR pN pB bP bF bL bH cD cI cQ iw ih al ac de nb tT tR tN uP uF uL uH (iw - x - 1) y) (cwV 2 hts gX2_mirroredAlongX_X2_cellAt rfl rfl rfl (by decide +kernel) ⟨Nat.le_of_ble_eq_true rfl, Nat.le_of_ble_eq_true rfl⟩) ⟨zfb, va_recv hK hP (ci := 2) (q0 := 0) rfl rfl, zpre hPc hK⟩ rfl rfl hl.1 rfl (lv_room (Nat.le_of_ble_eq_true rfl)) dX2_mirroredAlongX_45 ⟨Nat.le_of_ble_eq_true rfl, Nat.le_of_ble_eq_true rfl⟩) hS (fun q _ h => h.elim) (fun q h => h.elim) (fun r6 u9 t9 H locs ht9 hvm9 hr6 hB9 hz9 hk1 hS => ?_)
              have hP := zro1 hP hk1
              subst hr6
              refine z_dald (n := (iw * ih)) (i := (y * iw + (iw - x - 1))) hx hb hK hP 1 0 rfl rfl (zrow (x := iw - x - 1) (y := y) (by omega) (by omega)) (by omega) dX2_mirroredAlongX_48 ?_
              refine z_cmp_l_eq (tgt := 55) hx hb (a := T (y * iw + x)) (b := T (y * iw + (iw - x - 1))) (gT _ (zrow (x := x) (y := y) (by omega) (by omega))) (gT _ (zrow (x := iw - x - 1) (y := y) (by omega) (by omega))) dX2_mirroredAlongX_49 dX2_mirroredAlongX_50 (by decide) (fun c7 => ?_) (fun c8 => ?_)
              · skip
                have ce := c7
                refine lv_iinc (v := nI (x + 1)) (lv' := [(2, .int (nI (x + 1))), (1, .int (nI y)), (0, .ref aP)]) hx hb dX2_mirroredAlongX_55 hl (k := 0) rfl (show nI x + nI 1 = _ from zi_add (by omega)) (by decide) rfl (fun ls hl => ?_)
                refine lv_goto (tgt := 12) hx hb dX2_mirroredAlongX_58 (by decide) ?_
                exact ih_L_12 (x + 1) _ _ _ (by omega) (by omega) ((zmir_s (by omega)).trans (by rw [hm2]; exact ce)) hS hl
              · skip
                have ce := c8
                refine lv_iconst (v := (nI 0)) hx hb dX2_mirroredAlongX_53 (by decide) ?_
                exact W.zret (v := (nI 0)) hx hb hr rfl (fun t ht hW => ⟨⟨(nI 0), (), rfl, ⟨by rw [zmir_g (by omega) (by omega) hm2 ce]; rfl, trivial⟩⟩, hS.F ht⟩) hS.2.2 dX2_mirroredAlongX_54
        exact L_12 _ 0 _ _ _ (Nat.lt_succ_self _) (by omega) hm1 hS hl
  exact L_2 _ 0 _ _ _ (Nat.lt_succ_self _) (by omega) (by rw [Nat.zero_mul]; rfl) hS hl
theorem in_X2_mirroredAlongY_X2 : ∀ w ∈ wsX20, w ∈ wsX2_mirroredAlongY := by intro w h; unfold wsX2_mirroredAlongY; simp only [List.mem_cons, List.mem_append]; first | exact Or.inr (Or.inr h) | exact Or.inr (Or.inl (Or.inr h)) | exact Or.inr (Or.inl (Or.inl (Or.inr h))) | exact Or.inr (Or.inr (Or.inl h)) | exact Or.inr (Or.inr (Or.inr h))
set_option maxHeartbeats 4000000 in
set_option maxRecDepth 100000 in
/-- X2_mirroredAlongY -/
theorem c2_mirroredY (l : Launch) (dC : Nat → ClassId) (dI : Nat → Nat → Nat) (aP pT pR pN pB bP bF bL bH : Nat) (cD cI cQ : ClassId) (iw ih : Nat) (al ac de : UInt64) (nb : Nat) (tT tR tN : Nat → UInt64) (uP uF uL : Nat → Int32) (uH : Nat → UInt64) (hw6 : iw ≤ 6) (hh6 : ih ≤ 6) (T : Nat → ZD) (gT : zcr tT (iw * ih) T) : Met l yX2_mirroredAlongY wsX2_mirroredAlongY ({ frames := 1, cells := 0, slots := 0, locals := 22 } : Room) (va_Pc [.ref aP] (fun U => va_P (dC, dI) vwCl [(aP, .inr (2, [.int (nI iw), .int (nI ih), .ref pT, .ref pR, .ref pN, .ref pB, .double al, .double ac, .double de])), (pT, .inl (cD, (iw * ih), .inr (.inr (.inr (.inl tT))))), (pR, .inl (cD, (iw * ih), .inr (.inr (.inr (.inl tR))))), (pN, .inl (cD, (iw * ih), .inr (.inr (.inr (.inl tN))))), (pB, .inr (0, [.ref bP, .ref bF, .ref bL, .ref bH, .int (nI nb)])), (bP, .inl (cI, 12, .inl uP)), (bF, .inl (cI, 12, .inl uF)), (bL, .inl (cI, 12, .inl uL)), (bH, .inl (cD, 12, .inr (.inr (.inr (.inl uH)))))] U.heap ∧ va_K (dC, dI) vwCl [(cD, .double), (cI, .int), (cQ, .array .double)] U)) (va_Qi (fun (r : Int32) (_ : Unit) => r = zb (zmir iw ih T false (iw * ih))) (fun _ _ => True) (fun _ => False)) 0 0 (fun _ => False) := by
  refine Met.ofW (cc := cX2_mirroredAlongY) (maxL := 3) (ret := (some .boolean)) (by decide) rfl ?_
  intro p e s m args below meth c s₁ B hml hv
  obtain ⟨rfl, hP0, hK⟩ := hv
  have hx := B.exec
  have hb := B.bytes
  have hr := B.returns
  have hts := atoms_spec (ws := wsX2_mirroredAlongY) B.pre
  have hown : s.vm.findClass RX2 = some m.cls := findClass_of_methodNamed B.named
  have hlocks := B.notSynchronized
  have hS : va_S (fun _ => False) s.heap s.heap [] := va_S.rf
  have hP := hP0
  have hl := lv_entry ([.ref aP]) (n := 3) (Nat.le_of_ble_eq_true rfl)
  rw [lg_entry_eq]
  generalize (lg_sl ([.ref aP]) ++ List.replicate (3 - (lg_sl ([.ref aP])).length) Slot.unset).toArray = ls at hl ⊢
  have hl : lv_has ls 3 [(0, .ref aP)] := hl
  have hn36 : iw * ih ≤ 36 := Nat.mul_le_mul hw6 hh6
  refine lv_iconst (v := (nI 0)) hx hb dX2_mirroredAlongY_0 (by decide) ?_
  refine lv_istore_n (lv' := [(1, .int (nI 0)), (0, .ref aP)]) hx hb dX2_mirroredAlongY_1 rfl hl (by decide) rfl (fun ls hl => ?_)
  have L_2 : ∀ (n : Nat) (y : Nat) (H : Heap) (locs : List Loc) (ls : Array Slot), ih - y < n → (y ≤ ih) → (zmir iw ih T false (y * iw) = true) → va_S (fun _ => False) s.heap H locs → lv_has ls 3 [(1, .int (nI y)), (0, .ref aP)] → W p l e (headSpec wsX2_mirroredAlongY ({ frames := 1, cells := 0, slots := 0, locals := 22 } : Room)).room s m ([.ref aP] : List Value).toArray below meth c H locs 0 0 (MQ below (va_Qi (fun (r : Int32) (_ : Unit) => r = zb (zmir iw ih T false (iw * ih))) (fun _ _ => True) (fun _ => False)) ([.ref aP] : List Value).toArray s 0 0 (fun _ => False)) (F0 m 2 ls []) := by
    intro n
    induction n with
    | zero => intro y H locs ls hn; exact absurd hn (Nat.not_lt_zero _)
    | succ n ih_L_2 =>
      intro y H locs ls hn hyh hm1 hS hl
      have hP := zro hP0 hS
      refine lv_iload_n hx hb dX2_mirroredAlongY_2 rfl (lv_at hl 0 rfl) ?_
      refine lv_aload_n hx hb dX2_mirroredAlongY_3 rfl (lv_at hl 1 rfl) ?_
      refine va_get (D := (dC, dI)) (ci := 2) (v := .int (nI ih)) (C := RX2) (T := TX2) (N := 9) hx hb hts (in_X2_mirroredAlongY_X2) hown hK hP 0 rfl rfl 1 (by decide) (hts (.fieldLink RX2 15 "PlateModes$Plate" "height" "I") (by decide +kernel)) (fun _ h9 => h9) rfl dX2_mirroredAlongY_4 ?_
      refine z_icmp_ge (a := y) (b := ih) (tgt := 67) hx hb (by omega) (by omega) dX2_mirroredAlongY_7 (by decide) (fun c1 => ?_) (fun c2 => ?_)
      · skip
        refine lv_iconst (v := (nI 1)) hx hb dX2_mirroredAlongY_67 (by decide) ?_
        exact W.zret (v := (nI 1)) hx hb hr rfl (fun t ht hW => ⟨⟨(nI 1), (), rfl, ⟨by rw [show iw * ih = y * iw by rw [show y = ih by omega, Nat.mul_comm], hm1]; rfl, trivial⟩⟩, hS.F ht⟩) hS.2.2 dX2_mirroredAlongY_68
      · skip
        refine lv_iconst (v := (nI 0)) hx hb dX2_mirroredAlongY_10 (by decide) ?_
        refine lv_istore_n (lv' := [(2, .int (nI 0)), (1, .int (nI y)), (0, .ref aP)]) hx hb dX2_mirroredAlongY_11 rfl hl (by decide) rfl (fun ls hl => ?_)
        have L_12 : ∀ (n : Nat) (x : Nat) (H : Heap) (locs : List Loc) (ls : Array Slot), iw - x < n → (x ≤ iw) → (zmir iw ih T false (y * iw + x) = true) → va_S (fun _ => False) s.heap H locs → lv_has ls 3 [(2, .int (nI x)), (1, .int (nI y)), (0, .ref aP)] → W p l e (headSpec wsX2_mirroredAlongY ({ frames := 1, cells := 0, slots := 0, locals := 22 } : Room)).room s m ([.ref aP] : List Value).toArray below meth c H locs 0 0 (MQ below (va_Qi (fun (r : Int32) (_ : Unit) => r = zb (zmir iw ih T false (iw * ih))) (fun _ _ => True) (fun _ => False)) ([.ref aP] : List Value).toArray s 0 0 (fun _ => False)) (F0 m 12 ls []) := by
          intro n
          induction n with
          | zero => intro x H locs ls hn; exact absurd hn (Nat.not_lt_zero _)
          | succ n ih_L_12 =>
            intro x H locs ls hn hxw hm2 hS hl
            have hP := zro hP0 hS
            refine lv_iload_n hx hb dX2_mirroredAlongY_12 rfl (lv_at hl 0 rfl) ?_
            refine lv_aload_n hx hb dX2_mirroredAlongY_13 rfl (lv_at hl 2 rfl) ?_
            refine va_get (D := (dC, dI)) (ci := 2) (v := .int (nI iw)) (C := RX2) (T := TX2) (N := 9) hx hb hts (in_X2_mirroredAlongY_X2) hown hK hP 0 rfl rfl 0 (by decide) (hts (.fieldLink RX2 9 "PlateModes$Plate" "width" "I") (by decide +kernel)) (fun _ h9 => h9) rfl dX2_mirroredAlongY_14 ?_
            refine z_icmp_ge (a := x) (b := iw) (tgt := 61) hx hb (by omega) (by omega) dX2_mirroredAlongY_17 (by decide) (fun c3 => ?_) (fun c4 => ?_)
            · skip
              refine lv_iinc (v := nI (y + 1)) (lv' := [(1, .int (nI (y + 1))), (2, .int (nI x)), (0, .ref aP)]) hx hb dX2_mirroredAlongY_61 hl (k := 1) rfl (show nI y + nI 1 = _ from zi_add (by omega)) (by decide) rfl (fun ls hl => ?_)
              refine lv_goto (tgt := 2) hx hb dX2_mirroredAlongY_64 (by decide) ?_
              exact ih_L_2 (y + 1) _ _ _ (by omega) (by omega) (by rw [show (y + 1) * iw = y * iw + x by rw [← zrow_end]; omega]; exact hm2) hS (lv_sub hl [0, 2] rfl)
            · skip
              refine lv_aload_n hx hb dX2_mirroredAlongY_20 rfl (lv_at hl 2 rfl) ?_
              refine va_get (D := (dC, dI)) (ci := 2) (v := .ref pT) (C := RX2) (T := TX2) (N := 9) hx hb hts (in_X2_mirroredAlongY_X2) hown hK hP 0 rfl rfl 2 (by decide) (hts (.fieldLink RX2 18 "PlateModes$Plate" "thick" "[D") (by decide +kernel)) (fun _ h9 => h9) rfl dX2_mirroredAlongY_21 ?_
              refine lv_aload_n hx hb dX2_mirroredAlongY_24 rfl (lv_at hl 2 rfl) ?_
              refine lv_iload_n hx hb dX2_mirroredAlongY_25 rfl (lv_at hl 0 rfl) ?_
              refine lv_iload_n hx hb dX2_mirroredAlongY_26 rfl (lv_at hl 1 rfl) ?_
              have hPc := hP
              refine va_calli (va_runV (As := [.int (nI x), .int (nI y)]) (rest := [.ref pT]) ⟨hx, hb, hml, hown, hts⟩ (c2_cellAt l dC dI aP pT pR pN pB bP bF bL bH cD cI cQ iw ih al ac de nb tT tR tN uP uF uL uH x y) (cwV 2 hts gX2_mirroredAlongY_X2_cellAt rfl rfl rfl (by decide +kernel) ⟨Nat.le_of_ble_eq_true rfl, Nat.le_of_ble_eq_true rfl⟩) ⟨zfb, va_recv hK hP (ci := 2) (q0 := 0) rfl rfl, zpre hPc hK⟩ rfl rfl hl.1 rfl (lv_room (Nat.le_of_ble_eq_true rfl)) dX2_mirroredAlongY_27 ⟨Nat.le_of_ble_eq_true rfl, Nat.le_of_ble_eq_true rfl⟩) hS (fun q _ h => h.elim) (fun q h => h.elim) (fun r5 u9 t9 H locs ht9 hvm9 hr5 hB9 hz9 hk1 hS => ?_)
              have hP := zro1 hP hk1
              subst hr5
              refine z_dald (n := (iw * ih)) (i := y * iw + x) hx hb hK hP 1 0 rfl rfl (zrow (x := x) (y := y) (by omega) (by omega)) (by omega) dX2_mirroredAlongY_30 ?_
              refine lv_aload_n hx hb dX2_mirroredAlongY_31 rfl (lv_at hl 2 rfl) ?_
              refine va_get (D := (dC, dI)) (ci := 2) (v := .ref pT) (C := RX2) (T := TX2) (N := 9) hx hb hts (in_X2_mirroredAlongY_X2) hown hK hP 0 rfl rfl 2 (by decide) (hts (.fieldLink RX2 18 "PlateModes$Plate" "thick" "[D") (by decide +kernel)) (fun _ h9 => h9) rfl dX2_mirroredAlongY_32 ?_
              refine lv_aload_n hx hb dX2_mirroredAlongY_35 rfl (lv_at hl 2 rfl) ?_
              refine lv_iload_n hx hb dX2_mirroredAlongY_36 rfl (lv_at hl 0 rfl) ?_
              refine lv_aload_n hx hb dX2_mirroredAlongY_37 rfl (lv_at hl 2 rfl) ?_
              refine va_get (D := (dC, dI)) (ci := 2) (v := .int (nI ih)) (C := RX2) (T := TX2) (N := 9) hx hb hts (in_X2_mirroredAlongY_X2) hown hK hP 0 rfl rfl 1 (by decide) (hts (.fieldLink RX2 15 "PlateModes$Plate" "height" "I") (by decide +kernel)) (fun _ h9 => h9) rfl dX2_mirroredAlongY_38 ?_
              refine lv_iconst (v := (nI 1)) hx hb dX2_mirroredAlongY_41 (by decide) ?_
              refine t_isub hx hb dX2_mirroredAlongY_42 (v := nI (ih - 1)) (zi_sub (by omega) (by omega)) ?_
              refine lv_iload_n hx hb dX2_mirroredAlongY_43 rfl (lv_at hl 1 rfl) ?_
              refine t_isub hx hb dX2_mirroredAlongY_44 (v := nI (ih - y - 1)) (zi_sub (by omega) (by omega)) ?_
              have hPc := hP
              refine va_calli (va_runV (As := [.int (nI x), .int (nI (ih - y - 1))]) (rest := [.ref pT, .double (tT (y * iw + x))]) ⟨hx, hb, hml, hown, hts⟩ (c2_cellAt l dC dI aP pT pR pN pB bP bF bL bH cD cI cQ iw ih al ac de nb tT tR tN uP uF uL uH x (ih - y - 1)) (cwV 2 hts gX2_mirroredAlongY_X2_cellAt rfl rfl rfl (by decide +kernel) ⟨Nat.le_of_ble_eq_true rfl, Nat.le_of_ble_eq_true rfl⟩) ⟨zfb, va_recv hK hP (ci := 2) (q0 := 0) rfl rfl, zpre hPc hK⟩ rfl rfl hl.1 rfl (lv_room (Nat.le_of_ble_eq_true rfl)) dX2_mirroredAlongY_45 ⟨Nat.le_of_ble_eq_true rfl, Nat.le_of_ble_eq_true rfl⟩) hS (fun q _ h => h.elim) (fun q h => h.elim) (fun r6 u9 t9 H locs ht9 hvm9 hr6 hB9 hz9 hk1 hS => ?_)
              have hP := zro1 hP hk1
              subst hr6
              refine z_dald (n := (iw * ih)) (i := ((ih - y - 1) * iw + x)) hx hb hK hP 1 0 rfl rfl (zrow (x := x) (y := ih - y - 1) (by omega) (by omega)) (by omega) dX2_mirroredAlongY_48 ?_
              refine z_cmp_l_eq (tgt := 55) hx hb (a := T (y * iw + x)) (b := T ((ih - y - 1) * iw + x)) (gT _ (zrow (x := x) (y := y) (by omega) (by omega))) (gT _ (zrow (x := x) (y := ih - y - 1) (by omega) (by omega))) dX2_mirroredAlongY_49 dX2_mirroredAlongY_50 (by decide) (fun c7 => ?_) (fun c8 => ?_)
              · skip
                have ce := c7
                refine lv_iinc (v := nI (x + 1)) (lv' := [(2, .int (nI (x + 1))), (1, .int (nI y)), (0, .ref aP)]) hx hb dX2_mirroredAlongY_55 hl (k := 0) rfl (show nI x + nI 1 = _ from zi_add (by omega)) (by decide) rfl (fun ls hl => ?_)
                refine lv_goto (tgt := 12) hx hb dX2_mirroredAlongY_58 (by decide) ?_
                exact ih_L_12 (x + 1) _ _ _ (by omega) (by omega) ((zmir_s (by omega)).trans (by rw [hm2]; exact ce)) hS hl
              · skip
                have ce := c8
                refine lv_iconst (v := (nI 0)) hx hb dX2_mirroredAlongY_53 (by decide) ?_
                exact W.zret (v := (nI 0)) hx hb hr rfl (fun t ht hW => ⟨⟨(nI 0), (), rfl, ⟨by rw [zmir_g (by omega) (by omega) hm2 ce]; rfl, trivial⟩⟩, hS.F ht⟩) hS.2.2 dX2_mirroredAlongY_54
        exact L_12 _ 0 _ _ _ (Nat.lt_succ_self _) (by omega) hm1 hS hl
  exact L_2 _ 0 _ _ _ (Nat.lt_succ_self _) (by omega) (by rw [Nat.zero_mul]; rfl) hS hl
theorem in_X2_springOf_X2 : ∀ w ∈ wsX20, w ∈ wsX2_springOf := by intro w h; unfold wsX2_springOf; simp only [List.mem_cons, List.mem_append]; first | exact Or.inr (Or.inr h) | exact Or.inr (Or.inl (Or.inr h)) | exact Or.inr (Or.inl (Or.inl (Or.inr h))) | exact Or.inr (Or.inr (Or.inl h)) | exact Or.inr (Or.inr (Or.inr h))
set_option maxHeartbeats 4000000 in
set_option maxRecDepth 100000 in
/-- springOf -/
theorem c2_springOf (l : Launch) (dC : Nat → ClassId) (dI : Nat → Nat → Nat) (aP pT pR pN pB bP bF bL bH : Nat) (cD cI cQ : ClassId) (iw ih : Nat) (al ac de : UInt64) (nb : Nat) (tT tR tN : Nat → UInt64) (uP uF uL : Nat → Int32) (uH : Nat → UInt64) (hw6 : iw ≤ 6) (hh6 : ih ≤ 6) (T : Nat → ZD) (gT : zcr tT (iw * ih) T) (ra : UInt64) (k j : Nat) (hk : k < iw * ih) (hj : j < iw * ih) : MetD lw_cs l yX2_springOf wsX2_springOf ({ frames := 1, cells := 0, slots := 0, locals := 21 } : Room) (va_Pc [.ref aP, .double ra, .int (nI k), .int (nI j)] (fun U => va_P (dC, dI) vwCl [(aP, .inr (2, [.int (nI iw), .int (nI ih), .ref pT, .ref pR, .ref pN, .ref pB, .double al, .double ac, .double de])), (pT, .inl (cD, (iw * ih), .inr (.inr (.inr (.inl tT))))), (pR, .inl (cD, (iw * ih), .inr (.inr (.inr (.inl tR))))), (pN, .inl (cD, (iw * ih), .inr (.inr (.inr (.inl tN))))), (pB, .inr (0, [.ref bP, .ref bF, .ref bL, .ref bH, .int (nI nb)])), (bP, .inl (cI, 12, .inl uP)), (bF, .inl (cI, 12, .inl uF)), (bL, .inl (cI, 12, .inl uL)), (bH, .inl (cD, 12, .inr (.inr (.inr (.inl uH)))))] U.heap ∧ va_K (dC, dI) vwCl [(cD, .double), (cI, .int), (cQ, .array .double)] U)) (va_Qd (fun (r : UInt64) (_ : Unit) => zv r = if zgt (T k) z0 = true ∧ zgt (T j) z0 = true then zspring (zv ra) (T k) (T j) else z0) (fun _ _ => True) (fun _ => False)) 0 0 (fun _ => False) := by
  refine MetD.ofW (cc := cX2_springOf) (maxL := 7) (ret := (some .double)) (by decide) rfl ?_
  intro p e s m args below meth c s₁ B hml hv hd0
  obtain ⟨rfl, hP0, hK⟩ := hv
  have hx := B.exec
  have hb := B.bytes
  have hr := B.returns
  have hts := atoms_spec (ws := wsX2_springOf) B.pre
  have hown : s.vm.findClass RX2 = some m.cls := findClass_of_methodNamed B.named
  have hlocks := B.notSynchronized
  have hS : va_S (fun _ => False) s.heap s.heap [] := va_S.rf
  have hP := hP0
  have hl := lv_entry ([.ref aP, .double ra, .int (nI k), .int (nI j)]) (n := 7) (Nat.le_of_ble_eq_true rfl)
  rw [lg_entry_eq]
  generalize (lg_sl ([.ref aP, .double ra, .int (nI k), .int (nI j)]) ++ List.replicate (7 - (lg_sl ([.ref aP, .double ra, .int (nI k), .int (nI j)])).length) Slot.unset).toArray = ls at hl ⊢
  have hl : lv_has ls 7 [(0, .ref aP), (1, .double ra), (3, .int (nI k)), (4, .int (nI j))] := hl
  have hn36 : iw * ih ≤ 36 := Nat.mul_le_mul hw6 hh6
  refine lv_aload_n hx hb dX2_springOf_0 rfl (lv_at hl 0 rfl) ?_
  refine lv_iload_n hx hb dX2_springOf_1 rfl (lv_at hl 2 rfl) ?_
  have hPc := hP
  refine va_calli (va_runV (As := [.int (nI k)]) (rest := []) ⟨hx, hb, hml, hown, (dr_words hts s.drawn)⟩ (c2_hasWood l dC dI aP pT pR pN pB bP bF bL bH cD cI cQ iw ih al ac de nb tT tR tN uP uF uL uH hw6 hh6 k hk) (cwV 1 (dr_words hts s.drawn) gX2_springOf_X2_hasWood rfl rfl rfl (by decide +kernel) ⟨Nat.le_of_ble_eq_true rfl, Nat.le_of_ble_eq_true rfl⟩) ⟨zfb, va_recv hK hP (ci := 2) (q0 := 0) rfl rfl, zpre hPc hK⟩ rfl rfl hl.1 rfl (lv_room (Nat.le_of_ble_eq_true rfl)) dX2_springOf_2 ⟨Nat.le_of_ble_eq_true rfl, Nat.le_of_ble_eq_true rfl⟩) hS (fun q _ h => h.elim) (fun q h => h.elim) (fun r1 u9 t9 H locs ht9 hvm9 hr1 hB9 hz9 hk1 hS => ?_)
  have hP := zro1 hP hk1
  have hr1 : r1 = zb (zgt (T k) z0) := by rw [hr1, show zv (tT k) = T k from gT _ hk]
  subst hr1
  refine z_if_eq_b (tgt := 17) hx hb dX2_springOf_5 (by decide) (fun c2 => ?_) (fun c3 => ?_)
  · skip
    have cw := c2
    refine lv_dconst0 hx hb dX2_springOf_17 ?_
    refine W.endD hd0 ?_
    exact W.dret (v := FP.dconst0) hx hb hr (fun t ht hW => ⟨⟨FP.dconst0, (), rfl, ⟨(if_neg (fun hh => by first | (rw [cw] at hh; exact absurd hh.1 (by decide)) | (rw [cw2] at hh; exact absurd hh.2 (by decide)))).symm, trivial⟩⟩, hS.F ht⟩) hS.2.2 dX2_springOf_18
  · skip
    have cw := c3
    refine lv_aload_n hx hb dX2_springOf_8 rfl (lv_at hl 0 rfl) ?_
    refine lv_iload hx hb dX2_springOf_9 (lv_at hl 3 rfl) ?_
    have hPc := hP
    refine va_calli (va_runV (As := [.int (nI j)]) (rest := []) ⟨hx, hb, hml, hown, (dr_words hts s.drawn)⟩ (c2_hasWood l dC dI aP pT pR pN pB bP bF bL bH cD cI cQ iw ih al ac de nb tT tR tN uP uF uL uH hw6 hh6 j hj) (cwV 1 (dr_words hts s.drawn) gX2_springOf_X2_hasWood rfl rfl rfl (by decide +kernel) ⟨Nat.le_of_ble_eq_true rfl, Nat.le_of_ble_eq_true rfl⟩) ⟨zfb, va_recv hK hP (ci := 2) (q0 := 0) rfl rfl, zpre hPc hK⟩ rfl rfl hl.1 rfl (lv_room (Nat.le_of_ble_eq_true rfl)) dX2_springOf_11 ⟨Nat.le_of_ble_eq_true rfl, Nat.le_of_ble_eq_true rfl⟩) hS (fun q _ h => h.elim) (fun q h => h.elim) (fun r4 u9 t9 H locs ht9 hvm9 hr4 hB9 hz9 hk1 hS => ?_)
    have hP := zro1 hP hk1
    have hr4 : r4 = zb (zgt (T j) z0) := by rw [hr4, show zv (tT j) = T j from gT _ hj]
    subst hr4
    refine z_if_ne_b (tgt := 19) hx hb dX2_springOf_14 (by decide) (fun c5 => ?_) (fun c6 => ?_)
    · skip
      have cw2 := c5
      refine lv_aload_n hx hb dX2_springOf_19 rfl (lv_at hl 0 rfl) ?_
      refine va_get (D := (dC, dI)) (ci := 2) (v := .ref pT) (C := RX2) (T := TX2) (N := 9) hx hb (dr_words hts s.drawn) (in_X2_springOf_X2) hown hK hP 0 rfl rfl 2 (by decide) (dr_words hts s.drawn (.fieldLink RX2 18 "PlateModes$Plate" "thick" "[D") (by decide +kernel)) (fun _ h9 => h9) rfl dX2_springOf_20 ?_
      refine lv_iload_n hx hb dX2_springOf_23 rfl (lv_at hl 2 rfl) ?_
      refine z_dald (s := s.setDrawn s.drawn) (n := (iw * ih)) (i := k) hx hb hK hP 1 0 rfl rfl hk (by omega) dX2_springOf_24 ?_
      refine lv_aload_n hx hb dX2_springOf_25 rfl (lv_at hl 0 rfl) ?_
      refine va_get (D := (dC, dI)) (ci := 2) (v := .ref pT) (C := RX2) (T := TX2) (N := 9) hx hb (dr_words hts s.drawn) (in_X2_springOf_X2) hown hK hP 0 rfl rfl 2 (by decide) (dr_words hts s.drawn (.fieldLink RX2 18 "PlateModes$Plate" "thick" "[D") (by decide +kernel)) (fun _ h9 => h9) rfl dX2_springOf_26 ?_
      refine lv_iload hx hb dX2_springOf_29 (lv_at hl 3 rfl) ?_
      refine z_dald (s := s.setDrawn s.drawn) (n := (iw * ih)) (i := j) hx hb hK hP 1 0 rfl rfl hj (by omega) dX2_springOf_31 ?_
      refine zr_dadd hd0 hx hb (a := T k) (b := T j) (gT _ hk) (gT _ hj) dX2_springOf_32 (fun r7 d8 hr7 hd8 => ?_)
      refine lv_ldc2d (v := 4611686018427387904) hx hb hown (dr_words hts d8 (.constantDouble RX2 77 (4611686018427387904)) (by decide +kernel)) dX2_springOf_33 ?_
      refine zr_ddiv hd8 hx hb (a := zA (T k) (T j)) (b := zv 4611686018427387904) hr7 rfl dX2_springOf_36 (fun r9 d10 hr9 hd10 => ?_)
      refine lv_dstore (lv' := [(5, .double r9), (0, .ref aP), (1, .double ra), (3, .int (nI k)), (4, .int (nI j))]) hx hb dX2_springOf_37 hl (by decide) rfl (fun ls hl => ?_)
      refine lv_dload_n hx hb dX2_springOf_39 rfl (lv_at hl 2 rfl) ?_
      refine lv_dload hx hb dX2_springOf_40 (lv_at hl 0 rfl) ?_
      refine zr_dmul hd10 hx hb (a := zv ra) (b := zQ (zA (T k) (T j)) (zv 4611686018427387904)) rfl hr9 dX2_springOf_42 (fun r11 d12 hr11 hd12 => ?_)
      refine lv_dload hx hb dX2_springOf_43 (lv_at hl 0 rfl) ?_
      refine zr_dmul hd12 hx hb (a := zM (zv ra) (zQ (zA (T k) (T j)) (zv 4611686018427387904))) (b := zQ (zA (T k) (T j)) (zv 4611686018427387904)) hr11 hr9 dX2_springOf_45 (fun r13 d14 hr13 hd14 => ?_)
      refine lv_dload hx hb dX2_springOf_46 (lv_at hl 0 rfl) ?_
      refine zr_dmul hd14 hx hb (a := zM (zM (zv ra) (zQ (zA (T k) (T j)) (zv 4611686018427387904))) (zQ (zA (T k) (T j)) (zv 4611686018427387904))) (b := zQ (zA (T k) (T j)) (zv 4611686018427387904)) hr13 hr9 dX2_springOf_48 (fun r15 d16 hr15 hd16 => ?_)
      refine W.endD hd16 ?_
      exact W.dret (v := r15) hx hb hr (fun t ht hW => ⟨⟨r15, (), rfl, ⟨(hr15).trans (if_pos ⟨cw, cw2⟩).symm, trivial⟩⟩, hS.F ht⟩) hS.2.2 dX2_springOf_49
    · skip
      have cw2 := c6
      refine lv_dconst0 hx hb dX2_springOf_17 ?_
      refine W.endD hd0 ?_
      exact W.dret (v := FP.dconst0) hx hb hr (fun t ht hW => ⟨⟨FP.dconst0, (), rfl, ⟨(if_neg (fun hh => by first | (rw [cw] at hh; exact absurd hh.1 (by decide)) | (rw [cw2] at hh; exact absurd hh.2 (by decide)))).symm, trivial⟩⟩, hS.F ht⟩) hS.2.2 dX2_springOf_18
theorem in_X2_stiffenBy_X2 : ∀ w ∈ wsX20, w ∈ wsX2_stiffenBy := by intro w h; unfold wsX2_stiffenBy; simp only [List.mem_cons, List.mem_append]; first | exact Or.inr (Or.inr h) | exact Or.inr (Or.inl (Or.inr h)) | exact Or.inr (Or.inl (Or.inl (Or.inr h))) | exact Or.inr (Or.inr (Or.inl h)) | exact Or.inr (Or.inr (Or.inr h))
set_option maxHeartbeats 4000000 in
set_option maxRecDepth 100000 in
/-- stiffenBy, along x -/
theorem c2_stiffenX (l : Launch) (dC : Nat → ClassId) (dI : Nat → Nat → Nat) (aP pT pR pN pB bP bF bL bH : Nat) (cD cI cQ : ClassId) (iw ih : Nat) (al ac de : UInt64) (nb : Nat) (tT tR tN : Nat → UInt64) (uP uF uL : Nat → Int32) (uH : Nat → UInt64) (hw6 : iw ≤ 6) (hh6 : ih ≤ 6) (T : Nat → ZD) (gT : zcr tT (iw * ih) T) (k : Nat) (hk : k < 12) (x0 y0 ns : Nat) (hx0 : x0 + ns < iw) (hy0 : y0 < ih) (hcp : uP k = nI 1) (hcf : uF k = nI (y0 * iw + (x0 + 0))) (hcl : uL k = nI (y0 * iw + (x0 + ns))) (R : Nat → ZD) (gR : zcr tR (iw * ih) R) (sz : Nat) : MetD lw_cs l yX2_stiffenBy wsX2_stiffenBy ({ frames := 1, cells := 0, slots := 0, locals := 21 } : Room) (va_Pc [.ref aP, .int (nI k)] (fun U => U.heap.size = sz ∧ va_P (dC, dI) vwCl [(aP, .inr (2, [.int (nI iw), .int (nI ih), .ref pT, .ref pR, .ref pN, .ref pB, .double al, .double ac, .double de])), (pT, .inl (cD, (iw * ih), .inr (.inr (.inr (.inl tT))))), (pR, .inl (cD, (iw * ih), .inr (.inr (.inr (.inl tR))))), (pN, .inl (cD, (iw * ih), .inr (.inr (.inr (.inl tN))))), (pB, .inr (0, [.ref bP, .ref bF, .ref bL, .ref bH, .int (nI nb)])), (bP, .inl (cI, 12, .inl uP)), (bF, .inl (cI, 12, .inl uF)), (bL, .inl (cI, 12, .inl uL)), (bH, .inl (cD, 12, .inr (.inr (.inr (.inl uH)))))] U.heap ∧ va_K (dC, dI) vwCl [(cD, .double), (cI, .int), (cQ, .array .double)] U ∧ va_D (fun _ => True) [(aP, .inr (2, [.int (nI iw), .int (nI ih), .ref pT, .ref pR, .ref pN, .ref pB, .double al, .double ac, .double de])), (pT, .inl (cD, (iw * ih), .inr (.inr (.inr (.inl tT))))), (pR, .inl (cD, (iw * ih), .inr (.inr (.inr (.inl tR))))), (pN, .inl (cD, (iw * ih), .inr (.inr (.inr (.inl tN))))), (pB, .inr (0, [.ref bP, .ref bF, .ref bL, .ref bH, .int (nI nb)])), (bP, .inl (cI, 12, .inl uP)), (bF, .inl (cI, 12, .inl uF)), (bL, .inl (cI, 12, .inl uL)), (bH, .inl (cD, 12, .inr (.inr (.inr (.inl uH)))))])) (va_Qv (fun u : Nat → UInt64 => zcr u (iw * ih) (zfold (zbRF iw T x0 y0 (zv (uH k))) ns R)) (fun u t => (va_P (dC, dI) vwCl [(aP, .inr (2, [.int (nI iw), .int (nI ih), .ref pT, .ref pR, .ref pN, .ref pB, .double al, .double ac, .double de])), (pT, .inl (cD, (iw * ih), .inr (.inr (.inr (.inl tT))))), (pR, .inl (cD, (iw * ih), .inr (.inr (.inr (.inl u))))), (pN, .inl (cD, (iw * ih), .inr (.inr (.inr (.inl tN))))), (pB, .inr (0, [.ref bP, .ref bF, .ref bL, .ref bH, .int (nI nb)])), (bP, .inl (cI, 12, .inl uP)), (bF, .inl (cI, 12, .inl uF)), (bL, .inl (cI, 12, .inl uL)), (bH, .inl (cD, 12, .inr (.inr (.inr (.inl uH)))))] t.heap ∧ va_K (dC, dI) vwCl [(cD, .double), (cI, .int), (cQ, .array .double)] t ∧ va_D (va_A [(aP, .inr (2, [.int (nI iw), .int (nI ih), .ref pT, .ref pR, .ref pN, .ref pB, .double al, .double ac, .double de])), (pT, .inl (cD, (iw * ih), .inr (.inr (.inr (.inl tT))))), (pR, .inl (cD, (iw * ih), .inr (.inr (.inr (.inl tR))))), (pN, .inl (cD, (iw * ih), .inr (.inr (.inr (.inl tN))))), (pB, .inr (0, [.ref bP, .ref bF, .ref bL, .ref bH, .int (nI nb)])), (bP, .inl (cI, 12, .inl uP)), (bF, .inl (cI, 12, .inl uF)), (bL, .inl (cI, 12, .inl uL)), (bH, .inl (cD, 12, .inr (.inr (.inr (.inl uH)))))] sz) [(aP, .inr (2, [.int (nI iw), .int (nI ih), .ref pT, .ref pR, .ref pN, .ref pB, .double al, .double ac, .double de])), (pT, .inl (cD, (iw * ih), .inr (.inr (.inr (.inl tT))))), (pR, .inl (cD, (iw * ih), .inr (.inr (.inr (.inl u))))), (pN, .inl (cD, (iw * ih), .inr (.inr (.inr (.inl tN))))), (pB, .inr (0, [.ref bP, .ref bF, .ref bL, .ref bH, .int (nI nb)])), (bP, .inl (cI, 12, .inl uP)), (bF, .inl (cI, 12, .inl uF)), (bL, .inl (cI, 12, .inl uL)), (bH, .inl (cD, 12, .inr (.inr (.inr (.inl uH)))))])) (va_A [(aP, .inr (2, [.int (nI iw), .int (nI ih), .ref pT, .ref pR, .ref pN, .ref pB, .double al, .double ac, .double de])), (pT, .inl (cD, (iw * ih), .inr (.inr (.inr (.inl tT))))), (pR, .inl (cD, (iw * ih), .inr (.inr (.inr (.inl tR))))), (pN, .inl (cD, (iw * ih), .inr (.inr (.inr (.inl tN))))), (pB, .inr (0, [.ref bP, .ref bF, .ref bL, .ref bH, .int (nI nb)])), (bP, .inl (cI, 12, .inl uP)), (bF, .inl (cI, 12, .inl uF)), (bL, .inl (cI, 12, .inl uL)), (bH, .inl (cD, 12, .inr (.inr (.inr (.inl uH)))))] sz)) 0 0 (va_A [(aP, .inr (2, [.int (nI iw), .int (nI ih), .ref pT, .ref pR, .ref pN, .ref pB, .double al, .double ac, .double de])), (pT, .inl (cD, (iw * ih), .inr (.inr (.inr (.inl tT))))), (pR, .inl (cD, (iw * ih), .inr (.inr (.inr (.inl tR))))), (pN, .inl (cD, (iw * ih), .inr (.inr (.inr (.inl tN))))), (pB, .inr (0, [.ref bP, .ref bF, .ref bL, .ref bH, .int (nI nb)])), (bP, .inl (cI, 12, .inl uP)), (bF, .inl (cI, 12, .inl uF)), (bL, .inl (cI, 12, .inl uL)), (bH, .inl (cD, 12, .inr (.inr (.inr (.inl uH)))))] sz) := by
  refine MetD.ofW (cc := cX2_stiffenBy) (maxL := 9) (ret := none) (by decide) rfl ?_
  intro p e s m args below meth c s₁ B hml hv hd0
  obtain ⟨rfl, hsz, hP, hK, hD0⟩ := hv
  have hx := B.exec
  have hb := B.bytes
  have hr := B.returns
  have hts := atoms_spec (ws := wsX2_stiffenBy) B.pre
  have hown : s.vm.findClass RX2 = some m.cls := findClass_of_methodNamed B.named
  have hlocks := B.notSynchronized
  subst hsz
  have hD := hD0.self (sz := s.heap.size)
  generalize hAe : va_A [(aP, .inr (2, [.int (nI iw), .int (nI ih), .ref pT, .ref pR, .ref pN, .ref pB, .double al, .double ac, .double de])), (pT, .inl (cD, (iw * ih), .inr (.inr (.inr (.inl tT))))), (pR, .inl (cD, (iw * ih), .inr (.inr (.inr (.inl tR))))), (pN, .inl (cD, (iw * ih), .inr (.inr (.inr (.inl tN))))), (pB, .inr (0, [.ref bP, .ref bF, .ref bL, .ref bH, .int (nI nb)])), (bP, .inl (cI, 12, .inl uP)), (bF, .inl (cI, 12, .inl uF)), (bL, .inl (cI, 12, .inl uL)), (bH, .inl (cD, 12, .inr (.inr (.inr (.inl uH)))))] s.heap.size = A at hD ⊢
  have hA : ∀ q : Nat, s.heap.size ≤ q → A q := fun q h => by rw [← hAe]; exact Or.inr h
  have hS : va_S A s.heap s.heap [] := va_S.rf
  have hl := lv_entry ([.ref aP, .int (nI k)]) (n := 9) (Nat.le_of_ble_eq_true rfl)
  rw [lg_entry_eq]
  generalize (lg_sl ([.ref aP, .int (nI k)]) ++ List.replicate (9 - (lg_sl ([.ref aP, .int (nI k)])).length) Slot.unset).toArray = ls at hl ⊢
  have hl : lv_has ls 9 [(0, .ref aP), (1, .int (nI k))] := hl
  have hn36 : iw * ih ≤ 36 := Nat.mul_le_mul hw6 hh6
  have hlast := zrow (x := x0 + ns) (y := y0) (w := iw) (h := ih) (by omega) (by omega)
  refine lv_aload_n hx hb dX2_stiffenBy_0 rfl (lv_at hl 0 rfl) ?_
  refine va_get (D := (dC, dI)) (ci := 2) (v := .ref pB) (C := RX2) (T := TX2) (N := 9) hx hb (dr_words hts s.drawn) (in_X2_stiffenBy_X2) hown hK hP 0 rfl rfl 5 (by decide) (dr_words hts s.drawn (.fieldLink RX2 31 "PlateModes$Plate" "braces" "LPlateModes$Braces;") (by decide +kernel)) (fun _ h9 => h9) rfl dX2_stiffenBy_1 ?_
  refine lv_iload_n hx hb dX2_stiffenBy_4 rfl (lv_at hl 1 rfl) ?_
  have hPc := hP.sub (ws' := [(pB, .inr (0, [.ref bP, .ref bF, .ref bL, .ref bH, .int (nI nb)])), (bP, .inl (cI, 12, .inl uP)), (bF, .inl (cI, 12, .inl uF)), (bL, .inl (cI, 12, .inl uL)), (bH, .inl (cD, 12, .inr (.inr (.inr (.inl uH)))))]) [4, 5, 6, 7, 8] rfl
  refine va_calli (va_runV (As := [.int (nI k)]) (rest := []) ⟨hx, hb, hml, hown, (dr_words hts s.drawn)⟩ (c0_paceOf l dC dI pB bP bF bL bH cD cI cQ nb uP uF uL uH k (by omega)) (cwV 1 (dr_words hts s.drawn) gX2_stiffenBy_X0_paceOf rfl rfl rfl (by decide +kernel) ⟨Nat.le_of_ble_eq_true rfl, Nat.le_of_ble_eq_true rfl⟩) ⟨zfb, va_recv hK hP (ci := 0) (q0 := 4) rfl rfl, zpre hPc hK⟩ rfl rfl hl.1 rfl (lv_room (Nat.le_of_ble_eq_true rfl)) dX2_stiffenBy_5 ⟨Nat.le_of_ble_eq_true rfl, Nat.le_of_ble_eq_true rfl⟩) hS (fun q _ h => h.elim) (fun q h => h.elim) (fun r1 u9 t9 H locs ht9 hvm9 hr1 hB9 hz9 hk1 hS => ?_)
  have hP := zro1 hP hk1
  subst hr1
  rw [hcp]
  refine lv_istore_n (lv' := [(2, .int (nI 1)), (0, .ref aP), (1, .int (nI k))]) hx hb dX2_stiffenBy_8 rfl hl (by decide) rfl (fun ls hl => ?_)
  refine lv_iload_n hx hb dX2_stiffenBy_9 rfl (lv_at hl 0 rfl) ?_
  refine lv_iconst (v := (nI 1)) hx hb dX2_stiffenBy_10 (by decide) ?_
  refine z_icmp_ne (a := 1) (b := 1) (tgt := 21) hx hb (by omega) (by omega) dX2_stiffenBy_11 (by decide) (fun c2 => ?_) (fun c3 => ?_)
  · skip
    exact absurd c2 (by decide)
  · skip
    refine lv_aload_n hx hb dX2_stiffenBy_14 rfl (lv_at hl 1 rfl) ?_
    refine va_get (D := (dC, dI)) (ci := 2) (v := .ref pR) (C := RX2) (T := TX2) (N := 9) hx hb (dr_words hts s.drawn) (in_X2_stiffenBy_X2) hown hK hP 0 rfl rfl 3 (by decide) (dr_words hts s.drawn (.fieldLink RX2 22 "PlateModes$Plate" "toRight" "[D") (by decide +kernel)) (fun _ h9 => h9) rfl dX2_stiffenBy_15 ?_
    refine lv_goto (tgt := 25) hx hb dX2_stiffenBy_18 (by decide) ?_
    refine lv_astore_n (lv' := [(3, .ref pR), (2, .int (nI 1)), (0, .ref aP), (1, .int (nI k))]) hx hb dX2_stiffenBy_25 rfl hl (by decide) rfl (fun ls hl => ?_)
    refine lv_aload_n hx hb dX2_stiffenBy_26 rfl (lv_at hl 2 rfl) ?_
    refine va_get (D := (dC, dI)) (ci := 2) (v := .ref pB) (C := RX2) (T := TX2) (N := 9) hx hb (dr_words hts s.drawn) (in_X2_stiffenBy_X2) hown hK hP 0 rfl rfl 5 (by decide) (dr_words hts s.drawn (.fieldLink RX2 31 "PlateModes$Plate" "braces" "LPlateModes$Braces;") (by decide +kernel)) (fun _ h9 => h9) rfl dX2_stiffenBy_27 ?_
    refine lv_iload_n hx hb dX2_stiffenBy_30 rfl (lv_at hl 3 rfl) ?_
    have hPc := hP.sub (ws' := [(pB, .inr (0, [.ref bP, .ref bF, .ref bL, .ref bH, .int (nI nb)])), (bP, .inl (cI, 12, .inl uP)), (bF, .inl (cI, 12, .inl uF)), (bL, .inl (cI, 12, .inl uL)), (bH, .inl (cD, 12, .inr (.inr (.inr (.inl uH)))))]) [4, 5, 6, 7, 8] rfl
    refine va_calld (va_runV (As := [.int (nI k)]) (rest := []) ⟨hx, hb, hml, hown, (dr_words hts s.drawn)⟩ (c0_heightOf l dC dI pB bP bF bL bH cD cI cQ nb uP uF uL uH k hk) (cwV 1 (dr_words hts s.drawn) gX2_stiffenBy_X0_heightOf rfl rfl rfl (by decide +kernel) ⟨Nat.le_of_ble_eq_true rfl, Nat.le_of_ble_eq_true rfl⟩) ⟨zfb, va_recv hK hP (ci := 0) (q0 := 4) rfl rfl, zpre hPc hK⟩ rfl rfl hl.1 rfl (lv_room (Nat.le_of_ble_eq_true rfl)) dX2_stiffenBy_31 ⟨Nat.le_of_ble_eq_true rfl, Nat.le_of_ble_eq_true rfl⟩) hS (fun q _ h => h.elim) (fun q h => h.elim) (fun r4 u9 t9 H locs ht9 hvm9 hr4 hB9 hz9 hk1 hS => ?_)
    have hP := zro1 hP hk1
    subst hr4
    refine lv_dstore (lv' := [(4, .double (uH k)), (3, .ref pR), (2, .int (nI 1)), (0, .ref aP), (1, .int (nI k))]) hx hb dX2_stiffenBy_34 hl (by decide) rfl (fun ls hl => ?_)
    refine lv_aload_n hx hb dX2_stiffenBy_36 rfl (lv_at hl 3 rfl) ?_
    refine va_get (D := (dC, dI)) (ci := 2) (v := .ref pB) (C := RX2) (T := TX2) (N := 9) hx hb (dr_words hts s.drawn) (in_X2_stiffenBy_X2) hown hK hP 0 rfl rfl 5 (by decide) (dr_words hts s.drawn (.fieldLink RX2 31 "PlateModes$Plate" "braces" "LPlateModes$Braces;") (by decide +kernel)) (fun _ h9 => h9) rfl dX2_stiffenBy_37 ?_
    refine lv_iload_n hx hb dX2_stiffenBy_40 rfl (lv_at hl 4 rfl) ?_
    have hPc := hP.sub (ws' := [(pB, .inr (0, [.ref bP, .ref bF, .ref bL, .ref bH, .int (nI nb)])), (bP, .inl (cI, 12, .inl uP)), (bF, .inl (cI, 12, .inl uF)), (bL, .inl (cI, 12, .inl uL)), (bH, .inl (cD, 12, .inr (.inr (.inr (.inl uH)))))]) [4, 5, 6, 7, 8] rfl
    refine va_calli (va_runV (As := [.int (nI k)]) (rest := []) ⟨hx, hb, hml, hown, (dr_words hts s.drawn)⟩ (c0_lastOf l dC dI pB bP bF bL bH cD cI cQ nb uP uF uL uH k (by omega)) (cwV 1 (dr_words hts s.drawn) gX2_stiffenBy_X0_lastOf rfl rfl rfl (by decide +kernel) ⟨Nat.le_of_ble_eq_true rfl, Nat.le_of_ble_eq_true rfl⟩) ⟨zfb, va_recv hK hP (ci := 0) (q0 := 4) rfl rfl, zpre hPc hK⟩ rfl rfl hl.1 rfl (lv_room (Nat.le_of_ble_eq_true rfl)) dX2_stiffenBy_41 ⟨Nat.le_of_ble_eq_true rfl, Nat.le_of_ble_eq_true rfl⟩) hS (fun q _ h => h.elim) (fun q h => h.elim) (fun r5 u9 t9 H locs ht9 hvm9 hr5 hB9 hz9 hk1 hS => ?_)
    have hP := zro1 hP hk1
    subst hr5
    rw [hcl]
    refine lv_istore (lv' := [(6, .int (nI ((y0 * iw + (x0 + ns))))), (4, .double (uH k)), (3, .ref pR), (2, .int (nI 1)), (0, .ref aP), (1, .int (nI k))]) hx hb dX2_stiffenBy_44 hl (by decide) rfl (fun ls hl => ?_)
    refine lv_aload_n hx hb dX2_stiffenBy_46 rfl (lv_at hl 4 rfl) ?_
    refine va_get (D := (dC, dI)) (ci := 2) (v := .ref pB) (C := RX2) (T := TX2) (N := 9) hx hb (dr_words hts s.drawn) (in_X2_stiffenBy_X2) hown hK hP 0 rfl rfl 5 (by decide) (dr_words hts s.drawn (.fieldLink RX2 31 "PlateModes$Plate" "braces" "LPlateModes$Braces;") (by decide +kernel)) (fun _ h9 => h9) rfl dX2_stiffenBy_47 ?_
    refine lv_iload_n hx hb dX2_stiffenBy_50 rfl (lv_at hl 5 rfl) ?_
    have hPc := hP.sub (ws' := [(pB, .inr (0, [.ref bP, .ref bF, .ref bL, .ref bH, .int (nI nb)])), (bP, .inl (cI, 12, .inl uP)), (bF, .inl (cI, 12, .inl uF)), (bL, .inl (cI, 12, .inl uL)), (bH, .inl (cD, 12, .inr (.inr (.inr (.inl uH)))))]) [4, 5, 6, 7, 8] rfl
    refine va_calli (va_runV (As := [.int (nI k)]) (rest := []) ⟨hx, hb, hml, hown, (dr_words hts s.drawn)⟩ (c0_firstOf l dC dI pB bP bF bL bH cD cI cQ nb uP uF uL uH k (by omega)) (cwV 1 (dr_words hts s.drawn) gX2_stiffenBy_X0_firstOf rfl rfl rfl (by decide +kernel) ⟨Nat.le_of_ble_eq_true rfl, Nat.le_of_ble_eq_true rfl⟩) ⟨zfb, va_recv hK hP (ci := 0) (q0 := 4) rfl rfl, zpre hPc hK⟩ rfl rfl hl.1 rfl (lv_room (Nat.le_of_ble_eq_true rfl)) dX2_stiffenBy_51 ⟨Nat.le_of_ble_eq_true rfl, Nat.le_of_ble_eq_true rfl⟩) hS (fun q _ h => h.elim) (fun q h => h.elim) (fun r6 u9 t9 H locs ht9 hvm9 hr6 hB9 hz9 hk1 hS => ?_)
    have hP := zro1 hP hk1
    subst hr6
    rw [hcf]
    refine lv_istore (lv' := [(7, .int (nI ((y0 * iw + (x0 + 0))))), (6, .int (nI ((y0 * iw + (x0 + ns))))), (4, .double (uH k)), (3, .ref pR), (2, .int (nI 1)), (0, .ref aP), (1, .int (nI k))]) hx hb dX2_stiffenBy_54 hl (by decide) rfl (fun ls hl => ?_)
    refine lv_iconst (v := (nI 1)) hx hb dX2_stiffenBy_56 (by decide) ?_
    refine lv_istore (lv' := [(8, .int (nI 1)), (7, .int (nI ((y0 * iw + (x0 + 0))))), (6, .int (nI ((y0 * iw + (x0 + ns))))), (4, .double (uH k)), (3, .ref pR), (2, .int (nI 1)), (0, .ref aP), (1, .int (nI k))]) hx hb dX2_stiffenBy_57 hl (by decide) rfl (fun ls hl => ?_)
    have L_59 : ∀ (n : Nat) (tq : Nat) (f2 : Nat → UInt64) (d0 : Drawn) (H : Heap) (locs : List Loc) (ls : Array Slot), ns - tq < n → (tq ≤ ns) → (zcr f2 (iw * ih) (zfold (zbRF iw T x0 y0 (zv (uH k))) tq R)) → s.drawn.sameBut d0 lw_cs → va_P (dC, dI) vwCl [(aP, .inr (2, [.int (nI iw), .int (nI ih), .ref pT, .ref pR, .ref pN, .ref pB, .double al, .double ac, .double de])), (pT, .inl (cD, (iw * ih), .inr (.inr (.inr (.inl tT))))), (pR, .inl (cD, (iw * ih), .inr (.inr (.inr (.inl f2))))), (pN, .inl (cD, (iw * ih), .inr (.inr (.inr (.inl tN))))), (pB, .inr (0, [.ref bP, .ref bF, .ref bL, .ref bH, .int (nI nb)])), (bP, .inl (cI, 12, .inl uP)), (bF, .inl (cI, 12, .inl uF)), (bL, .inl (cI, 12, .inl uL)), (bH, .inl (cD, 12, .inr (.inr (.inr (.inl uH)))))] H → va_D A [(aP, .inr (2, [.int (nI iw), .int (nI ih), .ref pT, .ref pR, .ref pN, .ref pB, .double al, .double ac, .double de])), (pT, .inl (cD, (iw * ih), .inr (.inr (.inr (.inl tT))))), (pR, .inl (cD, (iw * ih), .inr (.inr (.inr (.inl f2))))), (pN, .inl (cD, (iw * ih), .inr (.inr (.inr (.inl tN))))), (pB, .inr (0, [.ref bP, .ref bF, .ref bL, .ref bH, .int (nI nb)])), (bP, .inl (cI, 12, .inl uP)), (bF, .inl (cI, 12, .inl uF)), (bL, .inl (cI, 12, .inl uL)), (bH, .inl (cD, 12, .inr (.inr (.inr (.inl uH)))))] → va_S A s.heap H locs → lv_has ls 9 [(7, .int (nI ((y0 * iw + (x0 + tq))))), (8, .int (nI (tq + 1))), (6, .int (nI ((y0 * iw + (x0 + ns))))), (4, .double (uH k)), (3, .ref pR), (2, .int (nI 1)), (0, .ref aP), (1, .int (nI k))] → W p l e (headSpec wsX2_stiffenBy ({ frames := 1, cells := 0, slots := 0, locals := 21 } : Room)).room (s.setDrawn d0) m ([.ref aP, .int (nI k)] : List Value).toArray below meth c H locs 0 0 (MQD lw_cs below (va_Qv (fun u : Nat → UInt64 => zcr u (iw * ih) (zfold (zbRF iw T x0 y0 (zv (uH k))) ns R)) (fun u t => (va_P (dC, dI) vwCl [(aP, .inr (2, [.int (nI iw), .int (nI ih), .ref pT, .ref pR, .ref pN, .ref pB, .double al, .double ac, .double de])), (pT, .inl (cD, (iw * ih), .inr (.inr (.inr (.inl tT))))), (pR, .inl (cD, (iw * ih), .inr (.inr (.inr (.inl u))))), (pN, .inl (cD, (iw * ih), .inr (.inr (.inr (.inl tN))))), (pB, .inr (0, [.ref bP, .ref bF, .ref bL, .ref bH, .int (nI nb)])), (bP, .inl (cI, 12, .inl uP)), (bF, .inl (cI, 12, .inl uF)), (bL, .inl (cI, 12, .inl uL)), (bH, .inl (cD, 12, .inr (.inr (.inr (.inl uH)))))] t.heap ∧ va_K (dC, dI) vwCl [(cD, .double), (cI, .int), (cQ, .array .double)] t ∧ va_D A [(aP, .inr (2, [.int (nI iw), .int (nI ih), .ref pT, .ref pR, .ref pN, .ref pB, .double al, .double ac, .double de])), (pT, .inl (cD, (iw * ih), .inr (.inr (.inr (.inl tT))))), (pR, .inl (cD, (iw * ih), .inr (.inr (.inr (.inl u))))), (pN, .inl (cD, (iw * ih), .inr (.inr (.inr (.inl tN))))), (pB, .inr (0, [.ref bP, .ref bF, .ref bL, .ref bH, .int (nI nb)])), (bP, .inl (cI, 12, .inl uP)), (bF, .inl (cI, 12, .inl uF)), (bL, .inl (cI, 12, .inl uL)), (bH, .inl (cD, 12, .inr (.inr (.inr (.inl uH)))))])) A) ([.ref aP, .int (nI k)] : List Value).toArray s 0 0 A) (F0 m 59 ls []) := by
      intro n
      induction n with
      | zero => intro tq f2 d0 H locs ls hn; exact absurd hn (Nat.not_lt_zero _)
      | succ n ih_L_59 =>
        intro tq f2 d0 H locs ls hn htn g2 hd0 hP hD hS hl
        have hcur := zrow (w := iw) (h := ih) (x := x0 + tq) (y := y0) (by omega) (by omega)
        refine lv_iload hx hb dX2_stiffenBy_59 (lv_at hl 1 rfl) ?_
        refine lv_bipush (v := (nI 6)) hx hb dX2_stiffenBy_61 (by decide) ?_
        refine z_icmp_ge (a := tq + 1) (b := 6) (tgt := 116) hx hb (by omega) (by omega) dX2_stiffenBy_63 (by decide) (fun c7 => ?_) (fun c8 => ?_)
        · skip
          refine W.endD hd0 ?_
          exact W.vret hx hb hr (fun t ht hW => ⟨⟨f2, rfl, (by rw [show tq = ns by omega] at g2; exact g2), by rw [ht]; exact hP, va_K.moved hW.alike hK, hD⟩, hS.F ht⟩) hS.2.2 dX2_stiffenBy_116
        · skip
          refine lv_iload hx hb dX2_stiffenBy_66 (lv_at hl 0 rfl) ?_
          refine lv_iload hx hb dX2_stiffenBy_68 (lv_at hl 2 rfl) ?_
          refine z_icmp_ge (a := (y0 * iw + (x0 + tq))) (b := (y0 * iw + (x0 + ns))) (tgt := 116) hx hb (by omega) (by omega) dX2_stiffenBy_70 (by decide) (fun c9 => ?_) (fun c10 => ?_)
          · skip
            refine W.endD hd0 ?_
            exact W.vret hx hb hr (fun t ht hW => ⟨⟨f2, rfl, (by rw [show tq = ns by omega] at g2; exact g2), by rw [ht]; exact hP, va_K.moved hW.alike hK, hD⟩, hS.F ht⟩) hS.2.2 dX2_stiffenBy_116
          · skip
            refine lv_aload_n hx hb dX2_stiffenBy_73 rfl (lv_at hl 6 rfl) ?_
            refine lv_iload hx hb dX2_stiffenBy_74 (lv_at hl 0 rfl) ?_
            have hPc := hP
            refine va_calli (va_runV (As := [.int (nI ((y0 * iw + (x0 + tq))))]) (rest := []) ⟨hx, hb, hml, hown, (dr_words hts d0)⟩ (c2_hasWood l dC dI aP pT pR pN pB bP bF bL bH cD cI cQ iw ih al ac de nb tT f2 tN uP uF uL uH hw6 hh6 ((y0 * iw + (x0 + tq))) (zrow (x := x0 + tq) (y := y0) (by omega) (by omega))) (cwV 1 (dr_words hts d0) gX2_stiffenBy_X2_hasWood rfl rfl rfl (by decide +kernel) ⟨Nat.le_of_ble_eq_true rfl, Nat.le_of_ble_eq_true rfl⟩) ⟨zfb, va_recv hK hP (ci := 2) (q0 := 0) rfl rfl, zpre hPc hK⟩ rfl rfl hl.1 rfl (lv_room (Nat.le_of_ble_eq_true rfl)) dX2_stiffenBy_76 ⟨Nat.le_of_ble_eq_true rfl, Nat.le_of_ble_eq_true rfl⟩) hS (fun q _ h => h.elim) (fun q h => h.elim) (fun r11 u9 t9 H locs ht9 hvm9 hr11 hB9 hz9 hk1 hS => ?_)
            have hP := zro1 hP hk1
            have hr11 : r11 = zb (zgt (T (y0 * iw + (x0 + tq))) z0) := by rw [hr11, show zv (tT ((y0 * iw + (x0 + tq)))) = T (y0 * iw + (x0 + tq)) from gT _ (zrow (x := x0 + tq) (y := y0) (by omega) (by omega))]
            subst hr11
            refine z_if_eq_b (tgt := 104) hx hb dX2_stiffenBy_79 (by decide) (fun c12 => ?_) (fun c13 => ?_)
            · skip
              have cw := c12
              refine lv_iload hx hb dX2_stiffenBy_104 (lv_at hl 0 rfl) ?_
              refine lv_iload_n hx hb dX2_stiffenBy_106 rfl (lv_at hl 5 rfl) ?_
              refine t_iadd hx hb dX2_stiffenBy_107 (v := nI (y0 * iw + (x0 + (tq + 1)))) (zi_add (by omega)) ?_
              refine lv_istore (lv' := [(7, .int (nI ((y0 * iw + (x0 + (tq + 1)))))), (8, .int (nI (tq + 1))), (6, .int (nI ((y0 * iw + (x0 + ns))))), (4, .double (uH k)), (3, .ref pR), (2, .int (nI 1)), (0, .ref aP), (1, .int (nI k))]) hx hb dX2_stiffenBy_108 hl (by decide) rfl (fun ls hl => ?_)
              refine lv_iinc (v := nI (tq + 2)) (lv' := [(8, .int (nI (tq + 2))), (7, .int (nI ((y0 * iw + (x0 + (tq + 1)))))), (6, .int (nI ((y0 * iw + (x0 + ns))))), (4, .double (uH k)), (3, .ref pR), (2, .int (nI 1)), (0, .ref aP), (1, .int (nI k))]) hx hb dX2_stiffenBy_110 hl (k := 1) rfl (show nI (tq + 1) + nI 1 = _ from zi_add (by omega)) (by decide) rfl (fun ls hl => ?_)
              refine lv_goto (tgt := 59) hx hb dX2_stiffenBy_113 (by decide) ?_
              exact ih_L_59 (tq + 1) f2 _ _ _ _ (by omega) (by omega) (zcr_c (zbR_no (fun hh => by first | (rw [cw] at hh; exact absurd hh.1 (by decide)) | (rw [cw2] at hh; exact absurd hh.2 (by decide)))).symm g2) hd0 hP hD hS (lv_sub hl [1, 0, 2, 3, 4, 5, 6, 7] rfl)
            · skip
              have cw := c13
              refine lv_aload_n hx hb dX2_stiffenBy_82 rfl (lv_at hl 6 rfl) ?_
              refine lv_iload hx hb dX2_stiffenBy_83 (lv_at hl 0 rfl) ?_
              refine lv_iload_n hx hb dX2_stiffenBy_85 rfl (lv_at hl 5 rfl) ?_
              refine t_iadd hx hb dX2_stiffenBy_86 (v := nI (y0 * iw + (x0 + tq + 1))) (zi_add (by omega)) ?_
              have hPc := hP
              refine va_calli (va_runV (As := [.int (nI ((y0 * iw + (x0 + tq + 1))))]) (rest := []) ⟨hx, hb, hml, hown, (dr_words hts d0)⟩ (c2_hasWood l dC dI aP pT pR pN pB bP bF bL bH cD cI cQ iw ih al ac de nb tT f2 tN uP uF uL uH hw6 hh6 ((y0 * iw + (x0 + tq + 1))) (zrow (x := x0 + tq + 1) (y := y0) (by omega) (by omega))) (cwV 1 (dr_words hts d0) gX2_stiffenBy_X2_hasWood rfl rfl rfl (by decide +kernel) ⟨Nat.le_of_ble_eq_true rfl, Nat.le_of_ble_eq_true rfl⟩) ⟨zfb, va_recv hK hP (ci := 2) (q0 := 0) rfl rfl, zpre hPc hK⟩ rfl rfl hl.1 rfl (lv_room (Nat.le_of_ble_eq_true rfl)) dX2_stiffenBy_87 ⟨Nat.le_of_ble_eq_true rfl, Nat.le_of_ble_eq_true rfl⟩) hS (fun q _ h => h.elim) (fun q h => h.elim) (fun r14 u9 t9 H locs ht9 hvm9 hr14 hB9 hz9 hk1 hS => ?_)
              have hP := zro1 hP hk1
              have hr14 : r14 = zb (zgt (T (y0 * iw + (x0 + tq + 1))) z0) := by rw [hr14, show zv (tT ((y0 * iw + (x0 + tq + 1)))) = T (y0 * iw + (x0 + tq + 1)) from gT _ (zrow (x := x0 + tq + 1) (y := y0) (by omega) (by omega))]
              subst hr14
              refine z_if_eq_b (tgt := 104) hx hb dX2_stiffenBy_90 (by decide) (fun c15 => ?_) (fun c16 => ?_)
              · skip
                have cw2 := c15
                refine lv_iload hx hb dX2_stiffenBy_104 (lv_at hl 0 rfl) ?_
                refine lv_iload_n hx hb dX2_stiffenBy_106 rfl (lv_at hl 5 rfl) ?_
                refine t_iadd hx hb dX2_stiffenBy_107 (v := nI (y0 * iw + (x0 + (tq + 1)))) (zi_add (by omega)) ?_
                refine lv_istore (lv' := [(7, .int (nI ((y0 * iw + (x0 + (tq + 1)))))), (8, .int (nI (tq + 1))), (6, .int (nI ((y0 * iw + (x0 + ns))))), (4, .double (uH k)), (3, .ref pR), (2, .int (nI 1)), (0, .ref aP), (1, .int (nI k))]) hx hb dX2_stiffenBy_108 hl (by decide) rfl (fun ls hl => ?_)
                refine lv_iinc (v := nI (tq + 2)) (lv' := [(8, .int (nI (tq + 2))), (7, .int (nI ((y0 * iw + (x0 + (tq + 1)))))), (6, .int (nI ((y0 * iw + (x0 + ns))))), (4, .double (uH k)), (3, .ref pR), (2, .int (nI 1)), (0, .ref aP), (1, .int (nI k))]) hx hb dX2_stiffenBy_110 hl (k := 1) rfl (show nI (tq + 1) + nI 1 = _ from zi_add (by omega)) (by decide) rfl (fun ls hl => ?_)
                refine lv_goto (tgt := 59) hx hb dX2_stiffenBy_113 (by decide) ?_
                exact ih_L_59 (tq + 1) f2 _ _ _ _ (by omega) (by omega) (zcr_c (zbR_no (fun hh => by first | (rw [cw] at hh; exact absurd hh.1 (by decide)) | (rw [cw2] at hh; exact absurd hh.2 (by decide)))).symm g2) hd0 hP hD hS (lv_sub hl [1, 0, 2, 3, 4, 5, 6, 7] rfl)
              · skip
                have cw2 := c16
                refine lv_aload_n hx hb dX2_stiffenBy_93 rfl (lv_at hl 4 rfl) ?_
                refine lv_iload hx hb dX2_stiffenBy_94 (lv_at hl 0 rfl) ?_
                refine lv_aload_n hx hb dX2_stiffenBy_96 rfl (lv_at hl 4 rfl) ?_
                refine lv_iload hx hb dX2_stiffenBy_97 (lv_at hl 0 rfl) ?_
                refine z_dald (s := s.setDrawn d0) (n := (iw * ih)) (i := (y0 * iw + (x0 + tq))) hx hb hK hP 2 0 rfl rfl (zrow (x := x0 + tq) (y := y0) (by omega) (by omega)) (by omega) dX2_stiffenBy_99 ?_
                refine lv_dload hx hb dX2_stiffenBy_100 (lv_at hl 3 rfl) ?_
                refine zr_dadd hd0 hx hb (a := (zfold (zbRF iw T x0 y0 (zv (uH k))) tq R) (y0 * iw + (x0 + tq))) (b := zv (uH k)) (g2 _ (zrow (x := x0 + tq) (y := y0) (by omega) (by omega))) rfl dX2_stiffenBy_102 (fun r17 d18 hr17 hd18 => ?_)
                refine z_dast (s := s.setDrawn d18) (n := (iw * ih)) (i := (y0 * iw + (x0 + tq))) hx hb hK hP hD hS 2 0 rfl rfl (zrow (x := x0 + tq) (y := y0) (by omega) (by omega)) (by omega) dX2_stiffenBy_103 (fun H locs hP hD hS => ?_)
                have hP : va_P (dC, dI) vwCl [(aP, .inr (2, [.int (nI iw), .int (nI ih), .ref pT, .ref pR, .ref pN, .ref pB, .double al, .double ac, .double de])), (pT, .inl (cD, (iw * ih), .inr (.inr (.inr (.inl tT))))), (pR, .inl (cD, (iw * ih), .inr (.inr (.inr (.inl (zu f2 ((y0 * iw + (x0 + tq))) r17)))))), (pN, .inl (cD, (iw * ih), .inr (.inr (.inr (.inl tN))))), (pB, .inr (0, [.ref bP, .ref bF, .ref bL, .ref bH, .int (nI nb)])), (bP, .inl (cI, 12, .inl uP)), (bF, .inl (cI, 12, .inl uF)), (bL, .inl (cI, 12, .inl uL)), (bH, .inl (cD, 12, .inr (.inr (.inr (.inl uH)))))] H := hP
                have hD : va_D A [(aP, .inr (2, [.int (nI iw), .int (nI ih), .ref pT, .ref pR, .ref pN, .ref pB, .double al, .double ac, .double de])), (pT, .inl (cD, (iw * ih), .inr (.inr (.inr (.inl tT))))), (pR, .inl (cD, (iw * ih), .inr (.inr (.inr (.inl (zu f2 ((y0 * iw + (x0 + tq))) r17)))))), (pN, .inl (cD, (iw * ih), .inr (.inr (.inr (.inl tN))))), (pB, .inr (0, [.ref bP, .ref bF, .ref bL, .ref bH, .int (nI nb)])), (bP, .inl (cI, 12, .inl uP)), (bF, .inl (cI, 12, .inl uF)), (bL, .inl (cI, 12, .inl uL)), (bH, .inl (cD, 12, .inr (.inr (.inr (.inl uH)))))] := hD
                refine lv_iload hx hb dX2_stiffenBy_104 (lv_at hl 0 rfl) ?_
                refine lv_iload_n hx hb dX2_stiffenBy_106 rfl (lv_at hl 5 rfl) ?_
                refine t_iadd hx hb dX2_stiffenBy_107 (v := nI (y0 * iw + (x0 + (tq + 1)))) (zi_add (by omega)) ?_
                refine lv_istore (lv' := [(7, .int (nI ((y0 * iw + (x0 + (tq + 1)))))), (8, .int (nI (tq + 1))), (6, .int (nI ((y0 * iw + (x0 + ns))))), (4, .double (uH k)), (3, .ref pR), (2, .int (nI 1)), (0, .ref aP), (1, .int (nI k))]) hx hb dX2_stiffenBy_108 hl (by decide) rfl (fun ls hl => ?_)
                refine lv_iinc (v := nI (tq + 2)) (lv' := [(8, .int (nI (tq + 2))), (7, .int (nI ((y0 * iw + (x0 + (tq + 1)))))), (6, .int (nI ((y0 * iw + (x0 + ns))))), (4, .double (uH k)), (3, .ref pR), (2, .int (nI 1)), (0, .ref aP), (1, .int (nI k))]) hx hb dX2_stiffenBy_110 hl (k := 1) rfl (show nI (tq + 1) + nI 1 = _ from zi_add (by omega)) (by decide) rfl (fun ls hl => ?_)
                refine lv_goto (tgt := 59) hx hb dX2_stiffenBy_113 (by decide) ?_
                exact ih_L_59 (tq + 1) (zu f2 ((y0 * iw + (x0 + tq))) r17) _ _ _ _ (by omega) (by omega) (zcr_c (zbR_yes ⟨cw, cw2⟩).symm (zcr_put g2 hr17)) hd18 hP hD hS (lv_sub hl [1, 0, 2, 3, 4, 5, 6, 7] rfl)
    exact L_59 _ 0 tR _ _ _ _ (Nat.lt_succ_self _) (by omega) gR hd0 hP hD hS (lv_sub hl [1, 0, 2, 3, 4, 5, 6, 7] rfl)
set_option maxHeartbeats 4000000 in
set_option maxRecDepth 100000 in
/-- stiffenBy, along y -/
theorem c2_stiffenY (l : Launch) (dC : Nat → ClassId) (dI : Nat → Nat → Nat) (aP pT pR pN pB bP bF bL bH : Nat) (cD cI cQ : ClassId) (iw ih : Nat) (al ac de : UInt64) (nb : Nat) (tT tR tN : Nat → UInt64) (uP uF uL : Nat → Int32) (uH : Nat → UInt64) (hw6 : iw ≤ 6) (hh6 : ih ≤ 6) (T : Nat → ZD) (gT : zcr tT (iw * ih) T) (k : Nat) (hk : k < 12) (x0 y0 ns : Nat) (hw2 : 2 ≤ iw) (hx0 : x0 < iw) (hy0 : y0 + ns < ih) (hcp : uP k = nI iw) (hcf : uF k = nI ((y0 + 0) * iw + x0)) (hcl : uL k = nI ((y0 + ns) * iw + x0)) (N : Nat → ZD) (gN : zcr tN (iw * ih) N) (sz : Nat) : MetD lw_cs l yX2_stiffenBy wsX2_stiffenBy ({ frames := 1, cells := 0, slots := 0, locals := 21 } : Room) (va_Pc [.ref aP, .int (nI k)] (fun U => U.heap.size = sz ∧ va_P (dC, dI) vwCl [(aP, .inr (2, [.int (nI iw), .int (nI ih), .ref pT, .ref pR, .ref pN, .ref pB, .double al, .double ac, .double de])), (pT, .inl (cD, (iw * ih), .inr (.inr (.inr (.inl tT))))), (pR, .inl (cD, (iw * ih), .inr (.inr (.inr (.inl tR))))), (pN, .inl (cD, (iw * ih), .inr (.inr (.inr (.inl tN))))), (pB, .inr (0, [.ref bP, .ref bF, .ref bL, .ref bH, .int (nI nb)])), (bP, .inl (cI, 12, .inl uP)), (bF, .inl (cI, 12, .inl uF)), (bL, .inl (cI, 12, .inl uL)), (bH, .inl (cD, 12, .inr (.inr (.inr (.inl uH)))))] U.heap ∧ va_K (dC, dI) vwCl [(cD, .double), (cI, .int), (cQ, .array .double)] U ∧ va_D (fun _ => True) [(aP, .inr (2, [.int (nI iw), .int (nI ih), .ref pT, .ref pR, .ref pN, .ref pB, .double al, .double ac, .double de])), (pT, .inl (cD, (iw * ih), .inr (.inr (.inr (.inl tT))))), (pR, .inl (cD, (iw * ih), .inr (.inr (.inr (.inl tR))))), (pN, .inl (cD, (iw * ih), .inr (.inr (.inr (.inl tN))))), (pB, .inr (0, [.ref bP, .ref bF, .ref bL, .ref bH, .int (nI nb)])), (bP, .inl (cI, 12, .inl uP)), (bF, .inl (cI, 12, .inl uF)), (bL, .inl (cI, 12, .inl uL)), (bH, .inl (cD, 12, .inr (.inr (.inr (.inl uH)))))])) (va_Qv (fun u : Nat → UInt64 => zcr u (iw * ih) (zfold (zbNF iw T x0 y0 (zv (uH k))) ns N)) (fun u t => (va_P (dC, dI) vwCl [(aP, .inr (2, [.int (nI iw), .int (nI ih), .ref pT, .ref pR, .ref pN, .ref pB, .double al, .double ac, .double de])), (pT, .inl (cD, (iw * ih), .inr (.inr (.inr (.inl tT))))), (pR, .inl (cD, (iw * ih), .inr (.inr (.inr (.inl tR))))), (pN, .inl (cD, (iw * ih), .inr (.inr (.inr (.inl u))))), (pB, .inr (0, [.ref bP, .ref bF, .ref bL, .ref bH, .int (nI nb)])), (bP, .inl (cI, 12, .inl uP)), (bF, .inl (cI, 12, .inl uF)), (bL, .inl (cI, 12, .inl uL)), (bH, .inl (cD, 12, .inr (.inr (.inr (.inl uH)))))] t.heap ∧ va_K (dC, dI) vwCl [(cD, .double), (cI, .int), (cQ, .array .double)] t ∧ va_D (va_A [(aP, .inr (2, [.int (nI iw), .int (nI ih), .ref pT, .ref pR, .ref pN, .ref pB, .double al, .double ac, .double de])), (pT, .inl (cD, (iw * ih), .inr (.inr (.inr (.inl tT))))), (pR, .inl (cD, (iw * ih), .inr (.inr (.inr (.inl tR))))), (pN, .inl (cD, (iw * ih), .inr (.inr (.inr (.inl tN))))), (pB, .inr (0, [.ref bP, .ref bF, .ref bL, .ref bH, .int (nI nb)])), (bP, .inl (cI, 12, .inl uP)), (bF, .inl (cI, 12, .inl uF)), (bL, .inl (cI, 12, .inl uL)), (bH, .inl (cD, 12, .inr (.inr (.inr (.inl uH)))))] sz) [(aP, .inr (2, [.int (nI iw), .int (nI ih), .ref pT, .ref pR, .ref pN, .ref pB, .double al, .double ac, .double de])), (pT, .inl (cD, (iw * ih), .inr (.inr (.inr (.inl tT))))), (pR, .inl (cD, (iw * ih), .inr (.inr (.inr (.inl tR))))), (pN, .inl (cD, (iw * ih), .inr (.inr (.inr (.inl u))))), (pB, .inr (0, [.ref bP, .ref bF, .ref bL, .ref bH, .int (nI nb)])), (bP, .inl (cI, 12, .inl uP)), (bF, .inl (cI, 12, .inl uF)), (bL, .inl (cI, 12, .inl uL)), (bH, .inl (cD, 12, .inr (.inr (.inr (.inl uH)))))])) (va_A [(aP, .inr (2, [.int (nI iw), .int (nI ih), .ref pT, .ref pR, .ref pN, .ref pB, .double al, .double ac, .double de])), (pT, .inl (cD, (iw * ih), .inr (.inr (.inr (.inl tT))))), (pR, .inl (cD, (iw * ih), .inr (.inr (.inr (.inl tR))))), (pN, .inl (cD, (iw * ih), .inr (.inr (.inr (.inl tN))))), (pB, .inr (0, [.ref bP, .ref bF, .ref bL, .ref bH, .int (nI nb)])), (bP, .inl (cI, 12, .inl uP)), (bF, .inl (cI, 12, .inl uF)), (bL, .inl (cI, 12, .inl uL)), (bH, .inl (cD, 12, .inr (.inr (.inr (.inl uH)))))] sz)) 0 0 (va_A [(aP, .inr (2, [.int (nI iw), .int (nI ih), .ref pT, .ref pR, .ref pN, .ref pB, .double al, .double ac, .double de])), (pT, .inl (cD, (iw * ih), .inr (.inr (.inr (.inl tT))))), (pR, .inl (cD, (iw * ih), .inr (.inr (.inr (.inl tR))))), (pN, .inl (cD, (iw * ih), .inr (.inr (.inr (.inl tN))))), (pB, .inr (0, [.ref bP, .ref bF, .ref bL, .ref bH, .int (nI nb)])), (bP, .inl (cI, 12, .inl uP)), (bF, .inl (cI, 12, .inl uF)), (bL, .inl (cI, 12, .inl uL)), (bH, .inl (cD, 12, .inr (.inr (.inr (.inl uH)))))] sz) := by
  refine MetD.ofW (cc := cX2_stiffenBy) (maxL := 9) (ret := none) (by decide) rfl ?_
  intro p e s m args below meth c s₁ B hml hv hd0
  obtain ⟨rfl, hsz, hP, hK, hD0⟩ := hv
  have hx := B.exec
  have hb := B.bytes
  have hr := B.returns
  have hts := atoms_spec (ws := wsX2_stiffenBy) B.pre
  have hown : s.vm.findClass RX2 = some m.cls := findClass_of_methodNamed B.named
  have hlocks := B.notSynchronized
  subst hsz
  have hD := hD0.self (sz := s.heap.size)
  generalize hAe : va_A [(aP, .inr (2, [.int (nI iw), .int (nI ih), .ref pT, .ref pR, .ref pN, .ref pB, .double al, .double ac, .double de])), (pT, .inl (cD, (iw * ih), .inr (.inr (.inr (.inl tT))))), (pR, .inl (cD, (iw * ih), .inr (.inr (.inr (.inl tR))))), (pN, .inl (cD, (iw * ih), .inr (.inr (.inr (.inl tN))))), (pB, .inr (0, [.ref bP, .ref bF, .ref bL, .ref bH, .int (nI nb)])), (bP, .inl (cI, 12, .inl uP)), (bF, .inl (cI, 12, .inl uF)), (bL, .inl (cI, 12, .inl uL)), (bH, .inl (cD, 12, .inr (.inr (.inr (.inl uH)))))] s.heap.size = A at hD ⊢
  have hA : ∀ q : Nat, s.heap.size ≤ q → A q := fun q h => by rw [← hAe]; exact Or.inr h
  have hS : va_S A s.heap s.heap [] := va_S.rf
  have hl := lv_entry ([.ref aP, .int (nI k)]) (n := 9) (Nat.le_of_ble_eq_true rfl)
  rw [lg_entry_eq]
  generalize (lg_sl ([.ref aP, .int (nI k)]) ++ List.replicate (9 - (lg_sl ([.ref aP, .int (nI k)])).length) Slot.unset).toArray = ls at hl ⊢
  have hl : lv_has ls 9 [(0, .ref aP), (1, .int (nI k))] := hl
  have hn36 : iw * ih ≤ 36 := Nat.mul_le_mul hw6 hh6
  have hlast := zrow (x := x0) (y := y0 + ns) (w := iw) (h := ih) (by omega) (by omega)
  refine lv_aload_n hx hb dX2_stiffenBy_0 rfl (lv_at hl 0 rfl) ?_
  refine va_get (D := (dC, dI)) (ci := 2) (v := .ref pB) (C := RX2) (T := TX2) (N := 9) hx hb (dr_words hts s.drawn) (in_X2_stiffenBy_X2) hown hK hP 0 rfl rfl 5 (by decide) (dr_words hts s.drawn (.fieldLink RX2 31 "PlateModes$Plate" "braces" "LPlateModes$Braces;") (by decide +kernel)) (fun _ h9 => h9) rfl dX2_stiffenBy_1 ?_
  refine lv_iload_n hx hb dX2_stiffenBy_4 rfl (lv_at hl 1 rfl) ?_
  have hPc := hP.sub (ws' := [(pB, .inr (0, [.ref bP, .ref bF, .ref bL, .ref bH, .int (nI nb)])), (bP, .inl (cI, 12, .inl uP)), (bF, .inl (cI, 12, .inl uF)), (bL, .inl (cI, 12, .inl uL)), (bH, .inl (cD, 12, .inr (.inr (.inr (.inl uH)))))]) [4, 5, 6, 7, 8] rfl
  refine va_calli (va_runV (As := [.int (nI k)]) (rest := []) ⟨hx, hb, hml, hown, (dr_words hts s.drawn)⟩ (c0_paceOf l dC dI pB bP bF bL bH cD cI cQ nb uP uF uL uH k (by omega)) (cwV 1 (dr_words hts s.drawn) gX2_stiffenBy_X0_paceOf rfl rfl rfl (by decide +kernel) ⟨Nat.le_of_ble_eq_true rfl, Nat.le_of_ble_eq_true rfl⟩) ⟨zfb, va_recv hK hP (ci := 0) (q0 := 4) rfl rfl, zpre hPc hK⟩ rfl rfl hl.1 rfl (lv_room (Nat.le_of_ble_eq_true rfl)) dX2_stiffenBy_5 ⟨Nat.le_of_ble_eq_true rfl, Nat.le_of_ble_eq_true rfl⟩) hS (fun q _ h => h.elim) (fun q h => h.elim) (fun r1 u9 t9 H locs ht9 hvm9 hr1 hB9 hz9 hk1 hS => ?_)
  have hP := zro1 hP hk1
  subst hr1
  rw [hcp]
  refine lv_istore_n (lv' := [(2, .int (nI iw)), (0, .ref aP), (1, .int (nI k))]) hx hb dX2_stiffenBy_8 rfl hl (by decide) rfl (fun ls hl => ?_)
  refine lv_iload_n hx hb dX2_stiffenBy_9 rfl (lv_at hl 0 rfl) ?_
  refine lv_iconst (v := (nI 1)) hx hb dX2_stiffenBy_10 (by decide) ?_
  refine z_icmp_ne (a := iw) (b := 1) (tgt := 21) hx hb (by omega) (by omega) dX2_stiffenBy_11 (by decide) (fun c2 => ?_) (fun c3 => ?_)
  · skip
    refine lv_aload_n hx hb dX2_stiffenBy_21 rfl (lv_at hl 1 rfl) ?_
    refine va_get (D := (dC, dI)) (ci := 2) (v := .ref pN) (C := RX2) (T := TX2) (N := 9) hx hb (dr_words hts s.drawn) (in_X2_stiffenBy_X2) hown hK hP 0 rfl rfl 4 (by decide) (dr_words hts s.drawn (.fieldLink RX2 25 "PlateModes$Plate" "toBelow" "[D") (by decide +kernel)) (fun _ h9 => h9) rfl dX2_stiffenBy_22 ?_
    refine lv_astore_n (lv' := [(3, .ref pN), (2, .int (nI iw)), (0, .ref aP), (1, .int (nI k))]) hx hb dX2_stiffenBy_25 rfl hl (by decide) rfl (fun ls hl => ?_)
    refine lv_aload_n hx hb dX2_stiffenBy_26 rfl (lv_at hl 2 rfl) ?_
    refine va_get (D := (dC, dI)) (ci := 2) (v := .ref pB) (C := RX2) (T := TX2) (N := 9) hx hb (dr_words hts s.drawn) (in_X2_stiffenBy_X2) hown hK hP 0 rfl rfl 5 (by decide) (dr_words hts s.drawn (.fieldLink RX2 31 "PlateModes$Plate" "braces" "LPlateModes$Braces;") (by decide +kernel)) (fun _ h9 => h9) rfl dX2_stiffenBy_27 ?_
    refine lv_iload_n hx hb dX2_stiffenBy_30 rfl (lv_at hl 3 rfl) ?_
    have hPc := hP.sub (ws' := [(pB, .inr (0, [.ref bP, .ref bF, .ref bL, .ref bH, .int (nI nb)])), (bP, .inl (cI, 12, .inl uP)), (bF, .inl (cI, 12, .inl uF)), (bL, .inl (cI, 12, .inl uL)), (bH, .inl (cD, 12, .inr (.inr (.inr (.inl uH)))))]) [4, 5, 6, 7, 8] rfl
    refine va_calld (va_runV (As := [.int (nI k)]) (rest := []) ⟨hx, hb, hml, hown, (dr_words hts s.drawn)⟩ (c0_heightOf l dC dI pB bP bF bL bH cD cI cQ nb uP uF uL uH k hk) (cwV 1 (dr_words hts s.drawn) gX2_stiffenBy_X0_heightOf rfl rfl rfl (by decide +kernel) ⟨Nat.le_of_ble_eq_true rfl, Nat.le_of_ble_eq_true rfl⟩) ⟨zfb, va_recv hK hP (ci := 0) (q0 := 4) rfl rfl, zpre hPc hK⟩ rfl rfl hl.1 rfl (lv_room (Nat.le_of_ble_eq_true rfl)) dX2_stiffenBy_31 ⟨Nat.le_of_ble_eq_true rfl, Nat.le_of_ble_eq_true rfl⟩) hS (fun q _ h => h.elim) (fun q h => h.elim) (fun r4 u9 t9 H locs ht9 hvm9 hr4 hB9 hz9 hk1 hS => ?_)
    have hP := zro1 hP hk1
    subst hr4
    refine lv_dstore (lv' := [(4, .double (uH k)), (3, .ref pN), (2, .int (nI iw)), (0, .ref aP), (1, .int (nI k))]) hx hb dX2_stiffenBy_34 hl (by decide) rfl (fun ls hl => ?_)
    refine lv_aload_n hx hb dX2_stiffenBy_36 rfl (lv_at hl 3 rfl) ?_
    refine va_get (D := (dC, dI)) (ci := 2) (v := .ref pB) (C := RX2) (T := TX2) (N := 9) hx hb (dr_words hts s.drawn) (in_X2_stiffenBy_X2) hown hK hP 0 rfl rfl 5 (by decide) (dr_words hts s.drawn (.fieldLink RX2 31 "PlateModes$Plate" "braces" "LPlateModes$Braces;") (by decide +kernel)) (fun _ h9 => h9) rfl dX2_stiffenBy_37 ?_
    refine lv_iload_n hx hb dX2_stiffenBy_40 rfl (lv_at hl 4 rfl) ?_
    have hPc := hP.sub (ws' := [(pB, .inr (0, [.ref bP, .ref bF, .ref bL, .ref bH, .int (nI nb)])), (bP, .inl (cI, 12, .inl uP)), (bF, .inl (cI, 12, .inl uF)), (bL, .inl (cI, 12, .inl uL)), (bH, .inl (cD, 12, .inr (.inr (.inr (.inl uH)))))]) [4, 5, 6, 7, 8] rfl
    refine va_calli (va_runV (As := [.int (nI k)]) (rest := []) ⟨hx, hb, hml, hown, (dr_words hts s.drawn)⟩ (c0_lastOf l dC dI pB bP bF bL bH cD cI cQ nb uP uF uL uH k (by omega)) (cwV 1 (dr_words hts s.drawn) gX2_stiffenBy_X0_lastOf rfl rfl rfl (by decide +kernel) ⟨Nat.le_of_ble_eq_true rfl, Nat.le_of_ble_eq_true rfl⟩) ⟨zfb, va_recv hK hP (ci := 0) (q0 := 4) rfl rfl, zpre hPc hK⟩ rfl rfl hl.1 rfl (lv_room (Nat.le_of_ble_eq_true rfl)) dX2_stiffenBy_41 ⟨Nat.le_of_ble_eq_true rfl, Nat.le_of_ble_eq_true rfl⟩) hS (fun q _ h => h.elim) (fun q h => h.elim) (fun r5 u9 t9 H locs ht9 hvm9 hr5 hB9 hz9 hk1 hS => ?_)
    have hP := zro1 hP hk1
    subst hr5
    rw [hcl]
    refine lv_istore (lv' := [(6, .int (nI (((y0 + ns) * iw + x0)))), (4, .double (uH k)), (3, .ref pN), (2, .int (nI iw)), (0, .ref aP), (1, .int (nI k))]) hx hb dX2_stiffenBy_44 hl (by decide) rfl (fun ls hl => ?_)
    refine lv_aload_n hx hb dX2_stiffenBy_46 rfl (lv_at hl 4 rfl) ?_
    refine va_get (D := (dC, dI)) (ci := 2) (v := .ref pB) (C := RX2) (T := TX2) (N := 9) hx hb (dr_words hts s.drawn) (in_X2_stiffenBy_X2) hown hK hP 0 rfl rfl 5 (by decide) (dr_words hts s.drawn (.fieldLink RX2 31 "PlateModes$Plate" "braces" "LPlateModes$Braces;") (by decide +kernel)) (fun _ h9 => h9) rfl dX2_stiffenBy_47 ?_
    refine lv_iload_n hx hb dX2_stiffenBy_50 rfl (lv_at hl 5 rfl) ?_
    have hPc := hP.sub (ws' := [(pB, .inr (0, [.ref bP, .ref bF, .ref bL, .ref bH, .int (nI nb)])), (bP, .inl (cI, 12, .inl uP)), (bF, .inl (cI, 12, .inl uF)), (bL, .inl (cI, 12, .inl uL)), (bH, .inl (cD, 12, .inr (.inr (.inr (.inl uH)))))]) [4, 5, 6, 7, 8] rfl
    refine va_calli (va_runV (As := [.int (nI k)]) (rest := []) ⟨hx, hb, hml, hown, (dr_words hts s.drawn)⟩ (c0_firstOf l dC dI pB bP bF bL bH cD cI cQ nb uP uF uL uH k (by omega)) (cwV 1 (dr_words hts s.drawn) gX2_stiffenBy_X0_firstOf rfl rfl rfl (by decide +kernel) ⟨Nat.le_of_ble_eq_true rfl, Nat.le_of_ble_eq_true rfl⟩) ⟨zfb, va_recv hK hP (ci := 0) (q0 := 4) rfl rfl, zpre hPc hK⟩ rfl rfl hl.1 rfl (lv_room (Nat.le_of_ble_eq_true rfl)) dX2_stiffenBy_51 ⟨Nat.le_of_ble_eq_true rfl, Nat.le_of_ble_eq_true rfl⟩) hS (fun q _ h => h.elim) (fun q h => h.elim) (fun r6 u9 t9 H locs ht9 hvm9 hr6 hB9 hz9 hk1 hS => ?_)
    have hP := zro1 hP hk1
    subst hr6
    rw [hcf]
    refine lv_istore (lv' := [(7, .int (nI (((y0 + 0) * iw + x0)))), (6, .int (nI (((y0 + ns) * iw + x0)))), (4, .double (uH k)), (3, .ref pN), (2, .int (nI iw)), (0, .ref aP), (1, .int (nI k))]) hx hb dX2_stiffenBy_54 hl (by decide) rfl (fun ls hl => ?_)
    refine lv_iconst (v := (nI 1)) hx hb dX2_stiffenBy_56 (by decide) ?_
    refine lv_istore (lv' := [(8, .int (nI 1)), (7, .int (nI (((y0 + 0) * iw + x0)))), (6, .int (nI (((y0 + ns) * iw + x0)))), (4, .double (uH k)), (3, .ref pN), (2, .int (nI iw)), (0, .ref aP), (1, .int (nI k))]) hx hb dX2_stiffenBy_57 hl (by decide) rfl (fun ls hl => ?_)
    have L_59 : ∀ (n : Nat) (tq : Nat) (f2 : Nat → UInt64) (d0 : Drawn) (H : Heap) (locs : List Loc) (ls : Array Slot), ns - tq < n → (tq ≤ ns) → (zcr f2 (iw * ih) (zfold (zbNF iw T x0 y0 (zv (uH k))) tq N)) → s.drawn.sameBut d0 lw_cs → va_P (dC, dI) vwCl [(aP, .inr (2, [.int (nI iw), .int (nI ih), .ref pT, .ref pR, .ref pN, .ref pB, .double al, .double ac, .double de])), (pT, .inl (cD, (iw * ih), .inr (.inr (.inr (.inl tT))))), (pR, .inl (cD, (iw * ih), .inr (.inr (.inr (.inl tR))))), (pN, .inl (cD, (iw * ih), .inr (.inr (.inr (.inl f2))))), (pB, .inr (0, [.ref bP, .ref bF, .ref bL, .ref bH, .int (nI nb)])), (bP, .inl (cI, 12, .inl uP)), (bF, .inl (cI, 12, .inl uF)), (bL, .inl (cI, 12, .inl uL)), (bH, .inl (cD, 12, .inr (.inr (.inr (.inl uH)))))] H → va_D A [(aP, .inr (2, [.int (nI iw), .int (nI ih), .ref pT, .ref pR, .ref pN, .ref pB, .double al, .double ac, .double de])), (pT, .inl (cD, (iw * ih), .inr (.inr (.inr (.inl tT))))), (pR, .inl (cD, (iw * ih), .inr (.inr (.inr (.inl tR))))), (pN, .inl (cD, (iw * ih), .inr (.inr (.inr (.inl f2))))), (pB, .inr (0, [.ref bP, .ref bF, .ref bL, .ref bH, .int (nI nb)])), (bP, .inl (cI, 12, .inl uP)), (bF, .inl (cI, 12, .inl uF)), (bL, .inl (cI, 12, .inl uL)), (bH, .inl (cD, 12, .inr (.inr (.inr (.inl uH)))))] → va_S A s.heap H locs → lv_has ls 9 [(7, .int (nI (((y0 + tq) * iw + x0)))), (8, .int (nI (tq + 1))), (6, .int (nI (((y0 + ns) * iw + x0)))), (4, .double (uH k)), (3, .ref pN), (2, .int (nI iw)), (0, .ref aP), (1, .int (nI k))] → W p l e (headSpec wsX2_stiffenBy ({ frames := 1, cells := 0, slots := 0, locals := 21 } : Room)).room (s.setDrawn d0) m ([.ref aP, .int (nI k)] : List Value).toArray below meth c H locs 0 0 (MQD lw_cs below (va_Qv (fun u : Nat → UInt64 => zcr u (iw * ih) (zfold (zbNF iw T x0 y0 (zv (uH k))) ns N)) (fun u t => (va_P (dC, dI) vwCl [(aP, .inr (2, [.int (nI iw), .int (nI ih), .ref pT, .ref pR, .ref pN, .ref pB, .double al, .double ac, .double de])), (pT, .inl (cD, (iw * ih), .inr (.inr (.inr (.inl tT))))), (pR, .inl (cD, (iw * ih), .inr (.inr (.inr (.inl tR))))), (pN, .inl (cD, (iw * ih), .inr (.inr (.inr (.inl u))))), (pB, .inr (0, [.ref bP, .ref bF, .ref bL, .ref bH, .int (nI nb)])), (bP, .inl (cI, 12, .inl uP)), (bF, .inl (cI, 12, .inl uF)), (bL, .inl (cI, 12, .inl uL)), (bH, .inl (cD, 12, .inr (.inr (.inr (.inl uH)))))] t.heap ∧ va_K (dC, dI) vwCl [(cD, .double), (cI, .int), (cQ, .array .double)] t ∧ va_D A [(aP, .inr (2, [.int (nI iw), .int (nI ih), .ref pT, .ref pR, .ref pN, .ref pB, .double al, .double ac, .double de])), (pT, .inl (cD, (iw * ih), .inr (.inr (.inr (.inl tT))))), (pR, .inl (cD, (iw * ih), .inr (.inr (.inr (.inl tR))))), (pN, .inl (cD, (iw * ih), .inr (.inr (.inr (.inl u))))), (pB, .inr (0, [.ref bP, .ref bF, .ref bL, .ref bH, .int (nI nb)])), (bP, .inl (cI, 12, .inl uP)), (bF, .inl (cI, 12, .inl uF)), (bL, .inl (cI, 12, .inl uL)), (bH, .inl (cD, 12, .inr (.inr (.inr (.inl uH)))))])) A) ([.ref aP, .int (nI k)] : List Value).toArray s 0 0 A) (F0 m 59 ls []) := by
      intro n
      induction n with
      | zero => intro tq f2 d0 H locs ls hn; exact absurd hn (Nat.not_lt_zero _)
      | succ n ih_L_59 =>
        intro tq f2 d0 H locs ls hn htn g2 hd0 hP hD hS hl
        have hcur := zrow (w := iw) (h := ih) (x := x0) (y := y0 + tq) (by omega) (by omega)
        refine lv_iload hx hb dX2_stiffenBy_59 (lv_at hl 1 rfl) ?_
        refine lv_bipush (v := (nI 6)) hx hb dX2_stiffenBy_61 (by decide) ?_
        refine z_icmp_ge (a := tq + 1) (b := 6) (tgt := 116) hx hb (by omega) (by omega) dX2_stiffenBy_63 (by decide) (fun c7 => ?_) (fun c8 => ?_)
        · skip
          refine W.endD hd0 ?_
          exact W.vret hx hb hr (fun t ht hW => ⟨⟨f2, rfl, (by rw [show tq = ns by omega] at g2; exact g2), by rw [ht]; exact hP, va_K.moved hW.alike hK, hD⟩, hS.F ht⟩) hS.2.2 dX2_stiffenBy_116
        · skip
          refine lv_iload hx hb dX2_stiffenBy_66 (lv_at hl 0 rfl) ?_
          refine lv_iload hx hb dX2_stiffenBy_68 (lv_at hl 2 rfl) ?_
          refine z_icmp_ge (a := ((y0 + tq) * iw + x0)) (b := ((y0 + ns) * iw + x0)) (tgt := 116) hx hb (by omega) (by omega) dX2_stiffenBy_70 (by decide) (fun c9 => ?_) (fun c10 => ?_)
          · skip
            have cy := zYge (by omega) (show ¬ (y0 + tq) * iw + x0 < (y0 + ns) * iw + x0 from by omega)
            refine W.endD hd0 ?_
            exact W.vret hx hb hr (fun t ht hW => ⟨⟨f2, rfl, (by rw [show tq = ns by omega] at g2; exact g2), by rw [ht]; exact hP, va_K.moved hW.alike hK, hD⟩, hS.F ht⟩) hS.2.2 dX2_stiffenBy_116
          · skip
            have cy := zYlt (show (y0 + tq) * iw + x0 < (y0 + ns) * iw + x0 from by omega)
            refine lv_aload_n hx hb dX2_stiffenBy_73 rfl (lv_at hl 6 rfl) ?_
            refine lv_iload hx hb dX2_stiffenBy_74 (lv_at hl 0 rfl) ?_
            have hPc := hP
            refine va_calli (va_runV (As := [.int (nI (((y0 + tq) * iw + x0)))]) (rest := []) ⟨hx, hb, hml, hown, (dr_words hts d0)⟩ (c2_hasWood l dC dI aP pT pR pN pB bP bF bL bH cD cI cQ iw ih al ac de nb tT tR f2 uP uF uL uH hw6 hh6 (((y0 + tq) * iw + x0)) (zrow (x := x0) (y := y0 + tq) (by omega) (by omega))) (cwV 1 (dr_words hts d0) gX2_stiffenBy_X2_hasWood rfl rfl rfl (by decide +kernel) ⟨Nat.le_of_ble_eq_true rfl, Nat.le_of_ble_eq_true rfl⟩) ⟨zfb, va_recv hK hP (ci := 2) (q0 := 0) rfl rfl, zpre hPc hK⟩ rfl rfl hl.1 rfl (lv_room (Nat.le_of_ble_eq_true rfl)) dX2_stiffenBy_76 ⟨Nat.le_of_ble_eq_true rfl, Nat.le_of_ble_eq_true rfl⟩) hS (fun q _ h => h.elim) (fun q h => h.elim) (fun r11 u9 t9 H locs ht9 hvm9 hr11 hB9 hz9 hk1 hS => ?_)
            have hP := zro1 hP hk1
            have hr11 : r11 = zb (zgt (T ((y0 + tq) * iw + x0)) z0) := by rw [hr11, show zv (tT (((y0 + tq) * iw + x0))) = T ((y0 + tq) * iw + x0) from gT _ (zrow (x := x0) (y := y0 + tq) (by omega) (by omega))]
            subst hr11
            refine z_if_eq_b (tgt := 104) hx hb dX2_stiffenBy_79 (by decide) (fun c12 => ?_) (fun c13 => ?_)
            · skip
              have cw := c12
              refine lv_iload hx hb dX2_stiffenBy_104 (lv_at hl 0 rfl) ?_
              refine lv_iload_n hx hb dX2_stiffenBy_106 rfl (lv_at hl 5 rfl) ?_
              refine t_iadd hx hb dX2_stiffenBy_107 (v := nI ((y0 + (tq + 1)) * iw + x0)) (zi_add (zidx_up _ _ _)) ?_
              refine lv_istore (lv' := [(7, .int (nI (((y0 + (tq + 1)) * iw + x0)))), (8, .int (nI (tq + 1))), (6, .int (nI (((y0 + ns) * iw + x0)))), (4, .double (uH k)), (3, .ref pN), (2, .int (nI iw)), (0, .ref aP), (1, .int (nI k))]) hx hb dX2_stiffenBy_108 hl (by decide) rfl (fun ls hl => ?_)
              refine lv_iinc (v := nI (tq + 2)) (lv' := [(8, .int (nI (tq + 2))), (7, .int (nI (((y0 + (tq + 1)) * iw + x0)))), (6, .int (nI (((y0 + ns) * iw + x0)))), (4, .double (uH k)), (3, .ref pN), (2, .int (nI iw)), (0, .ref aP), (1, .int (nI k))]) hx hb dX2_stiffenBy_110 hl (k := 1) rfl (show nI (tq + 1) + nI 1 = _ from zi_add (by omega)) (by decide) rfl (fun ls hl => ?_)
              refine lv_goto (tgt := 59) hx hb dX2_stiffenBy_113 (by decide) ?_
              exact ih_L_59 (tq + 1) f2 _ _ _ _ (by omega) (by omega) (zcr_c (zbN_no (fun hh => by first | (rw [cw] at hh; exact absurd hh.1 (by decide)) | (rw [cw2] at hh; exact absurd hh.2 (by decide)))).symm g2) hd0 hP hD hS (lv_sub hl [1, 0, 2, 3, 4, 5, 6, 7] rfl)
            · skip
              have cw := c13
              refine lv_aload_n hx hb dX2_stiffenBy_82 rfl (lv_at hl 6 rfl) ?_
              refine lv_iload hx hb dX2_stiffenBy_83 (lv_at hl 0 rfl) ?_
              refine lv_iload_n hx hb dX2_stiffenBy_85 rfl (lv_at hl 5 rfl) ?_
              refine t_iadd hx hb dX2_stiffenBy_86 (v := nI ((y0 + tq + 1) * iw + x0)) (zi_add (zidx_up _ _ _)) ?_
              have hPc := hP
              refine va_calli (va_runV (As := [.int (nI (((y0 + tq + 1) * iw + x0)))]) (rest := []) ⟨hx, hb, hml, hown, (dr_words hts d0)⟩ (c2_hasWood l dC dI aP pT pR pN pB bP bF bL bH cD cI cQ iw ih al ac de nb tT tR f2 uP uF uL uH hw6 hh6 (((y0 + tq + 1) * iw + x0)) (zrow (x := x0) (y := y0 + tq + 1) (by omega) (by omega))) (cwV 1 (dr_words hts d0) gX2_stiffenBy_X2_hasWood rfl rfl rfl (by decide +kernel) ⟨Nat.le_of_ble_eq_true rfl, Nat.le_of_ble_eq_true rfl⟩) ⟨zfb, va_recv hK hP (ci := 2) (q0 := 0) rfl rfl, zpre hPc hK⟩ rfl rfl hl.1 rfl (lv_room (Nat.le_of_ble_eq_true rfl)) dX2_stiffenBy_87 ⟨Nat.le_of_ble_eq_true rfl, Nat.le_of_ble_eq_true rfl⟩) hS (fun q _ h => h.elim) (fun q h => h.elim) (fun r14 u9 t9 H locs ht9 hvm9 hr14 hB9 hz9 hk1 hS => ?_)
              have hP := zro1 hP hk1
              have hr14 : r14 = zb (zgt (T ((y0 + tq + 1) * iw + x0)) z0) := by rw [hr14, show zv (tT (((y0 + tq + 1) * iw + x0))) = T ((y0 + tq + 1) * iw + x0) from gT _ (zrow (x := x0) (y := y0 + tq + 1) (by omega) (by omega))]
              subst hr14
              refine z_if_eq_b (tgt := 104) hx hb dX2_stiffenBy_90 (by decide) (fun c15 => ?_) (fun c16 => ?_)
              · skip
                have cw2 := c15
                refine lv_iload hx hb dX2_stiffenBy_104 (lv_at hl 0 rfl) ?_
                refine lv_iload_n hx hb dX2_stiffenBy_106 rfl (lv_at hl 5 rfl) ?_
                refine t_iadd hx hb dX2_stiffenBy_107 (v := nI ((y0 + (tq + 1)) * iw + x0)) (zi_add (zidx_up _ _ _)) ?_
                refine lv_istore (lv' := [(7, .int (nI (((y0 + (tq + 1)) * iw + x0)))), (8, .int (nI (tq + 1))), (6, .int (nI (((y0 + ns) * iw + x0)))), (4, .double (uH k)), (3, .ref pN), (2, .int (nI iw)), (0, .ref aP), (1, .int (nI k))]) hx hb dX2_stiffenBy_108 hl (by decide) rfl (fun ls hl => ?_)
                refine lv_iinc (v := nI (tq + 2)) (lv' := [(8, .int (nI (tq + 2))), (7, .int (nI (((y0 + (tq + 1)) * iw + x0)))), (6, .int (nI (((y0 + ns) * iw + x0)))), (4, .double (uH k)), (3, .ref pN), (2, .int (nI iw)), (0, .ref aP), (1, .int (nI k))]) hx hb dX2_stiffenBy_110 hl (k := 1) rfl (show nI (tq + 1) + nI 1 = _ from zi_add (by omega)) (by decide) rfl (fun ls hl => ?_)
                refine lv_goto (tgt := 59) hx hb dX2_stiffenBy_113 (by decide) ?_
                exact ih_L_59 (tq + 1) f2 _ _ _ _ (by omega) (by omega) (zcr_c (zbN_no (fun hh => by first | (rw [cw] at hh; exact absurd hh.1 (by decide)) | (rw [cw2] at hh; exact absurd hh.2 (by decide)))).symm g2) hd0 hP hD hS (lv_sub hl [1, 0, 2, 3, 4, 5, 6, 7] rfl)
              · skip
                have cw2 := c16
                refine lv_aload_n hx hb dX2_stiffenBy_93 rfl (lv_at hl 4 rfl) ?_
                refine lv_iload hx hb dX2_stiffenBy_94 (lv_at hl 0 rfl) ?_
                refine lv_aload_n hx hb dX2_stiffenBy_96 rfl (lv_at hl 4 rfl) ?_
                refine lv_iload hx hb dX2_stiffenBy_97 (lv_at hl 0 rfl) ?_
                refine z_dald (s := s.setDrawn d0) (n := (iw * ih)) (i := ((y0 + tq) * iw + x0)) hx hb hK hP 3 0 rfl rfl (zrow (x := x0) (y := y0 + tq) (by omega) (by omega)) (by omega) dX2_stiffenBy_99 ?_
                refine lv_dload hx hb dX2_stiffenBy_100 (lv_at hl 3 rfl) ?_
                refine zr_dadd hd0 hx hb (a := (zfold (zbNF iw T x0 y0 (zv (uH k))) tq N) ((y0 + tq) * iw + x0)) (b := zv (uH k)) (g2 _ (zrow (x := x0) (y := y0 + tq) (by omega) (by omega))) rfl dX2_stiffenBy_102 (fun r17 d18 hr17 hd18 => ?_)
                refine z_dast (s := s.setDrawn d18) (n := (iw * ih)) (i := ((y0 + tq) * iw + x0)) hx hb hK hP hD hS 3 0 rfl rfl (zrow (x := x0) (y := y0 + tq) (by omega) (by omega)) (by omega) dX2_stiffenBy_103 (fun H locs hP hD hS => ?_)
                have hP : va_P (dC, dI) vwCl [(aP, .inr (2, [.int (nI iw), .int (nI ih), .ref pT, .ref pR, .ref pN, .ref pB, .double al, .double ac, .double de])), (pT, .inl (cD, (iw * ih), .inr (.inr (.inr (.inl tT))))), (pR, .inl (cD, (iw * ih), .inr (.inr (.inr (.inl tR))))), (pN, .inl (cD, (iw * ih), .inr (.inr (.inr (.inl (zu f2 (((y0 + tq) * iw + x0)) r17)))))), (pB, .inr (0, [.ref bP, .ref bF, .ref bL, .ref bH, .int (nI nb)])), (bP, .inl (cI, 12, .inl uP)), (bF, .inl (cI, 12, .inl uF)), (bL, .inl (cI, 12, .inl uL)), (bH, .inl (cD, 12, .inr (.inr (.inr (.inl uH)))))] H := hP
                have hD : va_D A [(aP, .inr (2, [.int (nI iw), .int (nI ih), .ref pT, .ref pR, .ref pN, .ref pB, .double al, .double ac, .double de])), (pT, .inl (cD, (iw * ih), .inr (.inr (.inr (.inl tT))))), (pR, .inl (cD, (iw * ih), .inr (.inr (.inr (.inl tR))))), (pN, .inl (cD, (iw * ih), .inr (.inr (.inr (.inl (zu f2 (((y0 + tq) * iw + x0)) r17)))))), (pB, .inr (0, [.ref bP, .ref bF, .ref bL, .ref bH, .int (nI nb)])), (bP, .inl (cI, 12, .inl uP)), (bF, .inl (cI, 12, .inl uF)), (bL, .inl (cI, 12, .inl uL)), (bH, .inl (cD, 12, .inr (.inr (.inr (.inl uH)))))] := hD
                refine lv_iload hx hb dX2_stiffenBy_104 (lv_at hl 0 rfl) ?_
                refine lv_iload_n hx hb dX2_stiffenBy_106 rfl (lv_at hl 5 rfl) ?_
                refine t_iadd hx hb dX2_stiffenBy_107 (v := nI ((y0 + (tq + 1)) * iw + x0)) (zi_add (zidx_up _ _ _)) ?_
                refine lv_istore (lv' := [(7, .int (nI (((y0 + (tq + 1)) * iw + x0)))), (8, .int (nI (tq + 1))), (6, .int (nI (((y0 + ns) * iw + x0)))), (4, .double (uH k)), (3, .ref pN), (2, .int (nI iw)), (0, .ref aP), (1, .int (nI k))]) hx hb dX2_stiffenBy_108 hl (by decide) rfl (fun ls hl => ?_)
                refine lv_iinc (v := nI (tq + 2)) (lv' := [(8, .int (nI (tq + 2))), (7, .int (nI (((y0 + (tq + 1)) * iw + x0)))), (6, .int (nI (((y0 + ns) * iw + x0)))), (4, .double (uH k)), (3, .ref pN), (2, .int (nI iw)), (0, .ref aP), (1, .int (nI k))]) hx hb dX2_stiffenBy_110 hl (k := 1) rfl (show nI (tq + 1) + nI 1 = _ from zi_add (by omega)) (by decide) rfl (fun ls hl => ?_)
                refine lv_goto (tgt := 59) hx hb dX2_stiffenBy_113 (by decide) ?_
                exact ih_L_59 (tq + 1) (zu f2 (((y0 + tq) * iw + x0)) r17) _ _ _ _ (by omega) (by omega) (zcr_c (zbN_yes ⟨cw, cw2⟩).symm (zcr_put g2 hr17)) hd18 hP hD hS (lv_sub hl [1, 0, 2, 3, 4, 5, 6, 7] rfl)
    exact L_59 _ 0 tN _ _ _ _ (Nat.lt_succ_self _) (by omega) gN hd0 hP hD hS (lv_sub hl [1, 0, 2, 3, 4, 5, 6, 7] rfl)
  · skip
    omega
/-- brace k of the class: along x by the pace 1, along y by the pace of the width -/
def zbr (iw : Nat) (uP uF uL : Nat → Int32) (bx0 by0 bx1 by1 : Nat → Nat) (k : Nat) : Prop := (by0 k = by1 k ∧ uP k = nI 1 ∧ uF k = nI (by0 k * iw + bx0 k) ∧ uL k = nI (by0 k * iw + bx1 k)) ∨ (¬ by0 k = by1 k ∧ bx0 k = bx1 k ∧ uP k = nI iw ∧ uF k = nI (by0 k * iw + bx0 k) ∧ uL k = nI (by1 k * iw + bx0 k))
theorem zRB_s {w : Nat} {T : Nat → ZD} {A : ZD} {x0 y0 x1 : Nat → Nat} {g : Nat → ZD} {k : Nat} : zRB w T A x0 y0 x1 g (k + 1) = zfold (zbRF w T (x0 k) (y0 k) (g k)) (x1 k - x0 k) (zRB w T A x0 y0 x1 g k) := rfl
theorem zNB_s {w h : Nat} {T : Nat → ZD} {B : ZD} {x0 y0 y1 : Nat → Nat} {g : Nat → ZD} {k : Nat} : zNB w h T B x0 y0 y1 g (k + 1) = zfold (zbNF w T (x0 k) (y0 k) (g k)) (y1 k - y0 k) (zNB w h T B x0 y0 y1 g k) := rfl
theorem zRB_o {w : Nat} {T : Nat → ZD} {A : ZD} {x0 y0 x1 : Nat → Nat} {g : Nat → ZD} {k : Nat} (h : x0 k = x1 k) : zRB w T A x0 y0 x1 g k = zRB w T A x0 y0 x1 g (k + 1) := by
  rw [zRB_s, show x1 k - x0 k = 0 by omega]
  rfl
theorem zNB_o {w h : Nat} {T : Nat → ZD} {B : ZD} {x0 y0 y1 : Nat → Nat} {g : Nat → ZD} {k : Nat} (e : y0 k = y1 k) : zNB w h T B x0 y0 y1 g k = zNB w h T B x0 y0 y1 g (k + 1) := by
  rw [zNB_s, show y1 k - y0 k = 0 by omega]
  rfl
theorem in_X2_bindSprings_X2 : ∀ w ∈ wsX20, w ∈ wsX2_bindSprings := by intro w h; unfold wsX2_bindSprings; simp only [List.mem_cons, List.mem_append]; first | exact Or.inr (Or.inr h) | exact Or.inr (Or.inl (Or.inr h)) | exact Or.inr (Or.inl (Or.inl (Or.inr h))) | exact Or.inr (Or.inr (Or.inl h)) | exact Or.inr (Or.inr (Or.inr h))
set_option maxHeartbeats 4000000 in
set_option maxRecDepth 100000 in
/-- bindSprings -/
theorem c2_bindSprings (l : Launch) (dC : Nat → ClassId) (dI : Nat → Nat → Nat) (aP pT pR pN pB bP bF bL bH : Nat) (cD cI cQ : ClassId) (iw ih : Nat) (al ac de : UInt64) (nb : Nat) (tT tR tN : Nat → UInt64) (uP uF uL : Nat → Int32) (uH : Nat → UInt64) (hw6 : iw ≤ 6) (hh6 : ih ≤ 6) (T : Nat → ZD) (gT : zcr tT (iw * ih) T) (bx0 by0 bx1 by1 : Nat → Nat) (bg : Nat → ZD) (hb12 : nb ≤ 12) (hw2 : 2 ≤ iw) (gBr : ∀ k, k < nb → zbr iw uP uF uL bx0 by0 bx1 by1 k) (gB : ∀ k, k < nb → bx0 k ≤ bx1 k ∧ bx1 k < iw ∧ by0 k ≤ by1 k ∧ by1 k < ih) (gG : ∀ k, k < nb → zv (uH k) = bg k) (sz : Nat) : MetD lw_cs l yX2_bindSprings wsX2_bindSprings ({ frames := 2, cells := 0, slots := 0, locals := 49 } : Room) (va_Pc [.ref aP] (fun U => U.heap.size = sz ∧ va_P (dC, dI) vwCl [(aP, .inr (2, [.int (nI iw), .int (nI ih), .ref pT, .ref pR, .ref pN, .ref pB, .double al, .double ac, .double de])), (pT, .inl (cD, (iw * ih), .inr (.inr (.inr (.inl tT))))), (pR, .inl (cD, (iw * ih), .inr (.inr (.inr (.inl tR))))), (pN, .inl (cD, (iw * ih), .inr (.inr (.inr (.inl tN))))), (pB, .inr (0, [.ref bP, .ref bF, .ref bL, .ref bH, .int (nI nb)])), (bP, .inl (cI, 12, .inl uP)), (bF, .inl (cI, 12, .inl uF)), (bL, .inl (cI, 12, .inl uL)), (bH, .inl (cD, 12, .inr (.inr (.inr (.inl uH)))))] U.heap ∧ va_K (dC, dI) vwCl [(cD, .double), (cI, .int), (cQ, .array .double)] U ∧ va_D (fun _ => True) [(aP, .inr (2, [.int (nI iw), .int (nI ih), .ref pT, .ref pR, .ref pN, .ref pB, .double al, .double ac, .double de])), (pT, .inl (cD, (iw * ih), .inr (.inr (.inr (.inl tT))))), (pR, .inl (cD, (iw * ih), .inr (.inr (.inr (.inl tR))))), (pN, .inl (cD, (iw * ih), .inr (.inr (.inr (.inl tN))))), (pB, .inr (0, [.ref bP, .ref bF, .ref bL, .ref bH, .int (nI nb)])), (bP, .inl (cI, 12, .inl uP)), (bF, .inl (cI, 12, .inl uF)), (bL, .inl (cI, 12, .inl uL)), (bH, .inl (cD, 12, .inr (.inr (.inr (.inl uH)))))])) (va_Qv (fun u : (Nat → UInt64) × (Nat → UInt64) => zcr u.1 (iw * ih) (zRB iw T (zv al) bx0 by0 bx1 bg nb) ∧ zcr u.2 (iw * ih) (zNB iw ih T (zv ac) bx0 by0 by1 bg nb)) (fun u t => (va_P (dC, dI) vwCl [(aP, .inr (2, [.int (nI iw), .int (nI ih), .ref pT, .ref pR, .ref pN, .ref pB, .double al, .double ac, .double de])), (pT, .inl (cD, (iw * ih), .inr (.inr (.inr (.inl tT))))), (pR, .inl (cD, (iw * ih), .inr (.inr (.inr (.inl u.1))))), (pN, .inl (cD, (iw * ih), .inr (.inr (.inr (.inl u.2))))), (pB, .inr (0, [.ref bP, .ref bF, .ref bL, .ref bH, .int (nI nb)])), (bP, .inl (cI, 12, .inl uP)), (bF, .inl (cI, 12, .inl uF)), (bL, .inl (cI, 12, .inl uL)), (bH, .inl (cD, 12, .inr (.inr (.inr (.inl uH)))))] t.heap ∧ va_K (dC, dI) vwCl [(cD, .double), (cI, .int), (cQ, .array .double)] t ∧ va_D (va_A [(aP, .inr (2, [.int (nI iw), .int (nI ih), .ref pT, .ref pR, .ref pN, .ref pB, .double al, .double ac, .double de])), (pT, .inl (cD, (iw * ih), .inr (.inr (.inr (.inl tT))))), (pR, .inl (cD, (iw * ih), .inr (.inr (.inr (.inl tR))))), (pN, .inl (cD, (iw * ih), .inr (.inr (.inr (.inl tN))))), (pB, .inr (0, [.ref bP, .ref bF, .ref bL, .ref bH, .int (nI nb)])), (bP, .inl (cI, 12, .inl uP)), (bF, .inl (cI, 12, .inl uF)), (bL, .inl (cI, 12, .inl uL)), (bH, .inl (cD, 12, .inr (.inr (.inr (.inl uH)))))] sz) [(aP, .inr (2, [.int (nI iw), .int (nI ih), .ref pT, .ref pR, .ref pN, .ref pB, .double al, .double ac, .double de])), (pT, .inl (cD, (iw * ih), .inr (.inr (.inr (.inl tT))))), (pR, .inl (cD, (iw * ih), .inr (.inr (.inr (.inl u.1))))), (pN, .inl (cD, (iw * ih), .inr (.inr (.inr (.inl u.2))))), (pB, .inr (0, [.ref bP, .ref bF, .ref bL, .ref bH, .int (nI nb)])), (bP, .inl (cI, 12, .inl uP)), (bF, .inl (cI, 12, .inl uF)), (bL, .inl (cI, 12, .inl uL)), (bH, .inl (cD, 12, .inr (.inr (.inr (.inl uH)))))])) (va_A [(aP, .inr (2, [.int (nI iw), .int (nI ih), .ref pT, .ref pR, .ref pN, .ref pB, .double al, .double ac, .double de])), (pT, .inl (cD, (iw * ih), .inr (.inr (.inr (.inl tT))))), (pR, .inl (cD, (iw * ih), .inr (.inr (.inr (.inl tR))))), (pN, .inl (cD, (iw * ih), .inr (.inr (.inr (.inl tN))))), (pB, .inr (0, [.ref bP, .ref bF, .ref bL, .ref bH, .int (nI nb)])), (bP, .inl (cI, 12, .inl uP)), (bF, .inl (cI, 12, .inl uF)), (bL, .inl (cI, 12, .inl uL)), (bH, .inl (cD, 12, .inr (.inr (.inr (.inl uH)))))] sz)) 0 0 (va_A [(aP, .inr (2, [.int (nI iw), .int (nI ih), .ref pT, .ref pR, .ref pN, .ref pB, .double al, .double ac, .double de])), (pT, .inl (cD, (iw * ih), .inr (.inr (.inr (.inl tT))))), (pR, .inl (cD, (iw * ih), .inr (.inr (.inr (.inl tR))))), (pN, .inl (cD, (iw * ih), .inr (.inr (.inr (.inl tN))))), (pB, .inr (0, [.ref bP, .ref bF, .ref bL, .ref bH, .int (nI nb)])), (bP, .inl (cI, 12, .inl uP)), (bF, .inl (cI, 12, .inl uF)), (bL, .inl (cI, 12, .inl uL)), (bH, .inl (cD, 12, .inr (.inr (.inr (.inl uH)))))] sz) := by
  refine MetD.ofW (cc := cX2_bindSprings) (maxL := 4) (ret := none) (by decide) rfl ?_
  intro p e s m args below meth c s₁ B hml hv hd0
  obtain ⟨rfl, hsz, hP, hK, hD0⟩ := hv
  have hx := B.exec
  have hb := B.bytes
  have hr := B.returns
  have hts := atoms_spec (ws := wsX2_bindSprings) B.pre
  have hown : s.vm.findClass RX2 = some m.cls := findClass_of_methodNamed B.named
  have hlocks := B.notSynchronized
  subst hsz
  have hD := hD0.self (sz := s.heap.size)
  generalize hAe : va_A [(aP, .inr (2, [.int (nI iw), .int (nI ih), .ref pT, .ref pR, .ref pN, .ref pB, .double al, .double ac, .double de])), (pT, .inl (cD, (iw * ih), .inr (.inr (.inr (.inl tT))))), (pR, .inl (cD, (iw * ih), .inr (.inr (.inr (.inl tR))))), (pN, .inl (cD, (iw * ih), .inr (.inr (.inr (.inl tN))))), (pB, .inr (0, [.ref bP, .ref bF, .ref bL, .ref bH, .int (nI nb)])), (bP, .inl (cI, 12, .inl uP)), (bF, .inl (cI, 12, .inl uF)), (bL, .inl (cI, 12, .inl uL)), (bH, .inl (cD, 12, .inr (.inr (.inr (.inl uH)))))] s.heap.size = A at hD ⊢
  have hA : ∀ q : Nat, s.heap.size ≤ q → A q := fun q h => by rw [← hAe]; exact Or.inr h
  have hS : va_S A s.heap s.heap [] := va_S.rf
  have hl := lv_entry ([.ref aP]) (n := 4) (Nat.le_of_ble_eq_true rfl)
  rw [lg_entry_eq]
  generalize (lg_sl ([.ref aP]) ++ List.replicate (4 - (lg_sl ([.ref aP])).length) Slot.unset).toArray = ls at hl ⊢
  have hl : lv_has ls 4 [(0, .ref aP)] := hl
  have hn36 : iw * ih ≤ 36 := Nat.mul_le_mul hw6 hh6
  refine lv_iconst (v := (nI 0)) hx hb dX2_bindSprings_0 (by decide) ?_
  refine lv_istore_n (lv' := [(1, .int (nI 0)), (0, .ref aP)]) hx hb dX2_bindSprings_1 rfl hl (by decide) rfl (fun ls hl => ?_)
  have L_2 : ∀ (n : Nat) (y : Nat) (fR : Nat → UInt64) (fN : Nat → UInt64) (d0 : Drawn) (H : Heap) (locs : List Loc) (ls : Array Slot), ih - y < n → (y ≤ ih) → (zcp2 fR (iw * ih) (y * iw) (zR0 iw T (zv al))) → (zcp2 fN (iw * ih) (y * iw) (zN0 iw ih T (zv ac))) → s.drawn.sameBut d0 lw_cs → va_P (dC, dI) vwCl [(aP, .inr (2, [.int (nI iw), .int (nI ih), .ref pT, .ref pR, .ref pN, .ref pB, .double al, .double ac, .double de])), (pT, .inl (cD, (iw * ih), .inr (.inr (.inr (.inl tT))))), (pR, .inl (cD, (iw * ih), .inr (.inr (.inr (.inl fR))))), (pN, .inl (cD, (iw * ih), .inr (.inr (.inr (.inl fN))))), (pB, .inr (0, [.ref bP, .ref bF, .ref bL, .ref bH, .int (nI nb)])), (bP, .inl (cI, 12, .inl uP)), (bF, .inl (cI, 12, .inl uF)), (bL, .inl (cI, 12, .inl uL)), (bH, .inl (cD, 12, .inr (.inr (.inr (.inl uH)))))] H → va_D A [(aP, .inr (2, [.int (nI iw), .int (nI ih), .ref pT, .ref pR, .ref pN, .ref pB, .double al, .double ac, .double de])), (pT, .inl (cD, (iw * ih), .inr (.inr (.inr (.inl tT))))), (pR, .inl (cD, (iw * ih), .inr (.inr (.inr (.inl fR))))), (pN, .inl (cD, (iw * ih), .inr (.inr (.inr (.inl fN))))), (pB, .inr (0, [.ref bP, .ref bF, .ref bL, .ref bH, .int (nI nb)])), (bP, .inl (cI, 12, .inl uP)), (bF, .inl (cI, 12, .inl uF)), (bL, .inl (cI, 12, .inl uL)), (bH, .inl (cD, 12, .inr (.inr (.inr (.inl uH)))))] → va_S A s.heap H locs → lv_has ls 4 [(1, .int (nI y)), (0, .ref aP)] → W p l e (headSpec wsX2_bindSprings ({ frames := 2, cells := 0, slots := 0, locals := 49 } : Room)).room (s.setDrawn d0) m ([.ref aP] : List Value).toArray below meth c H locs 0 0 (MQD lw_cs below (va_Qv (fun u : (Nat → UInt64) × (Nat → UInt64) => zcr u.1 (iw * ih) (zRB iw T (zv al) bx0 by0 bx1 bg nb) ∧ zcr u.2 (iw * ih) (zNB iw ih T (zv ac) bx0 by0 by1 bg nb)) (fun u t => (va_P (dC, dI) vwCl [(aP, .inr (2, [.int (nI iw), .int (nI ih), .ref pT, .ref pR, .ref pN, .ref pB, .double al, .double ac, .double de])), (pT, .inl (cD, (iw * ih), .inr (.inr (.inr (.inl tT))))), (pR, .inl (cD, (iw * ih), .inr (.inr (.inr (.inl u.1))))), (pN, .inl (cD, (iw * ih), .inr (.inr (.inr (.inl u.2))))), (pB, .inr (0, [.ref bP, .ref bF, .ref bL, .ref bH, .int (nI nb)])), (bP, .inl (cI, 12, .inl uP)), (bF, .inl (cI, 12, .inl uF)), (bL, .inl (cI, 12, .inl uL)), (bH, .inl (cD, 12, .inr (.inr (.inr (.inl uH)))))] t.heap ∧ va_K (dC, dI) vwCl [(cD, .double), (cI, .int), (cQ, .array .double)] t ∧ va_D A [(aP, .inr (2, [.int (nI iw), .int (nI ih), .ref pT, .ref pR, .ref pN, .ref pB, .double al, .double ac, .double de])), (pT, .inl (cD, (iw * ih), .inr (.inr (.inr (.inl tT))))), (pR, .inl (cD, (iw * ih), .inr (.inr (.inr (.inl u.1))))), (pN, .inl (cD, (iw * ih), .inr (.inr (.inr (.inl u.2))))), (pB, .inr (0, [.ref bP, .ref bF, .ref bL, .ref bH, .int (nI nb)])), (bP, .inl (cI, 12, .inl uP)), (bF, .inl (cI, 12, .inl uF)), (bL, .inl (cI, 12, .inl uL)), (bH, .inl (cD, 12, .inr (.inr (.inr (.inl uH)))))])) A) ([.ref aP] : List Value).toArray s 0 0 A) (F0 m 2 ls []) := by
    intro n
    induction n with
    | zero => intro y fR fN d0 H locs ls hn; exact absurd hn (Nat.not_lt_zero _)
    | succ n ih_L_2 =>
      intro y fR fN d0 H locs ls hn hyh hR hN2 hd0 hP hD hS hl
      refine lv_iload_n hx hb dX2_bindSprings_2 rfl (lv_at hl 0 rfl) ?_
      refine lv_aload_n hx hb dX2_bindSprings_3 rfl (lv_at hl 1 rfl) ?_
      refine va_get (D := (dC, dI)) (ci := 2) (v := .int (nI ih)) (C := RX2) (T := TX2) (N := 9) hx hb (dr_words hts d0) (in_X2_bindSprings_X2) hown hK hP 0 rfl rfl 1 (by decide) (dr_words hts d0 (.fieldLink RX2 15 "PlateModes$Plate" "height" "I") (by decide +kernel)) (fun _ h9 => h9) rfl dX2_bindSprings_4 ?_
      refine z_icmp_ge (a := y) (b := ih) (tgt := 106) hx hb (by omega) (by omega) dX2_bindSprings_7 (by decide) (fun c1 => ?_) (fun c2 => ?_)
      · skip
        refine lv_iconst (v := (nI 0)) hx hb dX2_bindSprings_106 (by decide) ?_
        refine lv_istore_n (lv' := [(1, .int (nI 0)), (0, .ref aP)]) hx hb dX2_bindSprings_107 rfl hl (by decide) rfl (fun ls hl => ?_)
        have L_108 : ∀ (n : Nat) (k : Nat) (qR : Nat → UInt64) (qN : Nat → UInt64) (d0 : Drawn) (H : Heap) (locs : List Loc) (ls : Array Slot), nb - k < n → (k ≤ nb) → (zcr qR (iw * ih) (zRB iw T (zv al) bx0 by0 bx1 bg k)) → (zcr qN (iw * ih) (zNB iw ih T (zv ac) bx0 by0 by1 bg k)) → s.drawn.sameBut d0 lw_cs → va_P (dC, dI) vwCl [(aP, .inr (2, [.int (nI iw), .int (nI ih), .ref pT, .ref pR, .ref pN, .ref pB, .double al, .double ac, .double de])), (pT, .inl (cD, (iw * ih), .inr (.inr (.inr (.inl tT))))), (pR, .inl (cD, (iw * ih), .inr (.inr (.inr (.inl qR))))), (pN, .inl (cD, (iw * ih), .inr (.inr (.inr (.inl qN))))), (pB, .inr (0, [.ref bP, .ref bF, .ref bL, .ref bH, .int (nI nb)])), (bP, .inl (cI, 12, .inl uP)), (bF, .inl (cI, 12, .inl uF)), (bL, .inl (cI, 12, .inl uL)), (bH, .inl (cD, 12, .inr (.inr (.inr (.inl uH)))))] H → va_D A [(aP, .inr (2, [.int (nI iw), .int (nI ih), .ref pT, .ref pR, .ref pN, .ref pB, .double al, .double ac, .double de])), (pT, .inl (cD, (iw * ih), .inr (.inr (.inr (.inl tT))))), (pR, .inl (cD, (iw * ih), .inr (.inr (.inr (.inl qR))))), (pN, .inl (cD, (iw * ih), .inr (.inr (.inr (.inl qN))))), (pB, .inr (0, [.ref bP, .ref bF, .ref bL, .ref bH, .int (nI nb)])), (bP, .inl (cI, 12, .inl uP)), (bF, .inl (cI, 12, .inl uF)), (bL, .inl (cI, 12, .inl uL)), (bH, .inl (cD, 12, .inr (.inr (.inr (.inl uH)))))] → va_S A s.heap H locs → lv_has ls 4 [(1, .int (nI k)), (0, .ref aP)] → W p l e (headSpec wsX2_bindSprings ({ frames := 2, cells := 0, slots := 0, locals := 49 } : Room)).room (s.setDrawn d0) m ([.ref aP] : List Value).toArray below meth c H locs 0 0 (MQD lw_cs below (va_Qv (fun u : (Nat → UInt64) × (Nat → UInt64) => zcr u.1 (iw * ih) (zRB iw T (zv al) bx0 by0 bx1 bg nb) ∧ zcr u.2 (iw * ih) (zNB iw ih T (zv ac) bx0 by0 by1 bg nb)) (fun u t => (va_P (dC, dI) vwCl [(aP, .inr (2, [.int (nI iw), .int (nI ih), .ref pT, .ref pR, .ref pN, .ref pB, .double al, .double ac, .double de])), (pT, .inl (cD, (iw * ih), .inr (.inr (.inr (.inl tT))))), (pR, .inl (cD, (iw * ih), .inr (.inr (.inr (.inl u.1))))), (pN, .inl (cD, (iw * ih), .inr (.inr (.inr (.inl u.2))))), (pB, .inr (0, [.ref bP, .ref bF, .ref bL, .ref bH, .int (nI nb)])), (bP, .inl (cI, 12, .inl uP)), (bF, .inl (cI, 12, .inl uF)), (bL, .inl (cI, 12, .inl uL)), (bH, .inl (cD, 12, .inr (.inr (.inr (.inl uH)))))] t.heap ∧ va_K (dC, dI) vwCl [(cD, .double), (cI, .int), (cQ, .array .double)] t ∧ va_D A [(aP, .inr (2, [.int (nI iw), .int (nI ih), .ref pT, .ref pR, .ref pN, .ref pB, .double al, .double ac, .double de])), (pT, .inl (cD, (iw * ih), .inr (.inr (.inr (.inl tT))))), (pR, .inl (cD, (iw * ih), .inr (.inr (.inr (.inl u.1))))), (pN, .inl (cD, (iw * ih), .inr (.inr (.inr (.inl u.2))))), (pB, .inr (0, [.ref bP, .ref bF, .ref bL, .ref bH, .int (nI nb)])), (bP, .inl (cI, 12, .inl uP)), (bF, .inl (cI, 12, .inl uF)), (bL, .inl (cI, 12, .inl uL)), (bH, .inl (cD, 12, .inr (.inr (.inr (.inl uH)))))])) A) ([.ref aP] : List Value).toArray s 0 0 A) (F0 m 108 ls []) := by
          intro n
          induction n with
          | zero => intro k qR qN d0 H locs ls hn; exact absurd hn (Nat.not_lt_zero _)
          | succ n ih_L_108 =>
            intro k qR qN d0 H locs ls hn hk hR3 hN3 hd0 hP hD hS hl
            refine lv_iload_n hx hb dX2_bindSprings_108 rfl (lv_at hl 0 rfl) ?_
            refine lv_aload_n hx hb dX2_bindSprings_109 rfl (lv_at hl 1 rfl) ?_
            refine va_get (D := (dC, dI)) (ci := 2) (v := .ref pB) (C := RX2) (T := TX2) (N := 9) hx hb (dr_words hts d0) (in_X2_bindSprings_X2) hown hK hP 0 rfl rfl 5 (by decide) (dr_words hts d0 (.fieldLink RX2 31 "PlateModes$Plate" "braces" "LPlateModes$Braces;") (by decide +kernel)) (fun _ h9 => h9) rfl dX2_bindSprings_110 ?_
            have hPc := hP.sub (ws' := [(pB, .inr (0, [.ref bP, .ref bF, .ref bL, .ref bH, .int (nI nb)])), (bP, .inl (cI, 12, .inl uP)), (bF, .inl (cI, 12, .inl uF)), (bL, .inl (cI, 12, .inl uL)), (bH, .inl (cD, 12, .inr (.inr (.inr (.inl uH)))))]) [4, 5, 6, 7, 8] rfl
            refine va_calli (va_runV (As := []) (rest := [.int (nI k)]) ⟨hx, hb, hml, hown, (dr_words hts d0)⟩ (c0_count l dC dI pB bP bF bL bH cD cI cQ nb uP uF uL uH ) (cwV 0 (dr_words hts d0) gX2_bindSprings_X0_count rfl rfl rfl (by decide +kernel) ⟨Nat.le_of_ble_eq_true rfl, Nat.le_of_ble_eq_true rfl⟩) ⟨zfb, va_recv hK hP (ci := 0) (q0 := 4) rfl rfl, zpre hPc hK⟩ rfl rfl hl.1 rfl (lv_room (Nat.le_of_ble_eq_true rfl)) dX2_bindSprings_113 ⟨Nat.le_of_ble_eq_true rfl, Nat.le_of_ble_eq_true rfl⟩) hS (fun q _ h => h.elim) (fun q h => h.elim) (fun r3 u9 t9 H locs ht9 hvm9 hr3 hB9 hz9 hk1 hS => ?_)
            have hP := zro1 hP hk1
            subst hr3
            refine z_icmp_ge (a := k) (b := nb) (tgt := 130) hx hb (by omega) (by omega) dX2_bindSprings_116 (by decide) (fun c4 => ?_) (fun c5 => ?_)
            · skip
              refine W.endD hd0 ?_
              exact W.vret hx hb hr (fun t ht hW => ⟨⟨(qR, qN), rfl, (by have e : k = nb := (by omega); subst e; exact ⟨hR3, hN3⟩), by rw [ht]; exact hP, va_K.moved hW.alike hK, hD⟩, hS.F ht⟩) hS.2.2 dX2_bindSprings_130
            · skip
              obtain ⟨gb1, gb2, gb3, gb4⟩ := gB k (by omega)
              refine lv_aload_n hx hb dX2_bindSprings_119 rfl (lv_at hl 1 rfl) ?_
              refine lv_iload_n hx hb dX2_bindSprings_120 rfl (lv_at hl 0 rfl) ?_
              by_cases hax : decide (by0 k = by1 k) = true
              · skip
                have hq : by0 k = by1 k := of_decide_eq_true hax
                obtain ⟨e1, e2, e3, e4⟩ : by0 k = by1 k ∧ uP k = nI 1 ∧ uF k = nI (by0 k * iw + bx0 k) ∧ uL k = nI (by0 k * iw + bx1 k) := (gBr k (by omega)).elim (fun q => q) (fun q => absurd hq q.1)
                have hPc := hP.sub (ws' := [(aP, .inr (2, [.int (nI iw), .int (nI ih), .ref pT, .ref pR, .ref pN, .ref pB, .double al, .double ac, .double de])), (pT, .inl (cD, (iw * ih), .inr (.inr (.inr (.inl tT))))), (pR, .inl (cD, (iw * ih), .inr (.inr (.inr (.inl qR))))), (pN, .inl (cD, (iw * ih), .inr (.inr (.inr (.inl qN))))), (pB, .inr (0, [.ref bP, .ref bF, .ref bL, .ref bH, .int (nI nb)])), (bP, .inl (cI, 12, .inl uP)), (bF, .inl (cI, 12, .inl uF)), (bL, .inl (cI, 12, .inl uL)), (bH, .inl (cD, 12, .inr (.inr (.inr (.inl uH)))))]) [0, 1, 2, 3, 4, 5, 6, 7, 8] rfl
                have hDc := hD.sub (ws' := [(aP, .inr (2, [.int (nI iw), .int (nI ih), .ref pT, .ref pR, .ref pN, .ref pB, .double al, .double ac, .double de])), (pT, .inl (cD, (iw * ih), .inr (.inr (.inr (.inl tT))))), (pR, .inl (cD, (iw * ih), .inr (.inr (.inr (.inl qR))))), (pN, .inl (cD, (iw * ih), .inr (.inr (.inr (.inl qN))))), (pB, .inr (0, [.ref bP, .ref bF, .ref bL, .ref bH, .int (nI nb)])), (bP, .inl (cI, 12, .inl uP)), (bF, .inl (cI, 12, .inl uF)), (bL, .inl (cI, 12, .inl uL)), (bH, .inl (cD, 12, .inr (.inr (.inr (.inl uH)))))]) [0, 1, 2, 3, 4, 5, 6, 7, 8] (by decide) rfl
                have hFc := va_free (wc := [(aP, .inr (2, [.int (nI iw), .int (nI ih), .ref pT, .ref pR, .ref pN, .ref pB, .double al, .double ac, .double de])), (pT, .inl (cD, (iw * ih), .inr (.inr (.inr (.inl tT))))), (pR, .inl (cD, (iw * ih), .inr (.inr (.inr (.inl qR))))), (pN, .inl (cD, (iw * ih), .inr (.inr (.inr (.inl qN))))), (pB, .inr (0, [.ref bP, .ref bF, .ref bL, .ref bH, .int (nI nb)])), (bP, .inl (cI, 12, .inl uP)), (bF, .inl (cI, 12, .inl uF)), (bL, .inl (cI, 12, .inl uL)), (bH, .inl (cD, 12, .inr (.inr (.inr (.inl uH)))))]) hD hS hA [0, 1, 2, 3, 4, 5, 6, 7, 8] rfl
                refine va_callvD hd0 (va_runV_D (As := [.int (nI k)]) (rest := []) ⟨hx, hb, hml, hown, (dr_words hts d0)⟩ (c2_stiffenX l dC dI aP pT pR pN pB bP bF bL bH cD cI cQ iw ih al ac de nb tT qR qN uP uF uL uH hw6 hh6 T gT k (by omega) (bx0 k) (by0 k) (bx1 k - bx0 k) (by omega) (by omega) e2 e3 (by rw [show bx0 k + (bx1 k - bx0 k) = bx1 k by omega]; exact e4) (zRB iw T (zv al) bx0 by0 bx1 bg k) hR3 _) (cwV 1 (dr_words hts d0) gX2_bindSprings_X2_stiffenBy rfl rfl rfl (by decide +kernel) ⟨Nat.le_of_ble_eq_true rfl, Nat.le_of_ble_eq_true rfl⟩) ⟨zfbw, va_recv hK hPc (ci := 2) (q0 := 0) rfl rfl, zprew hPc hK hDc⟩ rfl rfl hl.1 rfl (lv_room (Nat.le_of_ble_eq_true rfl)) dX2_bindSprings_121 ⟨(Nat.le_of_ble_eq_true rfl), (Nat.le_of_ble_eq_true rfl)⟩) hS (fun q _ h => hFc q h) hFc (fun u7 t9 H1 locs ht9 hvm9 hr6 hB9 hz9 hk1 hS dhd8 hd8 => ?_)
                obtain ⟨hP1, hK1, hD1⟩ := hB9
                rw [gG k (by omega)] at hr6
                rw [ht9] at hP1
                obtain ⟨hP, hD⟩ := va_join (wr := []) (w1 := [(aP, .inr (2, [.int (nI iw), .int (nI ih), .ref pT, .ref pR, .ref pN, .ref pB, .double al, .double ac, .double de])), (pT, .inl (cD, (iw * ih), .inr (.inr (.inr (.inl tT))))), (pR, .inl (cD, (iw * ih), .inr (.inr (.inr (.inl u7))))), (pN, .inl (cD, (iw * ih), .inr (.inr (.inr (.inl qN))))), (pB, .inr (0, [.ref bP, .ref bF, .ref bL, .ref bH, .int (nI nb)])), (bP, .inl (cI, 12, .inl uP)), (bF, .inl (cI, 12, .inl uF)), (bL, .inl (cI, 12, .inl uL)), (bH, .inl (cD, 12, .inr (.inr (.inr (.inl uH)))))]) hP hD [0, 1, 2, 3, 4, 5, 6, 7, 8] [] rfl rfl (by decide) (by decide) hk1 hFc hP1 hD1
                generalize H1 = H at hP hS ⊢
                have hP : va_P (dC, dI) vwCl [(aP, .inr (2, [.int (nI iw), .int (nI ih), .ref pT, .ref pR, .ref pN, .ref pB, .double al, .double ac, .double de])), (pT, .inl (cD, (iw * ih), .inr (.inr (.inr (.inl tT))))), (pR, .inl (cD, (iw * ih), .inr (.inr (.inr (.inl u7))))), (pN, .inl (cD, (iw * ih), .inr (.inr (.inr (.inl qN))))), (pB, .inr (0, [.ref bP, .ref bF, .ref bL, .ref bH, .int (nI nb)])), (bP, .inl (cI, 12, .inl uP)), (bF, .inl (cI, 12, .inl uF)), (bL, .inl (cI, 12, .inl uL)), (bH, .inl (cD, 12, .inr (.inr (.inr (.inl uH)))))] H := hP.sub (ws' := [(aP, .inr (2, [.int (nI iw), .int (nI ih), .ref pT, .ref pR, .ref pN, .ref pB, .double al, .double ac, .double de])), (pT, .inl (cD, (iw * ih), .inr (.inr (.inr (.inl tT))))), (pR, .inl (cD, (iw * ih), .inr (.inr (.inr (.inl u7))))), (pN, .inl (cD, (iw * ih), .inr (.inr (.inr (.inl qN))))), (pB, .inr (0, [.ref bP, .ref bF, .ref bL, .ref bH, .int (nI nb)])), (bP, .inl (cI, 12, .inl uP)), (bF, .inl (cI, 12, .inl uF)), (bL, .inl (cI, 12, .inl uL)), (bH, .inl (cD, 12, .inr (.inr (.inr (.inl uH)))))]) [0, 1, 2, 3, 4, 5, 6, 7, 8] rfl
                have hD : va_D A [(aP, .inr (2, [.int (nI iw), .int (nI ih), .ref pT, .ref pR, .ref pN, .ref pB, .double al, .double ac, .double de])), (pT, .inl (cD, (iw * ih), .inr (.inr (.inr (.inl tT))))), (pR, .inl (cD, (iw * ih), .inr (.inr (.inr (.inl u7))))), (pN, .inl (cD, (iw * ih), .inr (.inr (.inr (.inl qN))))), (pB, .inr (0, [.ref bP, .ref bF, .ref bL, .ref bH, .int (nI nb)])), (bP, .inl (cI, 12, .inl uP)), (bF, .inl (cI, 12, .inl uF)), (bL, .inl (cI, 12, .inl uL)), (bH, .inl (cD, 12, .inr (.inr (.inr (.inl uH)))))] := hD.sub (ws' := [(aP, .inr (2, [.int (nI iw), .int (nI ih), .ref pT, .ref pR, .ref pN, .ref pB, .double al, .double ac, .double de])), (pT, .inl (cD, (iw * ih), .inr (.inr (.inr (.inl tT))))), (pR, .inl (cD, (iw * ih), .inr (.inr (.inr (.inl u7))))), (pN, .inl (cD, (iw * ih), .inr (.inr (.inr (.inl qN))))), (pB, .inr (0, [.ref bP, .ref bF, .ref bL, .ref bH, .int (nI nb)])), (bP, .inl (cI, 12, .inl uP)), (bF, .inl (cI, 12, .inl uF)), (bL, .inl (cI, 12, .inl uL)), (bH, .inl (cD, 12, .inr (.inr (.inr (.inl uH)))))]) [0, 1, 2, 3, 4, 5, 6, 7, 8] (by decide) rfl
                refine lv_iinc (v := nI (k + 1)) (lv' := [(1, .int (nI (k + 1))), (0, .ref aP)]) hx hb dX2_bindSprings_124 hl (k := 0) rfl (show nI k + nI 1 = _ from zi_add (by omega)) (by decide) rfl (fun ls hl => ?_)
                refine lv_goto (tgt := 108) hx hb dX2_bindSprings_127 (by decide) ?_
                exact ih_L_108 (k + 1) u7 qN _ _ _ _ (by omega) (by omega) hr6 (zcr_c (zNB_o hq) hN3) hd8 hP hD hS hl
              · skip
                have hax : decide (by0 k = by1 k) = false := (Bool.not_eq_true _).mp hax
                have hq : ¬ by0 k = by1 k := of_decide_eq_false hax
                obtain ⟨e1, e5, e2, e3, e4⟩ : ¬ by0 k = by1 k ∧ bx0 k = bx1 k ∧ uP k = nI iw ∧ uF k = nI (by0 k * iw + bx0 k) ∧ uL k = nI (by1 k * iw + bx0 k) := (gBr k (by omega)).elim (fun q => absurd q.1 hq) (fun q => q)
                have hPc := hP.sub (ws' := [(aP, .inr (2, [.int (nI iw), .int (nI ih), .ref pT, .ref pR, .ref pN, .ref pB, .double al, .double ac, .double de])), (pT, .inl (cD, (iw * ih), .inr (.inr (.inr (.inl tT))))), (pR, .inl (cD, (iw * ih), .inr (.inr (.inr (.inl qR))))), (pN, .inl (cD, (iw * ih), .inr (.inr (.inr (.inl qN))))), (pB, .inr (0, [.ref bP, .ref bF, .ref bL, .ref bH, .int (nI nb)])), (bP, .inl (cI, 12, .inl uP)), (bF, .inl (cI, 12, .inl uF)), (bL, .inl (cI, 12, .inl uL)), (bH, .inl (cD, 12, .inr (.inr (.inr (.inl uH)))))]) [0, 1, 2, 3, 4, 5, 6, 7, 8] rfl
                have hDc := hD.sub (ws' := [(aP, .inr (2, [.int (nI iw), .int (nI ih), .ref pT, .ref pR, .ref pN, .ref pB, .double al, .double ac, .double de])), (pT, .inl (cD, (iw * ih), .inr (.inr (.inr (.inl tT))))), (pR, .inl (cD, (iw * ih), .inr (.inr (.inr (.inl qR))))), (pN, .inl (cD, (iw * ih), .inr (.inr (.inr (.inl qN))))), (pB, .inr (0, [.ref bP, .ref bF, .ref bL, .ref bH, .int (nI nb)])), (bP, .inl (cI, 12, .inl uP)), (bF, .inl (cI, 12, .inl uF)), (bL, .inl (cI, 12, .inl uL)), (bH, .inl (cD, 12, .inr (.inr (.inr (.inl uH)))))]) [0, 1, 2, 3, 4, 5, 6, 7, 8] (by decide) rfl
                have hFc := va_free (wc := [(aP, .inr (2, [.int (nI iw), .int (nI ih), .ref pT, .ref pR, .ref pN, .ref pB, .double al, .double ac, .double de])), (pT, .inl (cD, (iw * ih), .inr (.inr (.inr (.inl tT))))), (pR, .inl (cD, (iw * ih), .inr (.inr (.inr (.inl qR))))), (pN, .inl (cD, (iw * ih), .inr (.inr (.inr (.inl qN))))), (pB, .inr (0, [.ref bP, .ref bF, .ref bL, .ref bH, .int (nI nb)])), (bP, .inl (cI, 12, .inl uP)), (bF, .inl (cI, 12, .inl uF)), (bL, .inl (cI, 12, .inl uL)), (bH, .inl (cD, 12, .inr (.inr (.inr (.inl uH)))))]) hD hS hA [0, 1, 2, 3, 4, 5, 6, 7, 8] rfl
                refine va_callvD hd0 (va_runV_D (As := [.int (nI k)]) (rest := []) ⟨hx, hb, hml, hown, (dr_words hts d0)⟩ (c2_stiffenY l dC dI aP pT pR pN pB bP bF bL bH cD cI cQ iw ih al ac de nb tT qR qN uP uF uL uH hw6 hh6 T gT k (by omega) (bx0 k) (by0 k) (by1 k - by0 k) hw2 (by omega) (by omega) e2 e3 (by rw [show by0 k + (by1 k - by0 k) = by1 k by omega]; exact e4) (zNB iw ih T (zv ac) bx0 by0 by1 bg k) hN3 _) (cwV 1 (dr_words hts d0) gX2_bindSprings_X2_stiffenBy rfl rfl rfl (by decide +kernel) ⟨Nat.le_of_ble_eq_true rfl, Nat.le_of_ble_eq_true rfl⟩) ⟨zfbw, va_recv hK hPc (ci := 2) (q0 := 0) rfl rfl, zprew hPc hK hDc⟩ rfl rfl hl.1 rfl (lv_room (Nat.le_of_ble_eq_true rfl)) dX2_bindSprings_121 ⟨(Nat.le_of_ble_eq_true rfl), (Nat.le_of_ble_eq_true rfl)⟩) hS (fun q _ h => hFc q h) hFc (fun u10 t9 H1 locs ht9 hvm9 hr9 hB9 hz9 hk1 hS dhd11 hd11 => ?_)
                obtain ⟨hP1, hK1, hD1⟩ := hB9
                rw [gG k (by omega)] at hr9
                rw [ht9] at hP1
                obtain ⟨hP, hD⟩ := va_join (wr := []) (w1 := [(aP, .inr (2, [.int (nI iw), .int (nI ih), .ref pT, .ref pR, .ref pN, .ref pB, .double al, .double ac, .double de])), (pT, .inl (cD, (iw * ih), .inr (.inr (.inr (.inl tT))))), (pR, .inl (cD, (iw * ih), .inr (.inr (.inr (.inl qR))))), (pN, .inl (cD, (iw * ih), .inr (.inr (.inr (.inl u10))))), (pB, .inr (0, [.ref bP, .ref bF, .ref bL, .ref bH, .int (nI nb)])), (bP, .inl (cI, 12, .inl uP)), (bF, .inl (cI, 12, .inl uF)), (bL, .inl (cI, 12, .inl uL)), (bH, .inl (cD, 12, .inr (.inr (.inr (.inl uH)))))]) hP hD [0, 1, 2, 3, 4, 5, 6, 7, 8] [] rfl rfl (by decide) (by decide) hk1 hFc hP1 hD1
                generalize H1 = H at hP hS ⊢
                have hP : va_P (dC, dI) vwCl [(aP, .inr (2, [.int (nI iw), .int (nI ih), .ref pT, .ref pR, .ref pN, .ref pB, .double al, .double ac, .double de])), (pT, .inl (cD, (iw * ih), .inr (.inr (.inr (.inl tT))))), (pR, .inl (cD, (iw * ih), .inr (.inr (.inr (.inl qR))))), (pN, .inl (cD, (iw * ih), .inr (.inr (.inr (.inl u10))))), (pB, .inr (0, [.ref bP, .ref bF, .ref bL, .ref bH, .int (nI nb)])), (bP, .inl (cI, 12, .inl uP)), (bF, .inl (cI, 12, .inl uF)), (bL, .inl (cI, 12, .inl uL)), (bH, .inl (cD, 12, .inr (.inr (.inr (.inl uH)))))] H := hP.sub (ws' := [(aP, .inr (2, [.int (nI iw), .int (nI ih), .ref pT, .ref pR, .ref pN, .ref pB, .double al, .double ac, .double de])), (pT, .inl (cD, (iw * ih), .inr (.inr (.inr (.inl tT))))), (pR, .inl (cD, (iw * ih), .inr (.inr (.inr (.inl qR))))), (pN, .inl (cD, (iw * ih), .inr (.inr (.inr (.inl u10))))), (pB, .inr (0, [.ref bP, .ref bF, .ref bL, .ref bH, .int (nI nb)])), (bP, .inl (cI, 12, .inl uP)), (bF, .inl (cI, 12, .inl uF)), (bL, .inl (cI, 12, .inl uL)), (bH, .inl (cD, 12, .inr (.inr (.inr (.inl uH)))))]) [0, 1, 2, 3, 4, 5, 6, 7, 8] rfl
                have hD : va_D A [(aP, .inr (2, [.int (nI iw), .int (nI ih), .ref pT, .ref pR, .ref pN, .ref pB, .double al, .double ac, .double de])), (pT, .inl (cD, (iw * ih), .inr (.inr (.inr (.inl tT))))), (pR, .inl (cD, (iw * ih), .inr (.inr (.inr (.inl qR))))), (pN, .inl (cD, (iw * ih), .inr (.inr (.inr (.inl u10))))), (pB, .inr (0, [.ref bP, .ref bF, .ref bL, .ref bH, .int (nI nb)])), (bP, .inl (cI, 12, .inl uP)), (bF, .inl (cI, 12, .inl uF)), (bL, .inl (cI, 12, .inl uL)), (bH, .inl (cD, 12, .inr (.inr (.inr (.inl uH)))))] := hD.sub (ws' := [(aP, .inr (2, [.int (nI iw), .int (nI ih), .ref pT, .ref pR, .ref pN, .ref pB, .double al, .double ac, .double de])), (pT, .inl (cD, (iw * ih), .inr (.inr (.inr (.inl tT))))), (pR, .inl (cD, (iw * ih), .inr (.inr (.inr (.inl qR))))), (pN, .inl (cD, (iw * ih), .inr (.inr (.inr (.inl u10))))), (pB, .inr (0, [.ref bP, .ref bF, .ref bL, .ref bH, .int (nI nb)])), (bP, .inl (cI, 12, .inl uP)), (bF, .inl (cI, 12, .inl uF)), (bL, .inl (cI, 12, .inl uL)), (bH, .inl (cD, 12, .inr (.inr (.inr (.inl uH)))))]) [0, 1, 2, 3, 4, 5, 6, 7, 8] (by decide) rfl
                refine lv_iinc (v := nI (k + 1)) (lv' := [(1, .int (nI (k + 1))), (0, .ref aP)]) hx hb dX2_bindSprings_124 hl (k := 0) rfl (show nI k + nI 1 = _ from zi_add (by omega)) (by decide) rfl (fun ls hl => ?_)
                refine lv_goto (tgt := 108) hx hb dX2_bindSprings_127 (by decide) ?_
                exact ih_L_108 (k + 1) qR u10 _ _ _ _ (by omega) (by omega) (zcr_c (zRB_o e5) hR3) hr9 hd11 hP hD hS hl
        exact L_108 _ 0 fR fN _ _ _ _ (Nat.lt_succ_self _) (by omega) (zcp2_all hR (by rw [show y = ih by omega, Nat.mul_comm]; exact Nat.le_refl _)) (zcp2_all hN2 (by rw [show y = ih by omega, Nat.mul_comm]; exact Nat.le_refl _)) hd0 hP hD hS hl
      · skip
        refine lv_iconst (v := (nI 0)) hx hb dX2_bindSprings_10 (by decide) ?_
        refine lv_istore_n (lv' := [(2, .int (nI 0)), (1, .int (nI y)), (0, .ref aP)]) hx hb dX2_bindSprings_11 rfl hl (by decide) rfl (fun ls hl => ?_)
        have L_12 : ∀ (n : Nat) (x : Nat) (fR : Nat → UInt64) (fN : Nat → UInt64) (d0 : Drawn) (H : Heap) (locs : List Loc) (ls : Array Slot), iw - x < n → (x ≤ iw) → (zcp2 fR (iw * ih) (y * iw + x) (zR0 iw T (zv al))) → (zcp2 fN (iw * ih) (y * iw + x) (zN0 iw ih T (zv ac))) → s.drawn.sameBut d0 lw_cs → va_P (dC, dI) vwCl [(aP, .inr (2, [.int (nI iw), .int (nI ih), .ref pT, .ref pR, .ref pN, .ref pB, .double al, .double ac, .double de])), (pT, .inl (cD, (iw * ih), .inr (.inr (.inr (.inl tT))))), (pR, .inl (cD, (iw * ih), .inr (.inr (.inr (.inl fR))))), (pN, .inl (cD, (iw * ih), .inr (.inr (.inr (.inl fN))))), (pB, .inr (0, [.ref bP, .ref bF, .ref bL, .ref bH, .int (nI nb)])), (bP, .inl (cI, 12, .inl uP)), (bF, .inl (cI, 12, .inl uF)), (bL, .inl (cI, 12, .inl uL)), (bH, .inl (cD, 12, .inr (.inr (.inr (.inl uH)))))] H → va_D A [(aP, .inr (2, [.int (nI iw), .int (nI ih), .ref pT, .ref pR, .ref pN, .ref pB, .double al, .double ac, .double de])), (pT, .inl (cD, (iw * ih), .inr (.inr (.inr (.inl tT))))), (pR, .inl (cD, (iw * ih), .inr (.inr (.inr (.inl fR))))), (pN, .inl (cD, (iw * ih), .inr (.inr (.inr (.inl fN))))), (pB, .inr (0, [.ref bP, .ref bF, .ref bL, .ref bH, .int (nI nb)])), (bP, .inl (cI, 12, .inl uP)), (bF, .inl (cI, 12, .inl uF)), (bL, .inl (cI, 12, .inl uL)), (bH, .inl (cD, 12, .inr (.inr (.inr (.inl uH)))))] → va_S A s.heap H locs → lv_has ls 4 [(2, .int (nI x)), (1, .int (nI y)), (0, .ref aP)] → W p l e (headSpec wsX2_bindSprings ({ frames := 2, cells := 0, slots := 0, locals := 49 } : Room)).room (s.setDrawn d0) m ([.ref aP] : List Value).toArray below meth c H locs 0 0 (MQD lw_cs below (va_Qv (fun u : (Nat → UInt64) × (Nat → UInt64) => zcr u.1 (iw * ih) (zRB iw T (zv al) bx0 by0 bx1 bg nb) ∧ zcr u.2 (iw * ih) (zNB iw ih T (zv ac) bx0 by0 by1 bg nb)) (fun u t => (va_P (dC, dI) vwCl [(aP, .inr (2, [.int (nI iw), .int (nI ih), .ref pT, .ref pR, .ref pN, .ref pB, .double al, .double ac, .double de])), (pT, .inl (cD, (iw * ih), .inr (.inr (.inr (.inl tT))))), (pR, .inl (cD, (iw * ih), .inr (.inr (.inr (.inl u.1))))), (pN, .inl (cD, (iw * ih), .inr (.inr (.inr (.inl u.2))))), (pB, .inr (0, [.ref bP, .ref bF, .ref bL, .ref bH, .int (nI nb)])), (bP, .inl (cI, 12, .inl uP)), (bF, .inl (cI, 12, .inl uF)), (bL, .inl (cI, 12, .inl uL)), (bH, .inl (cD, 12, .inr (.inr (.inr (.inl uH)))))] t.heap ∧ va_K (dC, dI) vwCl [(cD, .double), (cI, .int), (cQ, .array .double)] t ∧ va_D A [(aP, .inr (2, [.int (nI iw), .int (nI ih), .ref pT, .ref pR, .ref pN, .ref pB, .double al, .double ac, .double de])), (pT, .inl (cD, (iw * ih), .inr (.inr (.inr (.inl tT))))), (pR, .inl (cD, (iw * ih), .inr (.inr (.inr (.inl u.1))))), (pN, .inl (cD, (iw * ih), .inr (.inr (.inr (.inl u.2))))), (pB, .inr (0, [.ref bP, .ref bF, .ref bL, .ref bH, .int (nI nb)])), (bP, .inl (cI, 12, .inl uP)), (bF, .inl (cI, 12, .inl uF)), (bL, .inl (cI, 12, .inl uL)), (bH, .inl (cD, 12, .inr (.inr (.inr (.inl uH)))))])) A) ([.ref aP] : List Value).toArray s 0 0 A) (F0 m 12 ls []) := by
          intro n
          induction n with
          | zero => intro x fR fN d0 H locs ls hn; exact absurd hn (Nat.not_lt_zero _)
          | succ n ih_L_12 =>
            intro x fR fN d0 H locs ls hn hxw hR hN2 hd0 hP hD hS hl
            refine lv_iload_n hx hb dX2_bindSprings_12 rfl (lv_at hl 0 rfl) ?_
            refine lv_aload_n hx hb dX2_bindSprings_13 rfl (lv_at hl 2 rfl) ?_
            refine va_get (D := (dC, dI)) (ci := 2) (v := .int (nI iw)) (C := RX2) (T := TX2) (N := 9) hx hb (dr_words hts d0) (in_X2_bindSprings_X2) hown hK hP 0 rfl rfl 0 (by decide) (dr_words hts d0 (.fieldLink RX2 9 "PlateModes$Plate" "width" "I") (by decide +kernel)) (fun _ h9 => h9) rfl dX2_bindSprings_14 ?_
            refine z_icmp_ge (a := x) (b := iw) (tgt := 100) hx hb (by omega) (by omega) dX2_bindSprings_17 (by decide) (fun c12 => ?_) (fun c13 => ?_)
            · skip
              refine lv_iinc (v := nI (y + 1)) (lv' := [(1, .int (nI (y + 1))), (2, .int (nI x)), (0, .ref aP)]) hx hb dX2_bindSprings_100 hl (k := 1) rfl (show nI y + nI 1 = _ from zi_add (by omega)) (by decide) rfl (fun ls hl => ?_)
              refine lv_goto (tgt := 2) hx hb dX2_bindSprings_103 (by decide) ?_
              exact ih_L_2 (y + 1) fR fN _ _ _ _ (by omega) (by omega) (zcp2_n hR (by rw [← zrow_end]; omega)) (zcp2_n hN2 (by rw [← zrow_end]; omega)) hd0 hP hD hS (lv_sub hl [0, 2] rfl)
            · skip
              refine lv_aload_n hx hb dX2_bindSprings_20 rfl (lv_at hl 2 rfl) ?_
              refine lv_iload_n hx hb dX2_bindSprings_21 rfl (lv_at hl 0 rfl) ?_
              refine lv_iload_n hx hb dX2_bindSprings_22 rfl (lv_at hl 1 rfl) ?_
              have hPc := hP
              refine va_calli (va_runV (As := [.int (nI x), .int (nI y)]) (rest := []) ⟨hx, hb, hml, hown, (dr_words hts d0)⟩ (c2_cellAt l dC dI aP pT pR pN pB bP bF bL bH cD cI cQ iw ih al ac de nb tT fR fN uP uF uL uH x y) (cwV 2 (dr_words hts d0) gX2_bindSprings_X2_cellAt rfl rfl rfl (by decide +kernel) ⟨Nat.le_of_ble_eq_true rfl, Nat.le_of_ble_eq_true rfl⟩) ⟨zfb, va_recv hK hP (ci := 2) (q0 := 0) rfl rfl, zpre hPc hK⟩ rfl rfl hl.1 rfl (lv_room (Nat.le_of_ble_eq_true rfl)) dX2_bindSprings_23 ⟨Nat.le_of_ble_eq_true rfl, Nat.le_of_ble_eq_true rfl⟩) hS (fun q _ h => h.elim) (fun q h => h.elim) (fun r14 u9 t9 H locs ht9 hvm9 hr14 hB9 hz9 hk1 hS => ?_)
              have hP := zro1 hP hk1
              subst hr14
              refine lv_istore_n (lv' := [(3, .int (nI (y * iw + x))), (2, .int (nI x)), (1, .int (nI y)), (0, .ref aP)]) hx hb dX2_bindSprings_26 rfl hl (by decide) rfl (fun ls hl => ?_)
              refine lv_aload_n hx hb dX2_bindSprings_27 rfl (lv_at hl 3 rfl) ?_
              refine va_get (D := (dC, dI)) (ci := 2) (v := .ref pR) (C := RX2) (T := TX2) (N := 9) hx hb (dr_words hts d0) (in_X2_bindSprings_X2) hown hK hP 0 rfl rfl 3 (by decide) (dr_words hts d0 (.fieldLink RX2 22 "PlateModes$Plate" "toRight" "[D") (by decide +kernel)) (fun _ h9 => h9) rfl dX2_bindSprings_28 ?_
              refine lv_iload_n hx hb dX2_bindSprings_31 rfl (lv_at hl 0 rfl) ?_
              refine lv_iload_n hx hb dX2_bindSprings_32 rfl (lv_at hl 1 rfl) ?_
              refine lv_iconst (v := (nI 1)) hx hb dX2_bindSprings_33 (by decide) ?_
              refine t_iadd hx hb dX2_bindSprings_34 (v := nI (x + 1)) (zi_add (by omega)) ?_
              refine lv_aload_n hx hb dX2_bindSprings_35 rfl (lv_at hl 3 rfl) ?_
              refine va_get (D := (dC, dI)) (ci := 2) (v := .int (nI iw)) (C := RX2) (T := TX2) (N := 9) hx hb (dr_words hts d0) (in_X2_bindSprings_X2) hown hK hP 0 rfl rfl 0 (by decide) (dr_words hts d0 (.fieldLink RX2 9 "PlateModes$Plate" "width" "I") (by decide +kernel)) (fun _ h9 => h9) rfl dX2_bindSprings_36 ?_
              have J_58 : ∀ (v1 : UInt64) (d0 : Drawn) (H : Heap) (locs : List Loc) (ls : Array Slot), (zv v1 = (zR0 iw T (zv al)) (y * iw + x)) → s.drawn.sameBut d0 lw_cs → va_P (dC, dI) vwCl [(aP, .inr (2, [.int (nI iw), .int (nI ih), .ref pT, .ref pR, .ref pN, .ref pB, .double al, .double ac, .double de])), (pT, .inl (cD, (iw * ih), .inr (.inr (.inr (.inl tT))))), (pR, .inl (cD, (iw * ih), .inr (.inr (.inr (.inl fR))))), (pN, .inl (cD, (iw * ih), .inr (.inr (.inr (.inl fN))))), (pB, .inr (0, [.ref bP, .ref bF, .ref bL, .ref bH, .int (nI nb)])), (bP, .inl (cI, 12, .inl uP)), (bF, .inl (cI, 12, .inl uF)), (bL, .inl (cI, 12, .inl uL)), (bH, .inl (cD, 12, .inr (.inr (.inr (.inl uH)))))] H → va_D A [(aP, .inr (2, [.int (nI iw), .int (nI ih), .ref pT, .ref pR, .ref pN, .ref pB, .double al, .double ac, .double de])), (pT, .inl (cD, (iw * ih), .inr (.inr (.inr (.inl tT))))), (pR, .inl (cD, (iw * ih), .inr (.inr (.inr (.inl fR))))), (pN, .inl (cD, (iw * ih), .inr (.inr (.inr (.inl fN))))), (pB, .inr (0, [.ref bP, .ref bF, .ref bL, .ref bH, .int (nI nb)])), (bP, .inl (cI, 12, .inl uP)), (bF, .inl (cI, 12, .inl uF)), (bL, .inl (cI, 12, .inl uL)), (bH, .inl (cD, 12, .inr (.inr (.inr (.inl uH)))))] → va_S A s.heap H locs → lv_has ls 4 [(3, .int (nI (y * iw + x))), (2, .int (nI x)), (1, .int (nI y)), (0, .ref aP)] → W p l e (headSpec wsX2_bindSprings ({ frames := 2, cells := 0, slots := 0, locals := 49 } : Room)).room (s.setDrawn d0) m ([.ref aP] : List Value).toArray below meth c H locs 0 0 (MQD lw_cs below (va_Qv (fun u : (Nat → UInt64) × (Nat → UInt64) => zcr u.1 (iw * ih) (zRB iw T (zv al) bx0 by0 bx1 bg nb) ∧ zcr u.2 (iw * ih) (zNB iw ih T (zv ac) bx0 by0 by1 bg nb)) (fun u t => (va_P (dC, dI) vwCl [(aP, .inr (2, [.int (nI iw), .int (nI ih), .ref pT, .ref pR, .ref pN, .ref pB, .double al, .double ac, .double de])), (pT, .inl (cD, (iw * ih), .inr (.inr (.inr (.inl tT))))), (pR, .inl (cD, (iw * ih), .inr (.inr (.inr (.inl u.1))))), (pN, .inl (cD, (iw * ih), .inr (.inr (.inr (.inl u.2))))), (pB, .inr (0, [.ref bP, .ref bF, .ref bL, .ref bH, .int (nI nb)])), (bP, .inl (cI, 12, .inl uP)), (bF, .inl (cI, 12, .inl uF)), (bL, .inl (cI, 12, .inl uL)), (bH, .inl (cD, 12, .inr (.inr (.inr (.inl uH)))))] t.heap ∧ va_K (dC, dI) vwCl [(cD, .double), (cI, .int), (cQ, .array .double)] t ∧ va_D A [(aP, .inr (2, [.int (nI iw), .int (nI ih), .ref pT, .ref pR, .ref pN, .ref pB, .double al, .double ac, .double de])), (pT, .inl (cD, (iw * ih), .inr (.inr (.inr (.inl tT))))), (pR, .inl (cD, (iw * ih), .inr (.inr (.inr (.inl u.1))))), (pN, .inl (cD, (iw * ih), .inr (.inr (.inr (.inl u.2))))), (pB, .inr (0, [.ref bP, .ref bF, .ref bL, .ref bH, .int (nI nb)])), (bP, .inl (cI, 12, .inl uP)), (bF, .inl (cI, 12, .inl uF)), (bL, .inl (cI, 12, .inl uL)), (bH, .inl (cD, 12, .inr (.inr (.inr (.inl uH)))))])) A) ([.ref aP] : List Value).toArray s 0 0 A) (F0 m 58 ls [.double v1, .int (nI (y * iw + x)), .ref pR]) := by
                intro v1 d0 H locs ls hv1 hd0 hP hD hS hl
                refine z_dast (s := s.setDrawn d0) (n := (iw * ih)) (i := y * iw + x) hx hb hK hP hD hS 2 0 rfl rfl (zrow (x := x) (y := y) (by omega) (by omega)) (by omega) dX2_bindSprings_58 (fun H locs hP hD hS => ?_)
                have hP : va_P (dC, dI) vwCl [(aP, .inr (2, [.int (nI iw), .int (nI ih), .ref pT, .ref pR, .ref pN, .ref pB, .double al, .double ac, .double de])), (pT, .inl (cD, (iw * ih), .inr (.inr (.inr (.inl tT))))), (pR, .inl (cD, (iw * ih), .inr (.inr (.inr (.inl (zu fR (y * iw + x) v1)))))), (pN, .inl (cD, (iw * ih), .inr (.inr (.inr (.inl fN))))), (pB, .inr (0, [.ref bP, .ref bF, .ref bL, .ref bH, .int (nI nb)])), (bP, .inl (cI, 12, .inl uP)), (bF, .inl (cI, 12, .inl uF)), (bL, .inl (cI, 12, .inl uL)), (bH, .inl (cD, 12, .inr (.inr (.inr (.inl uH)))))] H := hP
                have hD : va_D A [(aP, .inr (2, [.int (nI iw), .int (nI ih), .ref pT, .ref pR, .ref pN, .ref pB, .double al, .double ac, .double de])), (pT, .inl (cD, (iw * ih), .inr (.inr (.inr (.inl tT))))), (pR, .inl (cD, (iw * ih), .inr (.inr (.inr (.inl (zu fR (y * iw + x) v1)))))), (pN, .inl (cD, (iw * ih), .inr (.inr (.inr (.inl fN))))), (pB, .inr (0, [.ref bP, .ref bF, .ref bL, .ref bH, .int (nI nb)])), (bP, .inl (cI, 12, .inl uP)), (bF, .inl (cI, 12, .inl uF)), (bL, .inl (cI, 12, .inl uL)), (bH, .inl (cD, 12, .inr (.inr (.inr (.inl uH)))))] := hD
                refine lv_aload_n hx hb dX2_bindSprings_59 rfl (lv_at hl 3 rfl) ?_
                refine va_get (D := (dC, dI)) (ci := 2) (v := .ref pN) (C := RX2) (T := TX2) (N := 9) hx hb (dr_words hts d0) (in_X2_bindSprings_X2) hown hK hP 0 rfl rfl 4 (by decide) (dr_words hts d0 (.fieldLink RX2 25 "PlateModes$Plate" "toBelow" "[D") (by decide +kernel)) (fun _ h9 => h9) rfl dX2_bindSprings_60 ?_
                refine lv_iload_n hx hb dX2_bindSprings_63 rfl (lv_at hl 0 rfl) ?_
                refine lv_iload_n hx hb dX2_bindSprings_64 rfl (lv_at hl 2 rfl) ?_
                refine lv_iconst (v := (nI 1)) hx hb dX2_bindSprings_65 (by decide) ?_
                refine t_iadd hx hb dX2_bindSprings_66 (v := nI (y + 1)) (zi_add (by omega)) ?_
                refine lv_aload_n hx hb dX2_bindSprings_67 rfl (lv_at hl 3 rfl) ?_
                refine va_get (D := (dC, dI)) (ci := 2) (v := .int (nI ih)) (C := RX2) (T := TX2) (N := 9) hx hb (dr_words hts d0) (in_X2_bindSprings_X2) hown hK hP 0 rfl rfl 1 (by decide) (dr_words hts d0 (.fieldLink RX2 15 "PlateModes$Plate" "height" "I") (by decide +kernel)) (fun _ h9 => h9) rfl dX2_bindSprings_68 ?_
                have J_93 : ∀ (v2 : UInt64) (d0 : Drawn) (H : Heap) (locs : List Loc) (ls : Array Slot), (zv v2 = (zN0 iw ih T (zv ac)) (y * iw + x)) → s.drawn.sameBut d0 lw_cs → va_P (dC, dI) vwCl [(aP, .inr (2, [.int (nI iw), .int (nI ih), .ref pT, .ref pR, .ref pN, .ref pB, .double al, .double ac, .double de])), (pT, .inl (cD, (iw * ih), .inr (.inr (.inr (.inl tT))))), (pR, .inl (cD, (iw * ih), .inr (.inr (.inr (.inl (zu fR (y * iw + x) v1)))))), (pN, .inl (cD, (iw * ih), .inr (.inr (.inr (.inl fN))))), (pB, .inr (0, [.ref bP, .ref bF, .ref bL, .ref bH, .int (nI nb)])), (bP, .inl (cI, 12, .inl uP)), (bF, .inl (cI, 12, .inl uF)), (bL, .inl (cI, 12, .inl uL)), (bH, .inl (cD, 12, .inr (.inr (.inr (.inl uH)))))] H → va_D A [(aP, .inr (2, [.int (nI iw), .int (nI ih), .ref pT, .ref pR, .ref pN, .ref pB, .double al, .double ac, .double de])), (pT, .inl (cD, (iw * ih), .inr (.inr (.inr (.inl tT))))), (pR, .inl (cD, (iw * ih), .inr (.inr (.inr (.inl (zu fR (y * iw + x) v1)))))), (pN, .inl (cD, (iw * ih), .inr (.inr (.inr (.inl fN))))), (pB, .inr (0, [.ref bP, .ref bF, .ref bL, .ref bH, .int (nI nb)])), (bP, .inl (cI, 12, .inl uP)), (bF, .inl (cI, 12, .inl uF)), (bL, .inl (cI, 12, .inl uL)), (bH, .inl (cD, 12, .inr (.inr (.inr (.inl uH)))))] → va_S A s.heap H locs → lv_has ls 4 [(3, .int (nI (y * iw + x))), (2, .int (nI x)), (1, .int (nI y)), (0, .ref aP)] → W p l e (headSpec wsX2_bindSprings ({ frames := 2, cells := 0, slots := 0, locals := 49 } : Room)).room (s.setDrawn d0) m ([.ref aP] : List Value).toArray below meth c H locs 0 0 (MQD lw_cs below (va_Qv (fun u : (Nat → UInt64) × (Nat → UInt64) => zcr u.1 (iw * ih) (zRB iw T (zv al) bx0 by0 bx1 bg nb) ∧ zcr u.2 (iw * ih) (zNB iw ih T (zv ac) bx0 by0 by1 bg nb)) (fun u t => (va_P (dC, dI) vwCl [(aP, .inr (2, [.int (nI iw), .int (nI ih), .ref pT, .ref pR, .ref pN, .ref pB, .double al, .double ac, .double de])), (pT, .inl (cD, (iw * ih), .inr (.inr (.inr (.inl tT))))), (pR, .inl (cD, (iw * ih), .inr (.inr (.inr (.inl u.1))))), (pN, .inl (cD, (iw * ih), .inr (.inr (.inr (.inl u.2))))), (pB, .inr (0, [.ref bP, .ref bF, .ref bL, .ref bH, .int (nI nb)])), (bP, .inl (cI, 12, .inl uP)), (bF, .inl (cI, 12, .inl uF)), (bL, .inl (cI, 12, .inl uL)), (bH, .inl (cD, 12, .inr (.inr (.inr (.inl uH)))))] t.heap ∧ va_K (dC, dI) vwCl [(cD, .double), (cI, .int), (cQ, .array .double)] t ∧ va_D A [(aP, .inr (2, [.int (nI iw), .int (nI ih), .ref pT, .ref pR, .ref pN, .ref pB, .double al, .double ac, .double de])), (pT, .inl (cD, (iw * ih), .inr (.inr (.inr (.inl tT))))), (pR, .inl (cD, (iw * ih), .inr (.inr (.inr (.inl u.1))))), (pN, .inl (cD, (iw * ih), .inr (.inr (.inr (.inl u.2))))), (pB, .inr (0, [.ref bP, .ref bF, .ref bL, .ref bH, .int (nI nb)])), (bP, .inl (cI, 12, .inl uP)), (bF, .inl (cI, 12, .inl uF)), (bL, .inl (cI, 12, .inl uL)), (bH, .inl (cD, 12, .inr (.inr (.inr (.inl uH)))))])) A) ([.ref aP] : List Value).toArray s 0 0 A) (F0 m 93 ls [.double v2, .int (nI (y * iw + x)), .ref pN]) := by
                  intro v2 d0 H locs ls hv2 hd0 hP hD hS hl
                  refine z_dast (s := s.setDrawn d0) (n := (iw * ih)) (i := y * iw + x) hx hb hK hP hD hS 3 0 rfl rfl (zrow (x := x) (y := y) (by omega) (by omega)) (by omega) dX2_bindSprings_93 (fun H locs hP hD hS => ?_)
                  have hP : va_P (dC, dI) vwCl [(aP, .inr (2, [.int (nI iw), .int (nI ih), .ref pT, .ref pR, .ref pN, .ref pB, .double al, .double ac, .double de])), (pT, .inl (cD, (iw * ih), .inr (.inr (.inr (.inl tT))))), (pR, .inl (cD, (iw * ih), .inr (.inr (.inr (.inl (zu fR (y * iw + x) v1)))))), (pN, .inl (cD, (iw * ih), .inr (.inr (.inr (.inl (zu fN (y * iw + x) v2)))))), (pB, .inr (0, [.ref bP, .ref bF, .ref bL, .ref bH, .int (nI nb)])), (bP, .inl (cI, 12, .inl uP)), (bF, .inl (cI, 12, .inl uF)), (bL, .inl (cI, 12, .inl uL)), (bH, .inl (cD, 12, .inr (.inr (.inr (.inl uH)))))] H := hP
                  have hD : va_D A [(aP, .inr (2, [.int (nI iw), .int (nI ih), .ref pT, .ref pR, .ref pN, .ref pB, .double al, .double ac, .double de])), (pT, .inl (cD, (iw * ih), .inr (.inr (.inr (.inl tT))))), (pR, .inl (cD, (iw * ih), .inr (.inr (.inr (.inl (zu fR (y * iw + x) v1)))))), (pN, .inl (cD, (iw * ih), .inr (.inr (.inr (.inl (zu fN (y * iw + x) v2)))))), (pB, .inr (0, [.ref bP, .ref bF, .ref bL, .ref bH, .int (nI nb)])), (bP, .inl (cI, 12, .inl uP)), (bF, .inl (cI, 12, .inl uF)), (bL, .inl (cI, 12, .inl uL)), (bH, .inl (cD, 12, .inr (.inr (.inr (.inl uH)))))] := hD
                  refine lv_iinc (v := nI (x + 1)) (lv' := [(2, .int (nI (x + 1))), (3, .int (nI (y * iw + x))), (1, .int (nI y)), (0, .ref aP)]) hx hb dX2_bindSprings_94 hl (k := 1) rfl (show nI x + nI 1 = _ from zi_add (by omega)) (by decide) rfl (fun ls hl => ?_)
                  refine lv_goto (tgt := 12) hx hb dX2_bindSprings_97 (by decide) ?_
                  exact ih_L_12 (x + 1) (zu fR (y * iw + x) v1) (zu fN (y * iw + x) v2) _ _ _ _ (by omega) (by omega) (zcp2_put hR hv1) (zcp2_put hN2 hv2) hd0 hP hD hS (lv_sub hl [0, 2, 3] rfl)
                refine z_icmp_ge (a := y + 1) (b := ih) (tgt := 92) hx hb (by omega) (by omega) dX2_bindSprings_71 (by decide) (fun c15 => ?_) (fun c16 => ?_)
                · skip
                  refine lv_dconst0 hx hb dX2_bindSprings_92 ?_
                  exact J_93 FP.dconst0 _ _ _ _ ((zsN_out (by omega)).trans (zN0_at (by omega)).symm) hd0 hP hD hS hl
                · skip
                  refine lv_aload_n hx hb dX2_bindSprings_74 rfl (lv_at hl 3 rfl) ?_
                  refine lv_aload_n hx hb dX2_bindSprings_75 rfl (lv_at hl 3 rfl) ?_
                  refine va_get (D := (dC, dI)) (ci := 2) (v := .double ac) (C := RX2) (T := TX2) (N := 9) hx hb (dr_words hts d0) (in_X2_bindSprings_X2) hown hK hP 0 rfl rfl 7 (by decide) (dr_words hts d0 (.fieldLink RX2 39 "PlateModes$Plate" "across" "D") (by decide +kernel)) (fun _ h9 => h9) rfl dX2_bindSprings_76 ?_
                  refine lv_iload_n hx hb dX2_bindSprings_79 rfl (lv_at hl 0 rfl) ?_
                  refine lv_iload_n hx hb dX2_bindSprings_80 rfl (lv_at hl 0 rfl) ?_
                  refine lv_aload_n hx hb dX2_bindSprings_81 rfl (lv_at hl 3 rfl) ?_
                  refine va_get (D := (dC, dI)) (ci := 2) (v := .int (nI iw)) (C := RX2) (T := TX2) (N := 9) hx hb (dr_words hts d0) (in_X2_bindSprings_X2) hown hK hP 0 rfl rfl 0 (by decide) (dr_words hts d0 (.fieldLink RX2 9 "PlateModes$Plate" "width" "I") (by decide +kernel)) (fun _ h9 => h9) rfl dX2_bindSprings_82 ?_
                  refine t_iadd hx hb dX2_bindSprings_85 (v := nI (y * iw + iw + x)) (zi_add (by omega)) ?_
                  have hPc := hP
                  refine va_calldD hd0 (va_runV_D (As := [.double ac, .int (nI (y * iw + x)), .int (nI (y * iw + iw + x))]) (rest := [.int (nI (y * iw + x)), .ref pN]) ⟨hx, hb, hml, hown, (dr_words hts d0)⟩ (c2_springOf l dC dI aP pT pR pN pB bP bF bL bH cD cI cQ iw ih al ac de nb tT (zu fR (y * iw + x) v1) fN uP uF uL uH hw6 hh6 T gT ac (y * iw + x) (y * iw + iw + x) (zrow (x := x) (y := y) (by omega) (by omega)) (by rw [(show y * iw + iw + x = (y + 1) * iw + x from by rw [Nat.add_mul, Nat.one_mul] <;> omega)]; exact zrow (x := x) (y := (y + 1)) (by omega) (by omega))) (cwV 3 (dr_words hts d0) gX2_bindSprings_X2_springOf rfl rfl rfl (by decide +kernel) ⟨Nat.le_of_ble_eq_true rfl, Nat.le_of_ble_eq_true rfl⟩) ⟨zfb, va_recv hK hP (ci := 2) (q0 := 0) rfl rfl, zpre hPc hK⟩ rfl rfl hl.1 rfl (lv_room (Nat.le_of_ble_eq_true rfl)) dX2_bindSprings_86 ⟨Nat.le_of_ble_eq_true rfl, Nat.le_of_ble_eq_true rfl⟩) hS (fun q _ h => h.elim) (fun q h => h.elim) (fun r17 u9 t9 H locs ht9 hvm9 hr17 hB9 hz9 hk1 hS dhd18 hd18 => ?_)
                  have hP := zro1 hP hk1
                  rw [show y * iw + iw + x = (y + 1) * iw + x from by rw [Nat.add_mul, Nat.one_mul] <;> omega] at hr17
                  refine lv_goto (tgt := 93) hx hb dX2_bindSprings_89 (by decide) ?_
                  exact J_93 r17 _ _ _ _ ((hr17.trans (zsN_in (by omega))).trans (zN0_at (by omega)).symm) hd18 hP hD hS hl
              refine z_icmp_ge (a := x + 1) (b := iw) (tgt := 57) hx hb (by omega) (by omega) dX2_bindSprings_39 (by decide) (fun c19 => ?_) (fun c20 => ?_)
              · skip
                refine lv_dconst0 hx hb dX2_bindSprings_57 ?_
                exact J_58 FP.dconst0 _ _ _ _ ((zsR_out (by omega)).trans (zR0_at (by omega)).symm) hd0 hP hD hS hl
              · skip
                refine lv_aload_n hx hb dX2_bindSprings_42 rfl (lv_at hl 3 rfl) ?_
                refine lv_aload_n hx hb dX2_bindSprings_43 rfl (lv_at hl 3 rfl) ?_
                refine va_get (D := (dC, dI)) (ci := 2) (v := .double al) (C := RX2) (T := TX2) (N := 9) hx hb (dr_words hts d0) (in_X2_bindSprings_X2) hown hK hP 0 rfl rfl 6 (by decide) (dr_words hts d0 (.fieldLink RX2 35 "PlateModes$Plate" "along" "D") (by decide +kernel)) (fun _ h9 => h9) rfl dX2_bindSprings_44 ?_
                refine lv_iload_n hx hb dX2_bindSprings_47 rfl (lv_at hl 0 rfl) ?_
                refine lv_iload_n hx hb dX2_bindSprings_48 rfl (lv_at hl 0 rfl) ?_
                refine lv_iconst (v := (nI 1)) hx hb dX2_bindSprings_49 (by decide) ?_
                refine t_iadd hx hb dX2_bindSprings_50 (v := nI (y * iw + x + 1)) (zi_add (by omega)) ?_
                have hPc := hP
                refine va_calldD hd0 (va_runV_D (As := [.double al, .int (nI (y * iw + x)), .int (nI (y * iw + x + 1))]) (rest := [.int (nI (y * iw + x)), .ref pR]) ⟨hx, hb, hml, hown, (dr_words hts d0)⟩ (c2_springOf l dC dI aP pT pR pN pB bP bF bL bH cD cI cQ iw ih al ac de nb tT fR fN uP uF uL uH hw6 hh6 T gT al (y * iw + x) (y * iw + x + 1) (zrow (x := x) (y := y) (by omega) (by omega)) (zrow (x := (x + 1)) (y := y) (by omega) (by omega))) (cwV 3 (dr_words hts d0) gX2_bindSprings_X2_springOf rfl rfl rfl (by decide +kernel) ⟨Nat.le_of_ble_eq_true rfl, Nat.le_of_ble_eq_true rfl⟩) ⟨zfb, va_recv hK hP (ci := 2) (q0 := 0) rfl rfl, zpre hPc hK⟩ rfl rfl hl.1 rfl (lv_room (Nat.le_of_ble_eq_true rfl)) dX2_bindSprings_51 ⟨Nat.le_of_ble_eq_true rfl, Nat.le_of_ble_eq_true rfl⟩) hS (fun q _ h => h.elim) (fun q h => h.elim) (fun r21 u9 t9 H locs ht9 hvm9 hr21 hB9 hz9 hk1 hS dhd22 hd22 => ?_)
                have hP := zro1 hP hk1
                refine lv_goto (tgt := 58) hx hb dX2_bindSprings_54 (by decide) ?_
                exact J_58 r21 _ _ _ _ ((hr21.trans (zsR_in (by omega))).trans (zR0_at (by omega)).symm) hd22 hP hD hS hl
        exact L_12 _ 0 fR fN _ _ _ _ (Nat.lt_succ_self _) (by omega) hR hN2 hd0 hP hD hS hl
  exact L_2 _ 0 tR tN _ _ _ _ (Nat.lt_succ_self _) (by omega) (zcp2_n zcp2_0 (Nat.zero_mul _).symm) (zcp2_n zcp2_0 (Nat.zero_mul _).symm) hd0 hP hD hS hl
theorem in_X2_forceAt_X2 : ∀ w ∈ wsX20, w ∈ wsX2_forceAt := by intro w h; unfold wsX2_forceAt; simp only [List.mem_cons, List.mem_append]; first | exact Or.inr (Or.inr h) | exact Or.inr (Or.inl (Or.inr h)) | exact Or.inr (Or.inl (Or.inl (Or.inr h))) | exact Or.inr (Or.inr (Or.inl h)) | exact Or.inr (Or.inr (Or.inr h))
set_option maxHeartbeats 4000000 in
set_option maxRecDepth 100000 in
/-- forceAt -/
theorem c2_forceAt (l : Launch) (dC : Nat → ClassId) (dI : Nat → Nat → Nat) (pS aP pT pR pN pB bP bF bL bH : Nat) (cD cI cQ : ClassId) (iw ih : Nat) (al ac de : UInt64) (nb : Nat) (tS tT tR tN : Nat → UInt64) (uP uF uL : Nat → Int32) (uH : Nat → UInt64) (hw6 : iw ≤ 6) (hh6 : ih ≤ 6) (T R N : Nat → ZD) (gT : zcr tT (iw * ih) T) (gR : zcr tR (iw * ih) R) (gN : zcr tN (iw * ih) N) (S : Nat → ZD) (gS : zcr tS (iw * ih) S) (x y : Nat) (hxw : x < iw) (hyh : y < ih) : MetD lw_cs l yX2_forceAt wsX2_forceAt ({ frames := 1, cells := 0, slots := 0, locals := 22 } : Room) (va_Pc [.ref aP, .ref pS, .int (nI x), .int (nI y)] (fun U => va_P (dC, dI) vwCl [(aP, .inr (2, [.int (nI iw), .int (nI ih), .ref pT, .ref pR, .ref pN, .ref pB, .double al, .double ac, .double de])), (pT, .inl (cD, (iw * ih), .inr (.inr (.inr (.inl tT))))), (pR, .inl (cD, (iw * ih), .inr (.inr (.inr (.inl tR))))), (pN, .inl (cD, (iw * ih), .inr (.inr (.inr (.inl tN))))), (pB, .inr (0, [.ref bP, .ref bF, .ref bL, .ref bH, .int (nI nb)])), (bP, .inl (cI, 12, .inl uP)), (bF, .inl (cI, 12, .inl uF)), (bL, .inl (cI, 12, .inl uL)), (bH, .inl (cD, 12, .inr (.inr (.inr (.inl uH))))), (pS, .inl (cD, (iw * ih), .inr (.inr (.inr (.inl tS)))))] U.heap ∧ va_K (dC, dI) vwCl [(cD, .double), (cI, .int), (cQ, .array .double)] U ∧ zNw U)) (va_Qd (fun (r : UInt64) (_ : Unit) => zv r = zforce iw ih R N S x y) (fun _ _ => True) (fun _ => False)) 0 0 (fun _ => False) := by
  refine MetD.ofW (cc := cX2_forceAt) (maxL := 9) (ret := (some .double)) (by decide) rfl ?_
  intro p e s m args below meth c s₁ B hml hv hd0
  obtain ⟨rfl, hP0, hK, hN⟩ := hv
  have hx := B.exec
  have hb := B.bytes
  have hr := B.returns
  have hts := atoms_spec (ws := wsX2_forceAt) B.pre
  have hown : s.vm.findClass RX2 = some m.cls := findClass_of_methodNamed B.named
  have hlocks := B.notSynchronized
  have hS : va_S (fun _ => False) s.heap s.heap [] := va_S.rf
  have hP := hP0
  have hl := lv_entry ([.ref aP, .ref pS, .int (nI x), .int (nI y)]) (n := 9) (Nat.le_of_ble_eq_true rfl)
  rw [lg_entry_eq]
  generalize (lg_sl ([.ref aP, .ref pS, .int (nI x), .int (nI y)]) ++ List.replicate (9 - (lg_sl ([.ref aP, .ref pS, .int (nI x), .int (nI y)])).length) Slot.unset).toArray = ls at hl ⊢
  have hl : lv_has ls 9 [(0, .ref aP), (1, .ref pS), (2, .int (nI x)), (3, .int (nI y))] := hl
  have hn36 : iw * ih ≤ 36 := Nat.mul_le_mul hw6 hh6
  refine lv_aload_n hx hb dX2_forceAt_0 rfl (lv_at hl 0 rfl) ?_
  refine lv_iload_n hx hb dX2_forceAt_1 rfl (lv_at hl 2 rfl) ?_
  refine lv_iload_n hx hb dX2_forceAt_2 rfl (lv_at hl 3 rfl) ?_
  have hPc := hP.sub (ws' := [(aP, .inr (2, [.int (nI iw), .int (nI ih), .ref pT, .ref pR, .ref pN, .ref pB, .double al, .double ac, .double de])), (pT, .inl (cD, (iw * ih), .inr (.inr (.inr (.inl tT))))), (pR, .inl (cD, (iw * ih), .inr (.inr (.inr (.inl tR))))), (pN, .inl (cD, (iw * ih), .inr (.inr (.inr (.inl tN))))), (pB, .inr (0, [.ref bP, .ref bF, .ref bL, .ref bH, .int (nI nb)])), (bP, .inl (cI, 12, .inl uP)), (bF, .inl (cI, 12, .inl uF)), (bL, .inl (cI, 12, .inl uL)), (bH, .inl (cD, 12, .inr (.inr (.inr (.inl uH)))))]) [0, 1, 2, 3, 4, 5, 6, 7, 8] rfl
  refine va_calli (va_runV (As := [.int (nI x), .int (nI y)]) (rest := []) ⟨hx, hb, hml, hown, (dr_words hts s.drawn)⟩ (c2_cellAt l dC dI aP pT pR pN pB bP bF bL bH cD cI cQ iw ih al ac de nb tT tR tN uP uF uL uH x y) (cwV 2 (dr_words hts s.drawn) gX2_forceAt_X2_cellAt rfl rfl rfl (by decide +kernel) ⟨Nat.le_of_ble_eq_true rfl, Nat.le_of_ble_eq_true rfl⟩) ⟨zfb, va_recv hK hP (ci := 2) (q0 := 0) rfl rfl, zpre hPc hK⟩ rfl rfl hl.1 rfl (lv_room (Nat.le_of_ble_eq_true rfl)) dX2_forceAt_3 ⟨Nat.le_of_ble_eq_true rfl, Nat.le_of_ble_eq_true rfl⟩) hS (fun q _ h => h.elim) (fun q h => h.elim) (fun r1 u9 t9 H locs ht9 hvm9 hr1 hB9 hz9 hk1 hS => ?_)
  have hP := zro1 hP hk1
  subst hr1
  refine lv_istore (lv' := [(4, .int (nI (y * iw + x))), (0, .ref aP), (1, .ref pS), (2, .int (nI x)), (3, .int (nI y))]) hx hb dX2_forceAt_6 hl (by decide) rfl (fun ls hl => ?_)
  refine lv_aload_n hx hb dX2_forceAt_8 rfl (lv_at hl 2 rfl) ?_
  refine lv_iload hx hb dX2_forceAt_9 (lv_at hl 0 rfl) ?_
  refine z_dald (s := s.setDrawn s.drawn) (n := (iw * ih)) (i := y * iw + x) hx hb hK hP 9 0 rfl rfl (zrow (x := x) (y := y) (by omega) (by omega)) (by omega) dX2_forceAt_11 ?_
  refine lv_dstore (lv' := [(5, .double (tS (y * iw + x))), (4, .int (nI (y * iw + x))), (0, .ref aP), (1, .ref pS), (2, .int (nI x)), (3, .int (nI y))]) hx hb dX2_forceAt_12 hl (by decide) rfl (fun ls hl => ?_)
  refine lv_dconst0 hx hb dX2_forceAt_14 ?_
  refine lv_dstore (lv' := [(7, .double FP.dconst0), (5, .double (tS (y * iw + x))), (4, .int (nI (y * iw + x))), (0, .ref aP), (1, .ref pS), (2, .int (nI x)), (3, .int (nI y))]) hx hb dX2_forceAt_15 hl (by decide) rfl (fun ls hl => ?_)
  refine lv_iload_n hx hb dX2_forceAt_17 rfl (lv_at hl 5 rfl) ?_
  refine lv_iconst (v := (nI 1)) hx hb dX2_forceAt_18 (by decide) ?_
  refine t_iadd hx hb dX2_forceAt_19 (v := nI (x + 1)) (zi_add (by omega)) ?_
  refine lv_aload_n hx hb dX2_forceAt_20 rfl (lv_at hl 3 rfl) ?_
  refine va_get (D := (dC, dI)) (ci := 2) (v := .int (nI iw)) (C := RX2) (T := TX2) (N := 9) hx hb (dr_words hts s.drawn) (in_X2_forceAt_X2) hown hK hP 0 rfl rfl 0 (by decide) (dr_words hts s.drawn (.fieldLink RX2 9 "PlateModes$Plate" "width" "I") (by decide +kernel)) (fun _ h9 => h9) rfl dX2_forceAt_21 ?_
  have J_49 : ∀ (f1 : UInt64) (d0 : Drawn) (H : Heap) (locs : List Loc) (ls : Array Slot), (zv f1 = zf1 iw R S x y) → s.drawn.sameBut d0 lw_cs → va_S (fun _ => False) s.heap H locs → lv_has ls 9 [(7, .double f1), (5, .double (tS (y * iw + x))), (4, .int (nI (y * iw + x))), (0, .ref aP), (1, .ref pS), (2, .int (nI x)), (3, .int (nI y))] → W p l e (headSpec wsX2_forceAt ({ frames := 1, cells := 0, slots := 0, locals := 22 } : Room)).room (s.setDrawn d0) m ([.ref aP, .ref pS, .int (nI x), .int (nI y)] : List Value).toArray below meth c H locs 0 0 (MQD lw_cs below (va_Qd (fun (r : UInt64) (_ : Unit) => zv r = zforce iw ih R N S x y) (fun _ _ => True) (fun _ => False)) ([.ref aP, .ref pS, .int (nI x), .int (nI y)] : List Value).toArray s 0 0 (fun _ => False)) (F0 m 49 ls []) := by
    intro f1 d0 H locs ls h1 hd0 hS hl
    have hP := zro hP0 hS
    refine lv_iload_n hx hb dX2_forceAt_49 rfl (lv_at hl 5 rfl) ?_
    have J_77 : ∀ (f2 : UInt64) (d0 : Drawn) (H : Heap) (locs : List Loc) (ls : Array Slot), (zv f2 = zf2 iw R S x y) → s.drawn.sameBut d0 lw_cs → va_S (fun _ => False) s.heap H locs → lv_has ls 9 [(7, .double f2), (5, .double (tS (y * iw + x))), (4, .int (nI (y * iw + x))), (0, .ref aP), (1, .ref pS), (2, .int (nI x)), (3, .int (nI y))] → W p l e (headSpec wsX2_forceAt ({ frames := 1, cells := 0, slots := 0, locals := 22 } : Room)).room (s.setDrawn d0) m ([.ref aP, .ref pS, .int (nI x), .int (nI y)] : List Value).toArray below meth c H locs 0 0 (MQD lw_cs below (va_Qd (fun (r : UInt64) (_ : Unit) => zv r = zforce iw ih R N S x y) (fun _ _ => True) (fun _ => False)) ([.ref aP, .ref pS, .int (nI x), .int (nI y)] : List Value).toArray s 0 0 (fun _ => False)) (F0 m 77 ls []) := by
      intro f2 d0 H locs ls h2 hd0 hS hl
      have hP := zro hP0 hS
      refine lv_iload_n hx hb dX2_forceAt_77 rfl (lv_at hl 6 rfl) ?_
      refine lv_iconst (v := (nI 1)) hx hb dX2_forceAt_78 (by decide) ?_
      refine t_iadd hx hb dX2_forceAt_79 (v := nI (y + 1)) (zi_add (by omega)) ?_
      refine lv_aload_n hx hb dX2_forceAt_80 rfl (lv_at hl 3 rfl) ?_
      refine va_get (D := (dC, dI)) (ci := 2) (v := .int (nI ih)) (C := RX2) (T := TX2) (N := 9) hx hb (dr_words hts d0) (in_X2_forceAt_X2) hown hK hP 0 rfl rfl 1 (by decide) (dr_words hts d0 (.fieldLink RX2 15 "PlateModes$Plate" "height" "I") (by decide +kernel)) (fun _ h9 => h9) rfl dX2_forceAt_81 ?_
      have J_112 : ∀ (f3 : UInt64) (d0 : Drawn) (H : Heap) (locs : List Loc) (ls : Array Slot), (zv f3 = zf3 iw ih R N S x y) → s.drawn.sameBut d0 lw_cs → va_S (fun _ => False) s.heap H locs → lv_has ls 9 [(7, .double f3), (5, .double (tS (y * iw + x))), (4, .int (nI (y * iw + x))), (0, .ref aP), (1, .ref pS), (2, .int (nI x)), (3, .int (nI y))] → W p l e (headSpec wsX2_forceAt ({ frames := 1, cells := 0, slots := 0, locals := 22 } : Room)).room (s.setDrawn d0) m ([.ref aP, .ref pS, .int (nI x), .int (nI y)] : List Value).toArray below meth c H locs 0 0 (MQD lw_cs below (va_Qd (fun (r : UInt64) (_ : Unit) => zv r = zforce iw ih R N S x y) (fun _ _ => True) (fun _ => False)) ([.ref aP, .ref pS, .int (nI x), .int (nI y)] : List Value).toArray s 0 0 (fun _ => False)) (F0 m 112 ls []) := by
        intro f3 d0 H locs ls h3 hd0 hS hl
        have hP := zro hP0 hS
        refine lv_iload_n hx hb dX2_forceAt_112 rfl (lv_at hl 6 rfl) ?_
        have J_146 : ∀ (f4 : UInt64) (d0 : Drawn) (H : Heap) (locs : List Loc) (ls : Array Slot), (zv f4 = zf4 iw ih R N S x y) → s.drawn.sameBut d0 lw_cs → va_S (fun _ => False) s.heap H locs → lv_has ls 9 [(7, .double f4), (5, .double (tS (y * iw + x))), (4, .int (nI (y * iw + x))), (0, .ref aP), (1, .ref pS), (2, .int (nI x)), (3, .int (nI y))] → W p l e (headSpec wsX2_forceAt ({ frames := 1, cells := 0, slots := 0, locals := 22 } : Room)).room (s.setDrawn d0) m ([.ref aP, .ref pS, .int (nI x), .int (nI y)] : List Value).toArray below meth c H locs 0 0 (MQD lw_cs below (va_Qd (fun (r : UInt64) (_ : Unit) => zv r = zforce iw ih R N S x y) (fun _ _ => True) (fun _ => False)) ([.ref aP, .ref pS, .int (nI x), .int (nI y)] : List Value).toArray s 0 0 (fun _ => False)) (F0 m 146 ls []) := by
          intro f4 d0 H locs ls h4 hd0 hS hl
          have hP := zro hP0 hS
          refine lv_dload hx hb dX2_forceAt_146 (lv_at hl 0 rfl) ?_
          refine va_calld (va_runSN (As := []) (rest := [.double f4]) ⟨hx, hb, hml, hown, (dr_words hts d0)⟩ (c4_ground l) ⟨va_cnB 0 (dr_words hts d0) gX2_forceAt_X4_ground_n92 rfl rfl rfl (va_Nw.same (u := s) rfl rfl hN.1) (dr_words hts d0 (.initialized RX4) (by decide +kernel)) (by decide +kernel) ⟨Nat.le_of_ble_eq_true rfl, Nat.le_of_ble_eq_true rfl⟩, (dr_words hts d0 (.static yX4_ground) (by decide +kernel)), trivial⟩ ⟨zfb0, zpre0⟩ rfl rfl hl.1 rfl (lv_room (Nat.le_of_ble_eq_true rfl)) dX2_forceAt_148 ⟨Nat.le_of_ble_eq_true rfl, Nat.le_of_ble_eq_true rfl⟩) hS (fun q _ h => h.elim) (fun q h => h.elim) (fun r2 u9 t9 H locs ht9 hvm9 hr2 hB9 hz9 hk1 hS => ?_)
          have hP := zro1 hP hk1
          subst hr2
          refine lv_dload hx hb dX2_forceAt_151 (lv_at hl 1 rfl) ?_
          refine zr_dmul hd0 hx hb (a := zgc) (b := S (y * iw + x)) rfl (gS _ (zrow (x := x) (y := y) (by omega) (by omega))) dX2_forceAt_153 (fun r3 d4 hr3 hd4 => ?_)
          refine zr_dsub hd4 hx hb (a := zf4 iw ih R N S x y) (b := zM zgc (S (y * iw + x))) h4 hr3 dX2_forceAt_154 (fun r5 d6 hr5 hd6 => ?_)
          refine W.endD hd6 ?_
          exact W.dret (v := r5) hx hb hr (fun t ht hW => ⟨⟨r5, (), rfl, ⟨hr5, trivial⟩⟩, hS.F ht⟩) hS.2.2 dX2_forceAt_155
        refine z_if_le (tgt := 146) hx hb (by omega) dX2_forceAt_113 (by decide) (fun c7 => ?_) (fun c8 => ?_)
        · skip
          exact J_146 f3 _ _ _ _ ((h3).trans (if_neg (show ¬ (0 < y) from by omega)).symm) hd0 hS hl
        · skip
          have hyw : iw ≤ y * iw := Nat.le_mul_of_pos_left iw (by omega)
          refine lv_dload hx hb dX2_forceAt_116 (lv_at hl 0 rfl) ?_
          refine lv_aload_n hx hb dX2_forceAt_118 rfl (lv_at hl 3 rfl) ?_
          refine va_get (D := (dC, dI)) (ci := 2) (v := .ref pN) (C := RX2) (T := TX2) (N := 9) hx hb (dr_words hts d0) (in_X2_forceAt_X2) hown hK hP 0 rfl rfl 4 (by decide) (dr_words hts d0 (.fieldLink RX2 25 "PlateModes$Plate" "toBelow" "[D") (by decide +kernel)) (fun _ h9 => h9) rfl dX2_forceAt_119 ?_
          refine lv_iload hx hb dX2_forceAt_122 (lv_at hl 2 rfl) ?_
          refine lv_aload_n hx hb dX2_forceAt_124 rfl (lv_at hl 3 rfl) ?_
          refine va_get (D := (dC, dI)) (ci := 2) (v := .int (nI iw)) (C := RX2) (T := TX2) (N := 9) hx hb (dr_words hts d0) (in_X2_forceAt_X2) hown hK hP 0 rfl rfl 0 (by decide) (dr_words hts d0 (.fieldLink RX2 9 "PlateModes$Plate" "width" "I") (by decide +kernel)) (fun _ h9 => h9) rfl dX2_forceAt_125 ?_
          refine t_isub hx hb dX2_forceAt_128 (v := nI (y * iw + x - iw)) (zi_sub (by omega) (by omega)) ?_
          refine z_dald (s := s.setDrawn d0) (n := (iw * ih)) (i := y * iw + x - iw) hx hb hK hP 3 0 rfl rfl (by rw [(show y * iw + x - iw = (y - 1) * iw + x from zidx_dn (by omega) _ _)]; exact zrow (x := x) (y := (y - 1)) (by omega) (by omega)) (by omega) dX2_forceAt_129 ?_
          refine lv_aload_n hx hb dX2_forceAt_130 rfl (lv_at hl 4 rfl) ?_
          refine lv_iload hx hb dX2_forceAt_131 (lv_at hl 2 rfl) ?_
          refine lv_aload_n hx hb dX2_forceAt_133 rfl (lv_at hl 3 rfl) ?_
          refine va_get (D := (dC, dI)) (ci := 2) (v := .int (nI iw)) (C := RX2) (T := TX2) (N := 9) hx hb (dr_words hts d0) (in_X2_forceAt_X2) hown hK hP 0 rfl rfl 0 (by decide) (dr_words hts d0 (.fieldLink RX2 9 "PlateModes$Plate" "width" "I") (by decide +kernel)) (fun _ h9 => h9) rfl dX2_forceAt_134 ?_
          refine t_isub hx hb dX2_forceAt_137 (v := nI (y * iw + x - iw)) (zi_sub (by omega) (by omega)) ?_
          refine z_dald (s := s.setDrawn d0) (n := (iw * ih)) (i := y * iw + x - iw) hx hb hK hP 9 0 rfl rfl (by rw [(show y * iw + x - iw = (y - 1) * iw + x from zidx_dn (by omega) _ _)]; exact zrow (x := x) (y := (y - 1)) (by omega) (by omega)) (by omega) dX2_forceAt_138 ?_
          refine lv_dload hx hb dX2_forceAt_139 (lv_at hl 1 rfl) ?_
          refine zr_dsub hd0 hx hb (a := S ((y - 1) * iw + x)) (b := S (y * iw + x)) ((congrArg (fun z => zv (tS z)) (show y * iw + x - iw = (y - 1) * iw + x from zidx_dn (by omega) _ _)).trans (gS _ (zrow (by omega) (by omega)))) (gS _ (zrow (x := x) (y := y) (by omega) (by omega))) dX2_forceAt_141 (fun r9 d10 hr9 hd10 => ?_)
          refine zr_dmul hd10 hx hb (a := N ((y - 1) * iw + x)) (b := zS (S ((y - 1) * iw + x)) (S (y * iw + x))) ((congrArg (fun z => zv (tN z)) (show y * iw + x - iw = (y - 1) * iw + x from zidx_dn (by omega) _ _)).trans (gN _ (zrow (by omega) (by omega)))) hr9 dX2_forceAt_142 (fun r11 d12 hr11 hd12 => ?_)
          refine zr_dadd hd12 hx hb (a := zf3 iw ih R N S x y) (b := zM (N ((y - 1) * iw + x)) (zS (S ((y - 1) * iw + x)) (S (y * iw + x)))) h3 hr11 dX2_forceAt_143 (fun r13 d14 hr13 hd14 => ?_)
          refine lv_dstore (lv' := [(7, .double r13), (5, .double (tS (y * iw + x))), (4, .int (nI (y * iw + x))), (0, .ref aP), (1, .ref pS), (2, .int (nI x)), (3, .int (nI y))]) hx hb dX2_forceAt_144 hl (by decide) rfl (fun ls hl => ?_)
          exact J_146 r13 _ _ _ _ ((hr13).trans (if_pos (show 0 < y from by omega)).symm) hd14 hS hl
      refine z_icmp_ge (a := y + 1) (b := ih) (tgt := 112) hx hb (by omega) (by omega) dX2_forceAt_84 (by decide) (fun c15 => ?_) (fun c16 => ?_)
      · skip
        exact J_112 f2 _ _ _ _ ((h2).trans (if_neg (show ¬ (y + 1 < ih) from by omega)).symm) hd0 hS hl
      · skip
        refine lv_dload hx hb dX2_forceAt_87 (lv_at hl 0 rfl) ?_
        refine lv_aload_n hx hb dX2_forceAt_89 rfl (lv_at hl 3 rfl) ?_
        refine va_get (D := (dC, dI)) (ci := 2) (v := .ref pN) (C := RX2) (T := TX2) (N := 9) hx hb (dr_words hts d0) (in_X2_forceAt_X2) hown hK hP 0 rfl rfl 4 (by decide) (dr_words hts d0 (.fieldLink RX2 25 "PlateModes$Plate" "toBelow" "[D") (by decide +kernel)) (fun _ h9 => h9) rfl dX2_forceAt_90 ?_
        refine lv_iload hx hb dX2_forceAt_93 (lv_at hl 2 rfl) ?_
        refine z_dald (s := s.setDrawn d0) (n := (iw * ih)) (i := y * iw + x) hx hb hK hP 3 0 rfl rfl (zrow (x := x) (y := y) (by omega) (by omega)) (by omega) dX2_forceAt_95 ?_
        refine lv_aload_n hx hb dX2_forceAt_96 rfl (lv_at hl 4 rfl) ?_
        refine lv_iload hx hb dX2_forceAt_97 (lv_at hl 2 rfl) ?_
        refine lv_aload_n hx hb dX2_forceAt_99 rfl (lv_at hl 3 rfl) ?_
        refine va_get (D := (dC, dI)) (ci := 2) (v := .int (nI iw)) (C := RX2) (T := TX2) (N := 9) hx hb (dr_words hts d0) (in_X2_forceAt_X2) hown hK hP 0 rfl rfl 0 (by decide) (dr_words hts d0 (.fieldLink RX2 9 "PlateModes$Plate" "width" "I") (by decide +kernel)) (fun _ h9 => h9) rfl dX2_forceAt_100 ?_
        refine t_iadd hx hb dX2_forceAt_103 (v := nI (y * iw + iw + x)) (zi_add (by omega)) ?_
        refine z_dald (s := s.setDrawn d0) (n := (iw * ih)) (i := y * iw + iw + x) hx hb hK hP 9 0 rfl rfl (by rw [(show y * iw + iw + x = (y + 1) * iw + x from by rw [Nat.add_mul, Nat.one_mul] <;> omega)]; exact zrow (x := x) (y := (y + 1)) (by omega) (by omega)) (by omega) dX2_forceAt_104 ?_
        refine lv_dload hx hb dX2_forceAt_105 (lv_at hl 1 rfl) ?_
        refine zr_dsub hd0 hx hb (a := S ((y + 1) * iw + x)) (b := S (y * iw + x)) ((congrArg (fun z => zv (tS z)) (show y * iw + iw + x = (y + 1) * iw + x from by rw [Nat.add_mul, Nat.one_mul] <;> omega)).trans (gS _ (zrow (by omega) (by omega)))) (gS _ (zrow (x := x) (y := y) (by omega) (by omega))) dX2_forceAt_107 (fun r17 d18 hr17 hd18 => ?_)
        refine zr_dmul hd18 hx hb (a := N (y * iw + x)) (b := zS (S ((y + 1) * iw + x)) (S (y * iw + x))) (gN _ (zrow (x := x) (y := y) (by omega) (by omega))) hr17 dX2_forceAt_108 (fun r19 d20 hr19 hd20 => ?_)
        refine zr_dadd hd20 hx hb (a := zf2 iw R S x y) (b := zM (N (y * iw + x)) (zS (S ((y + 1) * iw + x)) (S (y * iw + x)))) h2 hr19 dX2_forceAt_109 (fun r21 d22 hr21 hd22 => ?_)
        refine lv_dstore (lv' := [(7, .double r21), (5, .double (tS (y * iw + x))), (4, .int (nI (y * iw + x))), (0, .ref aP), (1, .ref pS), (2, .int (nI x)), (3, .int (nI y))]) hx hb dX2_forceAt_110 hl (by decide) rfl (fun ls hl => ?_)
        exact J_112 r21 _ _ _ _ ((hr21).trans (if_pos (show y + 1 < ih from by omega)).symm) hd22 hS hl
    refine z_if_le (tgt := 77) hx hb (by omega) dX2_forceAt_50 (by decide) (fun c23 => ?_) (fun c24 => ?_)
    · skip
      exact J_77 f1 _ _ _ _ ((h1).trans (if_neg (show ¬ (0 < x) from by omega)).symm) hd0 hS hl
    · skip
      refine lv_dload hx hb dX2_forceAt_53 (lv_at hl 0 rfl) ?_
      refine lv_aload_n hx hb dX2_forceAt_55 rfl (lv_at hl 3 rfl) ?_
      refine va_get (D := (dC, dI)) (ci := 2) (v := .ref pR) (C := RX2) (T := TX2) (N := 9) hx hb (dr_words hts d0) (in_X2_forceAt_X2) hown hK hP 0 rfl rfl 3 (by decide) (dr_words hts d0 (.fieldLink RX2 22 "PlateModes$Plate" "toRight" "[D") (by decide +kernel)) (fun _ h9 => h9) rfl dX2_forceAt_56 ?_
      refine lv_iload hx hb dX2_forceAt_59 (lv_at hl 2 rfl) ?_
      refine lv_iconst (v := (nI 1)) hx hb dX2_forceAt_61 (by decide) ?_
      refine t_isub hx hb dX2_forceAt_62 (v := nI (y * iw + x - 1)) (zi_sub (by omega) (by omega)) ?_
      refine z_dald (s := s.setDrawn d0) (n := (iw * ih)) (i := y * iw + x - 1) hx hb hK hP 2 0 rfl rfl (by rw [(show y * iw + x - 1 = y * iw + (x - 1) from by omega)]; exact zrow (x := (x - 1)) (y := y) (by omega) (by omega)) (by omega) dX2_forceAt_63 ?_
      refine lv_aload_n hx hb dX2_forceAt_64 rfl (lv_at hl 4 rfl) ?_
      refine lv_iload hx hb dX2_forceAt_65 (lv_at hl 2 rfl) ?_
      refine lv_iconst (v := (nI 1)) hx hb dX2_forceAt_67 (by decide) ?_
      refine t_isub hx hb dX2_forceAt_68 (v := nI (y * iw + x - 1)) (zi_sub (by omega) (by omega)) ?_
      refine z_dald (s := s.setDrawn d0) (n := (iw * ih)) (i := y * iw + x - 1) hx hb hK hP 9 0 rfl rfl (by rw [(show y * iw + x - 1 = y * iw + (x - 1) from by omega)]; exact zrow (x := (x - 1)) (y := y) (by omega) (by omega)) (by omega) dX2_forceAt_69 ?_
      refine lv_dload hx hb dX2_forceAt_70 (lv_at hl 1 rfl) ?_
      refine zr_dsub hd0 hx hb (a := S (y * iw + (x - 1))) (b := S (y * iw + x)) ((congrArg (fun z => zv (tS z)) (show y * iw + x - 1 = y * iw + (x - 1) from by omega)).trans (gS _ (zrow (by omega) (by omega)))) (gS _ (zrow (x := x) (y := y) (by omega) (by omega))) dX2_forceAt_72 (fun r25 d26 hr25 hd26 => ?_)
      refine zr_dmul hd26 hx hb (a := R (y * iw + (x - 1))) (b := zS (S (y * iw + (x - 1))) (S (y * iw + x))) ((congrArg (fun z => zv (tR z)) (show y * iw + x - 1 = y * iw + (x - 1) from by omega)).trans (gR _ (zrow (by omega) (by omega)))) hr25 dX2_forceAt_73 (fun r27 d28 hr27 hd28 => ?_)
      refine zr_dadd hd28 hx hb (a := zf1 iw R S x y) (b := zM (R (y * iw + (x - 1))) (zS (S (y * iw + (x - 1))) (S (y * iw + x)))) h1 hr27 dX2_forceAt_74 (fun r29 d30 hr29 hd30 => ?_)
      refine lv_dstore (lv' := [(7, .double r29), (5, .double (tS (y * iw + x))), (4, .int (nI (y * iw + x))), (0, .ref aP), (1, .ref pS), (2, .int (nI x)), (3, .int (nI y))]) hx hb dX2_forceAt_75 hl (by decide) rfl (fun ls hl => ?_)
      exact J_77 r29 _ _ _ _ ((hr29).trans (if_pos (show 0 < x from by omega)).symm) hd30 hS hl
  refine z_icmp_ge (a := x + 1) (b := iw) (tgt := 49) hx hb (by omega) (by omega) dX2_forceAt_24 (by decide) (fun c31 => ?_) (fun c32 => ?_)
  · skip
    exact J_49 FP.dconst0 _ _ _ _ ((rfl).trans (if_neg (show ¬ (x + 1 < iw) from by omega)).symm) hd0 hS hl
  · skip
    refine lv_dload hx hb dX2_forceAt_27 (lv_at hl 0 rfl) ?_
    refine lv_aload_n hx hb dX2_forceAt_29 rfl (lv_at hl 3 rfl) ?_
    refine va_get (D := (dC, dI)) (ci := 2) (v := .ref pR) (C := RX2) (T := TX2) (N := 9) hx hb (dr_words hts s.drawn) (in_X2_forceAt_X2) hown hK hP 0 rfl rfl 3 (by decide) (dr_words hts s.drawn (.fieldLink RX2 22 "PlateModes$Plate" "toRight" "[D") (by decide +kernel)) (fun _ h9 => h9) rfl dX2_forceAt_30 ?_
    refine lv_iload hx hb dX2_forceAt_33 (lv_at hl 2 rfl) ?_
    refine z_dald (s := s.setDrawn s.drawn) (n := (iw * ih)) (i := y * iw + x) hx hb hK hP 2 0 rfl rfl (zrow (x := x) (y := y) (by omega) (by omega)) (by omega) dX2_forceAt_35 ?_
    refine lv_aload_n hx hb dX2_forceAt_36 rfl (lv_at hl 4 rfl) ?_
    refine lv_iload hx hb dX2_forceAt_37 (lv_at hl 2 rfl) ?_
    refine lv_iconst (v := (nI 1)) hx hb dX2_forceAt_39 (by decide) ?_
    refine t_iadd hx hb dX2_forceAt_40 (v := nI (y * iw + x + 1)) (zi_add (by omega)) ?_
    refine z_dald (s := s.setDrawn s.drawn) (n := (iw * ih)) (i := y * iw + x + 1) hx hb hK hP 9 0 rfl rfl (zrow (x := (x + 1)) (y := y) (by omega) (by omega)) (by omega) dX2_forceAt_41 ?_
    refine lv_dload hx hb dX2_forceAt_42 (lv_at hl 1 rfl) ?_
    refine zr_dsub hd0 hx hb (a := S (y * iw + (x + 1))) (b := S (y * iw + x)) (gS _ (zrow (x := (x + 1)) (y := y) (by omega) (by omega))) (gS _ (zrow (x := x) (y := y) (by omega) (by omega))) dX2_forceAt_44 (fun r33 d34 hr33 hd34 => ?_)
    refine zr_dmul hd34 hx hb (a := R (y * iw + x)) (b := zS (S (y * iw + (x + 1))) (S (y * iw + x))) (gR _ (zrow (x := x) (y := y) (by omega) (by omega))) hr33 dX2_forceAt_45 (fun r35 d36 hr35 hd36 => ?_)
    refine zr_dadd hd36 hx hb (a := z0) (b := zM (R (y * iw + x)) (zS (S (y * iw + (x + 1))) (S (y * iw + x)))) rfl hr35 dX2_forceAt_46 (fun r37 d38 hr37 hd38 => ?_)
    refine lv_dstore (lv' := [(7, .double r37), (5, .double (tS (y * iw + x))), (4, .int (nI (y * iw + x))), (0, .ref aP), (1, .ref pS), (2, .int (nI x)), (3, .int (nI y))]) hx hb dX2_forceAt_47 hl (by decide) rfl (fun ls hl => ?_)
    exact J_49 r37 _ _ _ _ ((hr37).trans (if_pos (show x + 1 < iw from by omega)).symm) hd38 hS hl
theorem in_X2_heldAt_X2 : ∀ w ∈ wsX20, w ∈ wsX2_heldAt := by intro w h; unfold wsX2_heldAt; simp only [List.mem_cons, List.mem_append]; first | exact Or.inr (Or.inr h) | exact Or.inr (Or.inl (Or.inr h)) | exact Or.inr (Or.inl (Or.inl (Or.inr h))) | exact Or.inr (Or.inr (Or.inl h)) | exact Or.inr (Or.inr (Or.inr h))
set_option maxHeartbeats 4000000 in
set_option maxRecDepth 100000 in
/-- heldAt -/
theorem c2_heldAt (l : Launch) (dC : Nat → ClassId) (dI : Nat → Nat → Nat) (aP pT pR pN pB bP bF bL bH : Nat) (cD cI cQ : ClassId) (iw ih : Nat) (al ac de : UInt64) (nb : Nat) (tT tR tN : Nat → UInt64) (uP uF uL : Nat → Int32) (uH : Nat → UInt64) (hw6 : iw ≤ 6) (hh6 : ih ≤ 6) (T R N : Nat → ZD) (gT : zcr tT (iw * ih) T) (gR : zcr tR (iw * ih) R) (gN : zcr tN (iw * ih) N) (x y : Nat) (hxw : x < iw) (hyh : y < ih) : MetD lw_cs l yX2_heldAt wsX2_heldAt ({ frames := 1, cells := 0, slots := 0, locals := 22 } : Room) (va_Pc [.ref aP, .int (nI x), .int (nI y)] (fun U => va_P (dC, dI) vwCl [(aP, .inr (2, [.int (nI iw), .int (nI ih), .ref pT, .ref pR, .ref pN, .ref pB, .double al, .double ac, .double de])), (pT, .inl (cD, (iw * ih), .inr (.inr (.inr (.inl tT))))), (pR, .inl (cD, (iw * ih), .inr (.inr (.inr (.inl tR))))), (pN, .inl (cD, (iw * ih), .inr (.inr (.inr (.inl tN))))), (pB, .inr (0, [.ref bP, .ref bF, .ref bL, .ref bH, .int (nI nb)])), (bP, .inl (cI, 12, .inl uP)), (bF, .inl (cI, 12, .inl uF)), (bL, .inl (cI, 12, .inl uL)), (bH, .inl (cD, 12, .inr (.inr (.inr (.inl uH)))))] U.heap ∧ va_K (dC, dI) vwCl [(cD, .double), (cI, .int), (cQ, .array .double)] U ∧ zNw U)) (va_Qd (fun (r : UInt64) (_ : Unit) => zv r = zholdC iw R N x y) (fun _ _ => True) (fun _ => False)) 0 0 (fun _ => False) := by
  refine MetD.ofW (cc := cX2_heldAt) (maxL := 6) (ret := (some .double)) (by decide) rfl ?_
  intro p e s m args below meth c s₁ B hml hv hd0
  obtain ⟨rfl, hP0, hK, hN⟩ := hv
  have hx := B.exec
  have hb := B.bytes
  have hr := B.returns
  have hts := atoms_spec (ws := wsX2_heldAt) B.pre
  have hown : s.vm.findClass RX2 = some m.cls := findClass_of_methodNamed B.named
  have hlocks := B.notSynchronized
  have hS : va_S (fun _ => False) s.heap s.heap [] := va_S.rf
  have hP := hP0
  have hl := lv_entry ([.ref aP, .int (nI x), .int (nI y)]) (n := 6) (Nat.le_of_ble_eq_true rfl)
  rw [lg_entry_eq]
  generalize (lg_sl ([.ref aP, .int (nI x), .int (nI y)]) ++ List.replicate (6 - (lg_sl ([.ref aP, .int (nI x), .int (nI y)])).length) Slot.unset).toArray = ls at hl ⊢
  have hl : lv_has ls 6 [(0, .ref aP), (1, .int (nI x)), (2, .int (nI y))] := hl
  have hn36 : iw * ih ≤ 36 := Nat.mul_le_mul hw6 hh6
  refine lv_aload_n hx hb dX2_heldAt_0 rfl (lv_at hl 0 rfl) ?_
  refine lv_iload_n hx hb dX2_heldAt_1 rfl (lv_at hl 1 rfl) ?_
  refine lv_iload_n hx hb dX2_heldAt_2 rfl (lv_at hl 2 rfl) ?_
  have hPc := hP
  refine va_calli (va_runV (As := [.int (nI x), .int (nI y)]) (rest := []) ⟨hx, hb, hml, hown, (dr_words hts s.drawn)⟩ (c2_cellAt l dC dI aP pT pR pN pB bP bF bL bH cD cI cQ iw ih al ac de nb tT tR tN uP uF uL uH x y) (cwV 2 (dr_words hts s.drawn) gX2_heldAt_X2_cellAt rfl rfl rfl (by decide +kernel) ⟨Nat.le_of_ble_eq_true rfl, Nat.le_of_ble_eq_true rfl⟩) ⟨zfb, va_recv hK hP (ci := 2) (q0 := 0) rfl rfl, zpre hPc hK⟩ rfl rfl hl.1 rfl (lv_room (Nat.le_of_ble_eq_true rfl)) dX2_heldAt_3 ⟨Nat.le_of_ble_eq_true rfl, Nat.le_of_ble_eq_true rfl⟩) hS (fun q _ h => h.elim) (fun q h => h.elim) (fun r1 u9 t9 H locs ht9 hvm9 hr1 hB9 hz9 hk1 hS => ?_)
  have hP := zro1 hP hk1
  subst hr1
  refine lv_istore_n (lv' := [(3, .int (nI (y * iw + x))), (0, .ref aP), (1, .int (nI x)), (2, .int (nI y))]) hx hb dX2_heldAt_6 rfl hl (by decide) rfl (fun ls hl => ?_)
  refine va_calld (va_runSN (As := []) (rest := []) ⟨hx, hb, hml, hown, (dr_words hts s.drawn)⟩ (c4_ground l) ⟨va_cnB 0 (dr_words hts s.drawn) gX2_heldAt_X4_ground_n92 rfl rfl rfl (va_Nw.same (u := s) rfl rfl hN.1) (dr_words hts s.drawn (.initialized RX4) (by decide +kernel)) (by decide +kernel) ⟨Nat.le_of_ble_eq_true rfl, Nat.le_of_ble_eq_true rfl⟩, (dr_words hts s.drawn (.static yX4_ground) (by decide +kernel)), trivial⟩ ⟨zfb0, zpre0⟩ rfl rfl hl.1 rfl (lv_room (Nat.le_of_ble_eq_true rfl)) dX2_heldAt_7 ⟨Nat.le_of_ble_eq_true rfl, Nat.le_of_ble_eq_true rfl⟩) hS (fun q _ h => h.elim) (fun q h => h.elim) (fun r2 u9 t9 H locs ht9 hvm9 hr2 hB9 hz9 hk1 hS => ?_)
  have hP := zro1 hP hk1
  subst hr2
  refine lv_dstore (lv' := [(4, .double 4589168020290535424), (3, .int (nI (y * iw + x))), (0, .ref aP), (1, .int (nI x)), (2, .int (nI y))]) hx hb dX2_heldAt_10 hl (by decide) rfl (fun ls hl => ?_)
  refine lv_dload hx hb dX2_heldAt_12 (lv_at hl 0 rfl) ?_
  refine lv_aload_n hx hb dX2_heldAt_14 rfl (lv_at hl 2 rfl) ?_
  refine va_get (D := (dC, dI)) (ci := 2) (v := .ref pR) (C := RX2) (T := TX2) (N := 9) hx hb (dr_words hts s.drawn) (in_X2_heldAt_X2) hown hK hP 0 rfl rfl 3 (by decide) (dr_words hts s.drawn (.fieldLink RX2 22 "PlateModes$Plate" "toRight" "[D") (by decide +kernel)) (fun _ h9 => h9) rfl dX2_heldAt_15 ?_
  refine lv_iload_n hx hb dX2_heldAt_18 rfl (lv_at hl 1 rfl) ?_
  refine z_dald (s := s.setDrawn s.drawn) (n := (iw * ih)) (i := y * iw + x) hx hb hK hP 2 0 rfl rfl (zrow (x := x) (y := y) (by omega) (by omega)) (by omega) dX2_heldAt_19 ?_
  refine zr_dadd hd0 hx hb (a := zgc) (b := R (y * iw + x)) rfl (gR _ (zrow (x := x) (y := y) (by omega) (by omega))) dX2_heldAt_20 (fun r3 d4 hr3 hd4 => ?_)
  refine lv_dstore (lv' := [(4, .double r3), (3, .int (nI (y * iw + x))), (0, .ref aP), (1, .int (nI x)), (2, .int (nI y))]) hx hb dX2_heldAt_21 hl (by decide) rfl (fun ls hl => ?_)
  refine lv_iload_n hx hb dX2_heldAt_23 rfl (lv_at hl 3 rfl) ?_
  have J_43 : ∀ (f2 : UInt64) (d0 : Drawn) (H : Heap) (locs : List Loc) (ls : Array Slot), (zv f2 = zk2 iw R x y) → s.drawn.sameBut d0 lw_cs → va_S (fun _ => False) s.heap H locs → lv_has ls 6 [(3, .int (nI (y * iw + x))), (0, .ref aP), (1, .int (nI x)), (2, .int (nI y))] → W p l e (headSpec wsX2_heldAt ({ frames := 1, cells := 0, slots := 0, locals := 22 } : Room)).room (s.setDrawn d0) m ([.ref aP, .int (nI x), .int (nI y)] : List Value).toArray below meth c H locs 0 0 (MQD lw_cs below (va_Qd (fun (r : UInt64) (_ : Unit) => zv r = zholdC iw R N x y) (fun _ _ => True) (fun _ => False)) ([.ref aP, .int (nI x), .int (nI y)] : List Value).toArray s 0 0 (fun _ => False)) (F0 m 43 ls [.double f2]) := by
    intro f2 d0 H locs ls h2 hd0 hS hl
    have hP := zro hP0 hS
    refine lv_dstore (lv' := [(4, .double f2), (3, .int (nI (y * iw + x))), (0, .ref aP), (1, .int (nI x)), (2, .int (nI y))]) hx hb dX2_heldAt_43 hl (by decide) rfl (fun ls hl => ?_)
    refine lv_dload hx hb dX2_heldAt_45 (lv_at hl 0 rfl) ?_
    refine lv_aload_n hx hb dX2_heldAt_47 rfl (lv_at hl 2 rfl) ?_
    refine va_get (D := (dC, dI)) (ci := 2) (v := .ref pN) (C := RX2) (T := TX2) (N := 9) hx hb (dr_words hts d0) (in_X2_heldAt_X2) hown hK hP 0 rfl rfl 4 (by decide) (dr_words hts d0 (.fieldLink RX2 25 "PlateModes$Plate" "toBelow" "[D") (by decide +kernel)) (fun _ h9 => h9) rfl dX2_heldAt_48 ?_
    refine lv_iload_n hx hb dX2_heldAt_51 rfl (lv_at hl 1 rfl) ?_
    refine z_dald (s := s.setDrawn d0) (n := (iw * ih)) (i := y * iw + x) hx hb hK hP 3 0 rfl rfl (zrow (x := x) (y := y) (by omega) (by omega)) (by omega) dX2_heldAt_52 ?_
    refine zr_dadd hd0 hx hb (a := zk2 iw R x y) (b := N (y * iw + x)) h2 (gN _ (zrow (x := x) (y := y) (by omega) (by omega))) dX2_heldAt_53 (fun r5 d6 hr5 hd6 => ?_)
    refine lv_dstore (lv' := [(4, .double r5), (3, .int (nI (y * iw + x))), (0, .ref aP), (1, .int (nI x)), (2, .int (nI y))]) hx hb dX2_heldAt_54 hl (by decide) rfl (fun ls hl => ?_)
    refine lv_iload_n hx hb dX2_heldAt_56 rfl (lv_at hl 4 rfl) ?_
    have J_79 : ∀ (f4 : UInt64) (d0 : Drawn) (H : Heap) (locs : List Loc) (ls : Array Slot), (zv f4 = zholdC iw R N x y) → s.drawn.sameBut d0 lw_cs → va_S (fun _ => False) s.heap H locs → lv_has ls 6 [(3, .int (nI (y * iw + x))), (0, .ref aP), (1, .int (nI x)), (2, .int (nI y))] → W p l e (headSpec wsX2_heldAt ({ frames := 1, cells := 0, slots := 0, locals := 22 } : Room)).room (s.setDrawn d0) m ([.ref aP, .int (nI x), .int (nI y)] : List Value).toArray below meth c H locs 0 0 (MQD lw_cs below (va_Qd (fun (r : UInt64) (_ : Unit) => zv r = zholdC iw R N x y) (fun _ _ => True) (fun _ => False)) ([.ref aP, .int (nI x), .int (nI y)] : List Value).toArray s 0 0 (fun _ => False)) (F0 m 79 ls [.double f4]) := by
      intro f4 d0 H locs ls h4 hd0 hS hl
      have hP := zro hP0 hS
      refine W.endD hd0 ?_
      exact W.dret (v := f4) hx hb hr (fun t ht hW => ⟨⟨f4, (), rfl, ⟨h4, trivial⟩⟩, hS.F ht⟩) hS.2.2 dX2_heldAt_79
    refine z_if_le (tgt := 77) hx hb (by omega) dX2_heldAt_57 (by decide) (fun c7 => ?_) (fun c8 => ?_)
    · skip
      refine lv_dload hx hb dX2_heldAt_77 (lv_at hl 0 rfl) ?_
      exact J_79 r5 _ _ _ _ ((hr5).trans (if_neg (show ¬ (0 < y) from by omega)).symm) hd6 hS (lv_sub hl [1, 2, 3, 4] rfl)
    · skip
      have hyw : iw ≤ y * iw := Nat.le_mul_of_pos_left iw (by omega)
      refine lv_dload hx hb dX2_heldAt_60 (lv_at hl 0 rfl) ?_
      refine lv_aload_n hx hb dX2_heldAt_62 rfl (lv_at hl 2 rfl) ?_
      refine va_get (D := (dC, dI)) (ci := 2) (v := .ref pN) (C := RX2) (T := TX2) (N := 9) hx hb (dr_words hts d6) (in_X2_heldAt_X2) hown hK hP 0 rfl rfl 4 (by decide) (dr_words hts d6 (.fieldLink RX2 25 "PlateModes$Plate" "toBelow" "[D") (by decide +kernel)) (fun _ h9 => h9) rfl dX2_heldAt_63 ?_
      refine lv_iload_n hx hb dX2_heldAt_66 rfl (lv_at hl 1 rfl) ?_
      refine lv_aload_n hx hb dX2_heldAt_67 rfl (lv_at hl 2 rfl) ?_
      refine va_get (D := (dC, dI)) (ci := 2) (v := .int (nI iw)) (C := RX2) (T := TX2) (N := 9) hx hb (dr_words hts d6) (in_X2_heldAt_X2) hown hK hP 0 rfl rfl 0 (by decide) (dr_words hts d6 (.fieldLink RX2 9 "PlateModes$Plate" "width" "I") (by decide +kernel)) (fun _ h9 => h9) rfl dX2_heldAt_68 ?_
      refine t_isub hx hb dX2_heldAt_71 (v := nI (y * iw + x - iw)) (zi_sub (by omega) (by omega)) ?_
      refine z_dald (s := s.setDrawn d6) (n := (iw * ih)) (i := y * iw + x - iw) hx hb hK hP 3 0 rfl rfl (by rw [(show y * iw + x - iw = (y - 1) * iw + x from zidx_dn (by omega) _ _)]; exact zrow (x := x) (y := (y - 1)) (by omega) (by omega)) (by omega) dX2_heldAt_72 ?_
      refine zr_dadd hd6 hx hb (a := zA (zk2 iw R x y) (N (y * iw + x))) (b := N ((y - 1) * iw + x)) hr5 ((congrArg (fun z => zv (tN z)) (show y * iw + x - iw = (y - 1) * iw + x from zidx_dn (by omega) _ _)).trans (gN _ (zrow (by omega) (by omega)))) dX2_heldAt_73 (fun r9 d10 hr9 hd10 => ?_)
      refine lv_goto (tgt := 79) hx hb dX2_heldAt_74 (by decide) ?_
      exact J_79 r9 _ _ _ _ ((hr9).trans (if_pos (show 0 < y from by omega)).symm) hd10 hS (lv_sub hl [1, 2, 3, 4] rfl)
  refine z_if_le (tgt := 41) hx hb (by omega) dX2_heldAt_24 (by decide) (fun c11 => ?_) (fun c12 => ?_)
  · skip
    refine lv_dload hx hb dX2_heldAt_41 (lv_at hl 0 rfl) ?_
    exact J_43 r3 _ _ _ _ ((hr3).trans (if_neg (show ¬ (0 < x) from by omega)).symm) hd4 hS (lv_sub hl [1, 2, 3, 4] rfl)
  · skip
    refine lv_dload hx hb dX2_heldAt_27 (lv_at hl 0 rfl) ?_
    refine lv_aload_n hx hb dX2_heldAt_29 rfl (lv_at hl 2 rfl) ?_
    refine va_get (D := (dC, dI)) (ci := 2) (v := .ref pR) (C := RX2) (T := TX2) (N := 9) hx hb (dr_words hts d4) (in_X2_heldAt_X2) hown hK hP 0 rfl rfl 3 (by decide) (dr_words hts d4 (.fieldLink RX2 22 "PlateModes$Plate" "toRight" "[D") (by decide +kernel)) (fun _ h9 => h9) rfl dX2_heldAt_30 ?_
    refine lv_iload_n hx hb dX2_heldAt_33 rfl (lv_at hl 1 rfl) ?_
    refine lv_iconst (v := (nI 1)) hx hb dX2_heldAt_34 (by decide) ?_
    refine t_isub hx hb dX2_heldAt_35 (v := nI (y * iw + x - 1)) (zi_sub (by omega) (by omega)) ?_
    refine z_dald (s := s.setDrawn d4) (n := (iw * ih)) (i := y * iw + x - 1) hx hb hK hP 2 0 rfl rfl (by rw [(show y * iw + x - 1 = y * iw + (x - 1) from by omega)]; exact zrow (x := (x - 1)) (y := y) (by omega) (by omega)) (by omega) dX2_heldAt_36 ?_
    refine zr_dadd hd4 hx hb (a := zA zgc (R (y * iw + x))) (b := R (y * iw + (x - 1))) hr3 ((congrArg (fun z => zv (tR z)) (show y * iw + x - 1 = y * iw + (x - 1) from by omega)).trans (gR _ (zrow (by omega) (by omega)))) dX2_heldAt_37 (fun r13 d14 hr13 hd14 => ?_)
    refine lv_goto (tgt := 43) hx hb dX2_heldAt_38 (by decide) ?_
    exact J_43 r13 _ _ _ _ ((hr13).trans (if_pos (show 0 < x from by omega)).symm) hd14 hS (lv_sub hl [1, 2, 3, 4] rfl)
theorem in_X2_beginShape_X2 : ∀ w ∈ wsX20, w ∈ wsX2_beginShape := by intro w h; unfold wsX2_beginShape; simp only [List.mem_cons, List.mem_append]; first | exact Or.inr (Or.inr h) | exact Or.inr (Or.inl (Or.inr h)) | exact Or.inr (Or.inl (Or.inl (Or.inr h))) | exact Or.inr (Or.inr (Or.inl h)) | exact Or.inr (Or.inr (Or.inr h))
set_option maxHeartbeats 4000000 in
set_option maxRecDepth 100000 in
/-- beginShape -/
theorem c2_beginShape (l : Launch) (dC : Nat → ClassId) (dI : Nat → Nat → Nat) (pS aP pT pR pN pB bP bF bL bH : Nat) (cD cI cQ : ClassId) (iw ih : Nat) (al ac de : UInt64) (nb : Nat) (tS tT tR tN : Nat → UInt64) (uP uF uL : Nat → Int32) (uH : Nat → UInt64) (hw6 : iw ≤ 6) (hh6 : ih ≤ 6) (T : Nat → ZD) (gT : zcr tT (iw * ih) T) (k : Nat) (hk : k < 4) (sz : Nat) : MetD lw_cs l yX2_beginShape wsX2_beginShape ({ frames := 1, cells := 0, slots := 0, locals := 22 } : Room) (va_Pc [.ref aP, .ref pS, .int (nI k)] (fun U => U.heap.size = sz ∧ va_P (dC, dI) vwCl [(aP, .inr (2, [.int (nI iw), .int (nI ih), .ref pT, .ref pR, .ref pN, .ref pB, .double al, .double ac, .double de])), (pT, .inl (cD, (iw * ih), .inr (.inr (.inr (.inl tT))))), (pR, .inl (cD, (iw * ih), .inr (.inr (.inr (.inl tR))))), (pN, .inl (cD, (iw * ih), .inr (.inr (.inr (.inl tN))))), (pB, .inr (0, [.ref bP, .ref bF, .ref bL, .ref bH, .int (nI nb)])), (bP, .inl (cI, 12, .inl uP)), (bF, .inl (cI, 12, .inl uF)), (bL, .inl (cI, 12, .inl uL)), (bH, .inl (cD, 12, .inr (.inr (.inr (.inl uH))))), (pS, .inl (cD, (iw * ih), .inr (.inr (.inr (.inl tS)))))] U.heap ∧ va_K (dC, dI) vwCl [(cD, .double), (cI, .int), (cQ, .array .double)] U ∧ va_D (fun _ => True) [(aP, .inr (2, [.int (nI iw), .int (nI ih), .ref pT, .ref pR, .ref pN, .ref pB, .double al, .double ac, .double de])), (pT, .inl (cD, (iw * ih), .inr (.inr (.inr (.inl tT))))), (pR, .inl (cD, (iw * ih), .inr (.inr (.inr (.inl tR))))), (pN, .inl (cD, (iw * ih), .inr (.inr (.inr (.inl tN))))), (pB, .inr (0, [.ref bP, .ref bF, .ref bL, .ref bH, .int (nI nb)])), (bP, .inl (cI, 12, .inl uP)), (bF, .inl (cI, 12, .inl uF)), (bL, .inl (cI, 12, .inl uL)), (bH, .inl (cD, 12, .inr (.inr (.inr (.inl uH))))), (pS, .inl (cD, (iw * ih), .inr (.inr (.inr (.inl tS)))))])) (va_Qv (fun u : Nat → UInt64 => zcr u (iw * ih) (zbegin iw T k)) (fun u t => (va_P (dC, dI) vwCl [(aP, .inr (2, [.int (nI iw), .int (nI ih), .ref pT, .ref pR, .ref pN, .ref pB, .double al, .double ac, .double de])), (pT, .inl (cD, (iw * ih), .inr (.inr (.inr (.inl tT))))), (pR, .inl (cD, (iw * ih), .inr (.inr (.inr (.inl tR))))), (pN, .inl (cD, (iw * ih), .inr (.inr (.inr (.inl tN))))), (pB, .inr (0, [.ref bP, .ref bF, .ref bL, .ref bH, .int (nI nb)])), (bP, .inl (cI, 12, .inl uP)), (bF, .inl (cI, 12, .inl uF)), (bL, .inl (cI, 12, .inl uL)), (bH, .inl (cD, 12, .inr (.inr (.inr (.inl uH))))), (pS, .inl (cD, (iw * ih), .inr (.inr (.inr (.inl u)))))] t.heap ∧ va_K (dC, dI) vwCl [(cD, .double), (cI, .int), (cQ, .array .double)] t ∧ va_D (va_A [(aP, .inr (2, [.int (nI iw), .int (nI ih), .ref pT, .ref pR, .ref pN, .ref pB, .double al, .double ac, .double de])), (pT, .inl (cD, (iw * ih), .inr (.inr (.inr (.inl tT))))), (pR, .inl (cD, (iw * ih), .inr (.inr (.inr (.inl tR))))), (pN, .inl (cD, (iw * ih), .inr (.inr (.inr (.inl tN))))), (pB, .inr (0, [.ref bP, .ref bF, .ref bL, .ref bH, .int (nI nb)])), (bP, .inl (cI, 12, .inl uP)), (bF, .inl (cI, 12, .inl uF)), (bL, .inl (cI, 12, .inl uL)), (bH, .inl (cD, 12, .inr (.inr (.inr (.inl uH))))), (pS, .inl (cD, (iw * ih), .inr (.inr (.inr (.inl tS)))))] sz) [(aP, .inr (2, [.int (nI iw), .int (nI ih), .ref pT, .ref pR, .ref pN, .ref pB, .double al, .double ac, .double de])), (pT, .inl (cD, (iw * ih), .inr (.inr (.inr (.inl tT))))), (pR, .inl (cD, (iw * ih), .inr (.inr (.inr (.inl tR))))), (pN, .inl (cD, (iw * ih), .inr (.inr (.inr (.inl tN))))), (pB, .inr (0, [.ref bP, .ref bF, .ref bL, .ref bH, .int (nI nb)])), (bP, .inl (cI, 12, .inl uP)), (bF, .inl (cI, 12, .inl uF)), (bL, .inl (cI, 12, .inl uL)), (bH, .inl (cD, 12, .inr (.inr (.inr (.inl uH))))), (pS, .inl (cD, (iw * ih), .inr (.inr (.inr (.inl u)))))])) (va_A [(aP, .inr (2, [.int (nI iw), .int (nI ih), .ref pT, .ref pR, .ref pN, .ref pB, .double al, .double ac, .double de])), (pT, .inl (cD, (iw * ih), .inr (.inr (.inr (.inl tT))))), (pR, .inl (cD, (iw * ih), .inr (.inr (.inr (.inl tR))))), (pN, .inl (cD, (iw * ih), .inr (.inr (.inr (.inl tN))))), (pB, .inr (0, [.ref bP, .ref bF, .ref bL, .ref bH, .int (nI nb)])), (bP, .inl (cI, 12, .inl uP)), (bF, .inl (cI, 12, .inl uF)), (bL, .inl (cI, 12, .inl uL)), (bH, .inl (cD, 12, .inr (.inr (.inr (.inl uH))))), (pS, .inl (cD, (iw * ih), .inr (.inr (.inr (.inl tS)))))] sz)) 0 0 (va_A [(aP, .inr (2, [.int (nI iw), .int (nI ih), .ref pT, .ref pR, .ref pN, .ref pB, .double al, .double ac, .double de])), (pT, .inl (cD, (iw * ih), .inr (.inr (.inr (.inl tT))))), (pR, .inl (cD, (iw * ih), .inr (.inr (.inr (.inl tR))))), (pN, .inl (cD, (iw * ih), .inr (.inr (.inr (.inl tN))))), (pB, .inr (0, [.ref bP, .ref bF, .ref bL, .ref bH, .int (nI nb)])), (bP, .inl (cI, 12, .inl uP)), (bF, .inl (cI, 12, .inl uF)), (bL, .inl (cI, 12, .inl uL)), (bH, .inl (cD, 12, .inr (.inr (.inr (.inl uH))))), (pS, .inl (cD, (iw * ih), .inr (.inr (.inr (.inl tS)))))] sz) := by
  refine MetD.ofW (cc := cX2_beginShape) (maxL := 8) (ret := none) (by decide) rfl ?_
  intro p e s m args below meth c s₁ B hml hv hd0
  obtain ⟨rfl, hsz, hP, hK, hD0⟩ := hv
  have hx := B.exec
  have hb := B.bytes
  have hr := B.returns
  have hts := atoms_spec (ws := wsX2_beginShape) B.pre
  have hown : s.vm.findClass RX2 = some m.cls := findClass_of_methodNamed B.named
  have hlocks := B.notSynchronized
  subst hsz
  have hD := hD0.self (sz := s.heap.size)
  generalize hAe : va_A [(aP, .inr (2, [.int (nI iw), .int (nI ih), .ref pT, .ref pR, .ref pN, .ref pB, .double al, .double ac, .double de])), (pT, .inl (cD, (iw * ih), .inr (.inr (.inr (.inl tT))))), (pR, .inl (cD, (iw * ih), .inr (.inr (.inr (.inl tR))))), (pN, .inl (cD, (iw * ih), .inr (.inr (.inr (.inl tN))))), (pB, .inr (0, [.ref bP, .ref bF, .ref bL, .ref bH, .int (nI nb)])), (bP, .inl (cI, 12, .inl uP)), (bF, .inl (cI, 12, .inl uF)), (bL, .inl (cI, 12, .inl uL)), (bH, .inl (cD, 12, .inr (.inr (.inr (.inl uH))))), (pS, .inl (cD, (iw * ih), .inr (.inr (.inr (.inl tS)))))] s.heap.size = A at hD ⊢
  have hA : ∀ q : Nat, s.heap.size ≤ q → A q := fun q h => by rw [← hAe]; exact Or.inr h
  have hS : va_S A s.heap s.heap [] := va_S.rf
  have hl := lv_entry ([.ref aP, .ref pS, .int (nI k)]) (n := 8) (Nat.le_of_ble_eq_true rfl)
  rw [lg_entry_eq]
  generalize (lg_sl ([.ref aP, .ref pS, .int (nI k)]) ++ List.replicate (8 - (lg_sl ([.ref aP, .ref pS, .int (nI k)])).length) Slot.unset).toArray = ls at hl ⊢
  have hl : lv_has ls 8 [(0, .ref aP), (1, .ref pS), (2, .int (nI k))] := hl
  have hn36 : iw * ih ≤ 36 := Nat.mul_le_mul hw6 hh6
  refine lv_iconst (v := (nI 0)) hx hb dX2_beginShape_0 (by decide) ?_
  refine lv_istore_n (lv' := [(3, .int (nI 0)), (0, .ref aP), (1, .ref pS), (2, .int (nI k))]) hx hb dX2_beginShape_1 rfl hl (by decide) rfl (fun ls hl => ?_)
  have L_2 : ∀ (n : Nat) (y : Nat) (fS : Nat → UInt64) (d0 : Drawn) (H : Heap) (locs : List Loc) (ls : Array Slot), ih - y < n → (y ≤ ih) → (zcp2 fS (iw * ih) (y * iw) (zbegin iw T k)) → s.drawn.sameBut d0 lw_cs → va_P (dC, dI) vwCl [(aP, .inr (2, [.int (nI iw), .int (nI ih), .ref pT, .ref pR, .ref pN, .ref pB, .double al, .double ac, .double de])), (pT, .inl (cD, (iw * ih), .inr (.inr (.inr (.inl tT))))), (pR, .inl (cD, (iw * ih), .inr (.inr (.inr (.inl tR))))), (pN, .inl (cD, (iw * ih), .inr (.inr (.inr (.inl tN))))), (pB, .inr (0, [.ref bP, .ref bF, .ref bL, .ref bH, .int (nI nb)])), (bP, .inl (cI, 12, .inl uP)), (bF, .inl (cI, 12, .inl uF)), (bL, .inl (cI, 12, .inl uL)), (bH, .inl (cD, 12, .inr (.inr (.inr (.inl uH))))), (pS, .inl (cD, (iw * ih), .inr (.inr (.inr (.inl fS)))))] H → va_D A [(aP, .inr (2, [.int (nI iw), .int (nI ih), .ref pT, .ref pR, .ref pN, .ref pB, .double al, .double ac, .double de])), (pT, .inl (cD, (iw * ih), .inr (.inr (.inr (.inl tT))))), (pR, .inl (cD, (iw * ih), .inr (.inr (.inr (.inl tR))))), (pN, .inl (cD, (iw * ih), .inr (.inr (.inr (.inl tN))))), (pB, .inr (0, [.ref bP, .ref bF, .ref bL, .ref bH, .int (nI nb)])), (bP, .inl (cI, 12, .inl uP)), (bF, .inl (cI, 12, .inl uF)), (bL, .inl (cI, 12, .inl uL)), (bH, .inl (cD, 12, .inr (.inr (.inr (.inl uH))))), (pS, .inl (cD, (iw * ih), .inr (.inr (.inr (.inl fS)))))] → va_S A s.heap H locs → lv_has ls 8 [(3, .int (nI y)), (0, .ref aP), (1, .ref pS), (2, .int (nI k))] → W p l e (headSpec wsX2_beginShape ({ frames := 1, cells := 0, slots := 0, locals := 22 } : Room)).room (s.setDrawn d0) m ([.ref aP, .ref pS, .int (nI k)] : List Value).toArray below meth c H locs 0 0 (MQD lw_cs below (va_Qv (fun u : Nat → UInt64 => zcr u (iw * ih) (zbegin iw T k)) (fun u t => (va_P (dC, dI) vwCl [(aP, .inr (2, [.int (nI iw), .int (nI ih), .ref pT, .ref pR, .ref pN, .ref pB, .double al, .double ac, .double de])), (pT, .inl (cD, (iw * ih), .inr (.inr (.inr (.inl tT))))), (pR, .inl (cD, (iw * ih), .inr (.inr (.inr (.inl tR))))), (pN, .inl (cD, (iw * ih), .inr (.inr (.inr (.inl tN))))), (pB, .inr (0, [.ref bP, .ref bF, .ref bL, .ref bH, .int (nI nb)])), (bP, .inl (cI, 12, .inl uP)), (bF, .inl (cI, 12, .inl uF)), (bL, .inl (cI, 12, .inl uL)), (bH, .inl (cD, 12, .inr (.inr (.inr (.inl uH))))), (pS, .inl (cD, (iw * ih), .inr (.inr (.inr (.inl u)))))] t.heap ∧ va_K (dC, dI) vwCl [(cD, .double), (cI, .int), (cQ, .array .double)] t ∧ va_D A [(aP, .inr (2, [.int (nI iw), .int (nI ih), .ref pT, .ref pR, .ref pN, .ref pB, .double al, .double ac, .double de])), (pT, .inl (cD, (iw * ih), .inr (.inr (.inr (.inl tT))))), (pR, .inl (cD, (iw * ih), .inr (.inr (.inr (.inl tR))))), (pN, .inl (cD, (iw * ih), .inr (.inr (.inr (.inl tN))))), (pB, .inr (0, [.ref bP, .ref bF, .ref bL, .ref bH, .int (nI nb)])), (bP, .inl (cI, 12, .inl uP)), (bF, .inl (cI, 12, .inl uF)), (bL, .inl (cI, 12, .inl uL)), (bH, .inl (cD, 12, .inr (.inr (.inr (.inl uH))))), (pS, .inl (cD, (iw * ih), .inr (.inr (.inr (.inl u)))))])) A) ([.ref aP, .ref pS, .int (nI k)] : List Value).toArray s 0 0 A) (F0 m 2 ls []) := by
    intro n
    induction n with
    | zero => intro y fS d0 H locs ls hn; exact absurd hn (Nat.not_lt_zero _)
    | succ n ih_L_2 =>
      intro y fS d0 H locs ls hn hyh hq1 hd0 hP hD hS hl
      refine lv_iload_n hx hb dX2_beginShape_2 rfl (lv_at hl 0 rfl) ?_
      refine lv_aload_n hx hb dX2_beginShape_3 rfl (lv_at hl 1 rfl) ?_
      refine va_get (D := (dC, dI)) (ci := 2) (v := .int (nI ih)) (C := RX2) (T := TX2) (N := 9) hx hb (dr_words hts d0) (in_X2_beginShape_X2) hown hK hP 0 rfl rfl 1 (by decide) (dr_words hts d0 (.fieldLink RX2 15 "PlateModes$Plate" "height" "I") (by decide +kernel)) (fun _ h9 => h9) rfl dX2_beginShape_4 ?_
      refine z_icmp_ge (a := y) (b := ih) (tgt := 87) hx hb (by omega) (by omega) dX2_beginShape_7 (by decide) (fun c1 => ?_) (fun c2 => ?_)
      · skip
        refine W.endD hd0 ?_
        exact W.vret hx hb hr (fun t ht hW => ⟨⟨fS, rfl, (zcp2_all hq1 (by rw [show y = ih by omega, Nat.mul_comm]; exact Nat.le_refl _)), by rw [ht]; exact hP, va_K.moved hW.alike hK, hD⟩, hS.F ht⟩) hS.2.2 dX2_beginShape_87
      · skip
        refine lv_iconst (v := (nI 0)) hx hb dX2_beginShape_10 (by decide) ?_
        refine lv_istore (lv' := [(4, .int (nI 0)), (3, .int (nI y)), (0, .ref aP), (1, .ref pS), (2, .int (nI k))]) hx hb dX2_beginShape_11 hl (by decide) rfl (fun ls hl => ?_)
        have L_13 : ∀ (n : Nat) (x : Nat) (fS : Nat → UInt64) (d0 : Drawn) (H : Heap) (locs : List Loc) (ls : Array Slot), iw - x < n → (x ≤ iw) → (zcp2 fS (iw * ih) (y * iw + x) (zbegin iw T k)) → s.drawn.sameBut d0 lw_cs → va_P (dC, dI) vwCl [(aP, .inr (2, [.int (nI iw), .int (nI ih), .ref pT, .ref pR, .ref pN, .ref pB, .double al, .double ac, .double de])), (pT, .inl (cD, (iw * ih), .inr (.inr (.inr (.inl tT))))), (pR, .inl (cD, (iw * ih), .inr (.inr (.inr (.inl tR))))), (pN, .inl (cD, (iw * ih), .inr (.inr (.inr (.inl tN))))), (pB, .inr (0, [.ref bP, .ref bF, .ref bL, .ref bH, .int (nI nb)])), (bP, .inl (cI, 12, .inl uP)), (bF, .inl (cI, 12, .inl uF)), (bL, .inl (cI, 12, .inl uL)), (bH, .inl (cD, 12, .inr (.inr (.inr (.inl uH))))), (pS, .inl (cD, (iw * ih), .inr (.inr (.inr (.inl fS)))))] H → va_D A [(aP, .inr (2, [.int (nI iw), .int (nI ih), .ref pT, .ref pR, .ref pN, .ref pB, .double al, .double ac, .double de])), (pT, .inl (cD, (iw * ih), .inr (.inr (.inr (.inl tT))))), (pR, .inl (cD, (iw * ih), .inr (.inr (.inr (.inl tR))))), (pN, .inl (cD, (iw * ih), .inr (.inr (.inr (.inl tN))))), (pB, .inr (0, [.ref bP, .ref bF, .ref bL, .ref bH, .int (nI nb)])), (bP, .inl (cI, 12, .inl uP)), (bF, .inl (cI, 12, .inl uF)), (bL, .inl (cI, 12, .inl uL)), (bH, .inl (cD, 12, .inr (.inr (.inr (.inl uH))))), (pS, .inl (cD, (iw * ih), .inr (.inr (.inr (.inl fS)))))] → va_S A s.heap H locs → lv_has ls 8 [(4, .int (nI x)), (3, .int (nI y)), (0, .ref aP), (1, .ref pS), (2, .int (nI k))] → W p l e (headSpec wsX2_beginShape ({ frames := 1, cells := 0, slots := 0, locals := 22 } : Room)).room (s.setDrawn d0) m ([.ref aP, .ref pS, .int (nI k)] : List Value).toArray below meth c H locs 0 0 (MQD lw_cs below (va_Qv (fun u : Nat → UInt64 => zcr u (iw * ih) (zbegin iw T k)) (fun u t => (va_P (dC, dI) vwCl [(aP, .inr (2, [.int (nI iw), .int (nI ih), .ref pT, .ref pR, .ref pN, .ref pB, .double al, .double ac, .double de])), (pT, .inl (cD, (iw * ih), .inr (.inr (.inr (.inl tT))))), (pR, .inl (cD, (iw * ih), .inr (.inr (.inr (.inl tR))))), (pN, .inl (cD, (iw * ih), .inr (.inr (.inr (.inl tN))))), (pB, .inr (0, [.ref bP, .ref bF, .ref bL, .ref bH, .int (nI nb)])), (bP, .inl (cI, 12, .inl uP)), (bF, .inl (cI, 12, .inl uF)), (bL, .inl (cI, 12, .inl uL)), (bH, .inl (cD, 12, .inr (.inr (.inr (.inl uH))))), (pS, .inl (cD, (iw * ih), .inr (.inr (.inr (.inl u)))))] t.heap ∧ va_K (dC, dI) vwCl [(cD, .double), (cI, .int), (cQ, .array .double)] t ∧ va_D A [(aP, .inr (2, [.int (nI iw), .int (nI ih), .ref pT, .ref pR, .ref pN, .ref pB, .double al, .double ac, .double de])), (pT, .inl (cD, (iw * ih), .inr (.inr (.inr (.inl tT))))), (pR, .inl (cD, (iw * ih), .inr (.inr (.inr (.inl tR))))), (pN, .inl (cD, (iw * ih), .inr (.inr (.inr (.inl tN))))), (pB, .inr (0, [.ref bP, .ref bF, .ref bL, .ref bH, .int (nI nb)])), (bP, .inl (cI, 12, .inl uP)), (bF, .inl (cI, 12, .inl uF)), (bL, .inl (cI, 12, .inl uL)), (bH, .inl (cD, 12, .inr (.inr (.inr (.inl uH))))), (pS, .inl (cD, (iw * ih), .inr (.inr (.inr (.inl u)))))])) A) ([.ref aP, .ref pS, .int (nI k)] : List Value).toArray s 0 0 A) (F0 m 13 ls []) := by
          intro n
          induction n with
          | zero => intro x fS d0 H locs ls hn; exact absurd hn (Nat.not_lt_zero _)
          | succ n ih_L_13 =>
            intro x fS d0 H locs ls hn hxw hq2 hd0 hP hD hS hl
            refine lv_iload hx hb dX2_beginShape_13 (lv_at hl 0 rfl) ?_
            refine lv_aload_n hx hb dX2_beginShape_15 rfl (lv_at hl 2 rfl) ?_
            refine va_get (D := (dC, dI)) (ci := 2) (v := .int (nI iw)) (C := RX2) (T := TX2) (N := 9) hx hb (dr_words hts d0) (in_X2_beginShape_X2) hown hK hP 0 rfl rfl 0 (by decide) (dr_words hts d0 (.fieldLink RX2 9 "PlateModes$Plate" "width" "I") (by decide +kernel)) (fun _ h9 => h9) rfl dX2_beginShape_16 ?_
            refine z_icmp_ge (a := x) (b := iw) (tgt := 81) hx hb (by omega) (by omega) dX2_beginShape_19 (by decide) (fun c3 => ?_) (fun c4 => ?_)
            · skip
              refine lv_iinc (v := nI (y + 1)) (lv' := [(3, .int (nI (y + 1))), (4, .int (nI x)), (0, .ref aP), (1, .ref pS), (2, .int (nI k))]) hx hb dX2_beginShape_81 hl (k := 1) rfl (show nI y + nI 1 = _ from zi_add (by omega)) (by decide) rfl (fun ls hl => ?_)
              refine lv_goto (tgt := 2) hx hb dX2_beginShape_84 (by decide) ?_
              exact ih_L_2 (y + 1) fS _ _ _ _ (by omega) (by omega) (zcp2_n hq2 (by rw [← zrow_end]; omega)) hd0 hP hD hS (lv_sub hl [0, 2, 3, 4] rfl)
            · skip
              refine lv_aload_n hx hb dX2_beginShape_22 rfl (lv_at hl 2 rfl) ?_
              refine lv_iload hx hb dX2_beginShape_23 (lv_at hl 0 rfl) ?_
              refine lv_iload_n hx hb dX2_beginShape_25 rfl (lv_at hl 1 rfl) ?_
              have hPc := hP.sub (ws' := [(aP, .inr (2, [.int (nI iw), .int (nI ih), .ref pT, .ref pR, .ref pN, .ref pB, .double al, .double ac, .double de])), (pT, .inl (cD, (iw * ih), .inr (.inr (.inr (.inl tT))))), (pR, .inl (cD, (iw * ih), .inr (.inr (.inr (.inl tR))))), (pN, .inl (cD, (iw * ih), .inr (.inr (.inr (.inl tN))))), (pB, .inr (0, [.ref bP, .ref bF, .ref bL, .ref bH, .int (nI nb)])), (bP, .inl (cI, 12, .inl uP)), (bF, .inl (cI, 12, .inl uF)), (bL, .inl (cI, 12, .inl uL)), (bH, .inl (cD, 12, .inr (.inr (.inr (.inl uH)))))]) [0, 1, 2, 3, 4, 5, 6, 7, 8] rfl
              refine va_calli (va_runV (As := [.int (nI x), .int (nI y)]) (rest := []) ⟨hx, hb, hml, hown, (dr_words hts d0)⟩ (c2_cellAt l dC dI aP pT pR pN pB bP bF bL bH cD cI cQ iw ih al ac de nb tT tR tN uP uF uL uH x y) (cwV 2 (dr_words hts d0) gX2_beginShape_X2_cellAt rfl rfl rfl (by decide +kernel) ⟨Nat.le_of_ble_eq_true rfl, Nat.le_of_ble_eq_true rfl⟩) ⟨zfb, va_recv hK hP (ci := 2) (q0 := 0) rfl rfl, zpre hPc hK⟩ rfl rfl hl.1 rfl (lv_room (Nat.le_of_ble_eq_true rfl)) dX2_beginShape_26 ⟨Nat.le_of_ble_eq_true rfl, Nat.le_of_ble_eq_true rfl⟩) hS (fun q _ h => h.elim) (fun q h => h.elim) (fun r5 u9 t9 H locs ht9 hvm9 hr5 hB9 hz9 hk1 hS => ?_)
              have hP := zro1 hP hk1
              subst hr5
              refine lv_istore (lv' := [(5, .int (nI (y * iw + x))), (4, .int (nI x)), (3, .int (nI y)), (0, .ref aP), (1, .ref pS), (2, .int (nI k))]) hx hb dX2_beginShape_29 hl (by decide) rfl (fun ls hl => ?_)
              refine lv_iconst (v := (nI 3)) hx hb dX2_beginShape_31 (by decide) ?_
              refine lv_iload hx hb dX2_beginShape_32 (lv_at hl 1 rfl) ?_
              refine t_imul hx hb dX2_beginShape_34 (v := nI (3 * x)) (zi_mul rfl) ?_
              refine lv_iconst (v := (nI 5)) hx hb dX2_beginShape_35 (by decide) ?_
              refine lv_iload_n hx hb dX2_beginShape_36 rfl (lv_at hl 2 rfl) ?_
              refine t_imul hx hb dX2_beginShape_37 (v := nI (5 * y)) (zi_mul rfl) ?_
              refine t_iadd hx hb dX2_beginShape_38 (v := nI (5 * y + 3 * x)) (zi_add (by omega)) ?_
              refine lv_bipush (v := (nI 7)) hx hb dX2_beginShape_39 (by decide) ?_
              refine lv_iload_n hx hb dX2_beginShape_41 rfl (lv_at hl 5 rfl) ?_
              refine t_imul hx hb dX2_beginShape_42 (v := nI (7 * k)) (zi_mul rfl) ?_
              refine t_iadd hx hb dX2_beginShape_43 (v := nI (7 * k + 5 * y + 3 * x)) (zi_add (by omega)) ?_
              refine lv_bipush (v := (nI 11)) hx hb dX2_beginShape_44 (by decide) ?_
              refine t_irem hx hb dX2_beginShape_46 (fun h => absurd h (by decide)) (v := nI ((7 * k + 5 * y + 3 * x) % 11)) (pk_rem (by omega) (by omega) (by omega)) ?_
              refine lv_i2d hx hb dX2_beginShape_47 ?_
              refine lv_dstore (lv' := [(6, .double (FP.i2d (nI (((7 * k + 5 * y + 3 * x) % 11))))), (5, .int (nI (y * iw + x))), (4, .int (nI x)), (3, .int (nI y)), (0, .ref aP), (1, .ref pS), (2, .int (nI k))]) hx hb dX2_beginShape_48 hl (by decide) rfl (fun ls hl => ?_)
              refine lv_aload_n hx hb dX2_beginShape_50 rfl (lv_at hl 5 rfl) ?_
              refine lv_iload hx hb dX2_beginShape_51 (lv_at hl 1 rfl) ?_
              refine lv_aload_n hx hb dX2_beginShape_53 rfl (lv_at hl 4 rfl) ?_
              refine lv_iload hx hb dX2_beginShape_54 (lv_at hl 1 rfl) ?_
              have hPc := hP.sub (ws' := [(aP, .inr (2, [.int (nI iw), .int (nI ih), .ref pT, .ref pR, .ref pN, .ref pB, .double al, .double ac, .double de])), (pT, .inl (cD, (iw * ih), .inr (.inr (.inr (.inl tT))))), (pR, .inl (cD, (iw * ih), .inr (.inr (.inr (.inl tR))))), (pN, .inl (cD, (iw * ih), .inr (.inr (.inr (.inl tN))))), (pB, .inr (0, [.ref bP, .ref bF, .ref bL, .ref bH, .int (nI nb)])), (bP, .inl (cI, 12, .inl uP)), (bF, .inl (cI, 12, .inl uF)), (bL, .inl (cI, 12, .inl uL)), (bH, .inl (cD, 12, .inr (.inr (.inr (.inl uH)))))]) [0, 1, 2, 3, 4, 5, 6, 7, 8] rfl
              refine va_calli (va_runV (As := [.int (nI (y * iw + x))]) (rest := [.int (nI (y * iw + x)), .ref pS]) ⟨hx, hb, hml, hown, (dr_words hts d0)⟩ (c2_hasWood l dC dI aP pT pR pN pB bP bF bL bH cD cI cQ iw ih al ac de nb tT tR tN uP uF uL uH hw6 hh6 (y * iw + x) (zrow (x := x) (y := y) (by omega) (by omega))) (cwV 1 (dr_words hts d0) gX2_beginShape_X2_hasWood rfl rfl rfl (by decide +kernel) ⟨Nat.le_of_ble_eq_true rfl, Nat.le_of_ble_eq_true rfl⟩) ⟨zfb, va_recv hK hP (ci := 2) (q0 := 0) rfl rfl, zpre hPc hK⟩ rfl rfl hl.1 rfl (lv_room (Nat.le_of_ble_eq_true rfl)) dX2_beginShape_56 ⟨Nat.le_of_ble_eq_true rfl, Nat.le_of_ble_eq_true rfl⟩) hS (fun q _ h => h.elim) (fun q h => h.elim) (fun r6 u9 t9 H locs ht9 hvm9 hr6 hB9 hz9 hk1 hS => ?_)
              have hP := zro1 hP hk1
              have hr6 : r6 = zb (zgt (T (y * iw + x)) z0) := by rw [hr6, show zv (tT (y * iw + x)) = T (y * iw + x) from gT _ (zrow (x := x) (y := y) (by omega) (by omega))]
              subst hr6
              have J_74 : ∀ (v1 : UInt64) (d0 : Drawn) (H : Heap) (locs : List Loc) (ls : Array Slot), (zv v1 = (zbegin iw T k) (y * iw + x)) → s.drawn.sameBut d0 lw_cs → va_P (dC, dI) vwCl [(aP, .inr (2, [.int (nI iw), .int (nI ih), .ref pT, .ref pR, .ref pN, .ref pB, .double al, .double ac, .double de])), (pT, .inl (cD, (iw * ih), .inr (.inr (.inr (.inl tT))))), (pR, .inl (cD, (iw * ih), .inr (.inr (.inr (.inl tR))))), (pN, .inl (cD, (iw * ih), .inr (.inr (.inr (.inl tN))))), (pB, .inr (0, [.ref bP, .ref bF, .ref bL, .ref bH, .int (nI nb)])), (bP, .inl (cI, 12, .inl uP)), (bF, .inl (cI, 12, .inl uF)), (bL, .inl (cI, 12, .inl uL)), (bH, .inl (cD, 12, .inr (.inr (.inr (.inl uH))))), (pS, .inl (cD, (iw * ih), .inr (.inr (.inr (.inl fS)))))] H → va_D A [(aP, .inr (2, [.int (nI iw), .int (nI ih), .ref pT, .ref pR, .ref pN, .ref pB, .double al, .double ac, .double de])), (pT, .inl (cD, (iw * ih), .inr (.inr (.inr (.inl tT))))), (pR, .inl (cD, (iw * ih), .inr (.inr (.inr (.inl tR))))), (pN, .inl (cD, (iw * ih), .inr (.inr (.inr (.inl tN))))), (pB, .inr (0, [.ref bP, .ref bF, .ref bL, .ref bH, .int (nI nb)])), (bP, .inl (cI, 12, .inl uP)), (bF, .inl (cI, 12, .inl uF)), (bL, .inl (cI, 12, .inl uL)), (bH, .inl (cD, 12, .inr (.inr (.inr (.inl uH))))), (pS, .inl (cD, (iw * ih), .inr (.inr (.inr (.inl fS)))))] → va_S A s.heap H locs → lv_has ls 8 [(5, .int (nI (y * iw + x))), (4, .int (nI x)), (3, .int (nI y)), (0, .ref aP), (1, .ref pS), (2, .int (nI k))] → W p l e (headSpec wsX2_beginShape ({ frames := 1, cells := 0, slots := 0, locals := 22 } : Room)).room (s.setDrawn d0) m ([.ref aP, .ref pS, .int (nI k)] : List Value).toArray below meth c H locs 0 0 (MQD lw_cs below (va_Qv (fun u : Nat → UInt64 => zcr u (iw * ih) (zbegin iw T k)) (fun u t => (va_P (dC, dI) vwCl [(aP, .inr (2, [.int (nI iw), .int (nI ih), .ref pT, .ref pR, .ref pN, .ref pB, .double al, .double ac, .double de])), (pT, .inl (cD, (iw * ih), .inr (.inr (.inr (.inl tT))))), (pR, .inl (cD, (iw * ih), .inr (.inr (.inr (.inl tR))))), (pN, .inl (cD, (iw * ih), .inr (.inr (.inr (.inl tN))))), (pB, .inr (0, [.ref bP, .ref bF, .ref bL, .ref bH, .int (nI nb)])), (bP, .inl (cI, 12, .inl uP)), (bF, .inl (cI, 12, .inl uF)), (bL, .inl (cI, 12, .inl uL)), (bH, .inl (cD, 12, .inr (.inr (.inr (.inl uH))))), (pS, .inl (cD, (iw * ih), .inr (.inr (.inr (.inl u)))))] t.heap ∧ va_K (dC, dI) vwCl [(cD, .double), (cI, .int), (cQ, .array .double)] t ∧ va_D A [(aP, .inr (2, [.int (nI iw), .int (nI ih), .ref pT, .ref pR, .ref pN, .ref pB, .double al, .double ac, .double de])), (pT, .inl (cD, (iw * ih), .inr (.inr (.inr (.inl tT))))), (pR, .inl (cD, (iw * ih), .inr (.inr (.inr (.inl tR))))), (pN, .inl (cD, (iw * ih), .inr (.inr (.inr (.inl tN))))), (pB, .inr (0, [.ref bP, .ref bF, .ref bL, .ref bH, .int (nI nb)])), (bP, .inl (cI, 12, .inl uP)), (bF, .inl (cI, 12, .inl uF)), (bL, .inl (cI, 12, .inl uL)), (bH, .inl (cD, 12, .inr (.inr (.inr (.inl uH))))), (pS, .inl (cD, (iw * ih), .inr (.inr (.inr (.inl u)))))])) A) ([.ref aP, .ref pS, .int (nI k)] : List Value).toArray s 0 0 A) (F0 m 74 ls [.double v1, .int (nI (y * iw + x)), .ref pS]) := by
                intro v1 d0 H locs ls hv1 hd0 hP hD hS hl
                refine z_dast (s := s.setDrawn d0) (n := (iw * ih)) (i := y * iw + x) hx hb hK hP hD hS 9 0 rfl rfl (zrow (x := x) (y := y) (by omega) (by omega)) (by omega) dX2_beginShape_74 (fun H locs hP hD hS => ?_)
                have hP : va_P (dC, dI) vwCl [(aP, .inr (2, [.int (nI iw), .int (nI ih), .ref pT, .ref pR, .ref pN, .ref pB, .double al, .double ac, .double de])), (pT, .inl (cD, (iw * ih), .inr (.inr (.inr (.inl tT))))), (pR, .inl (cD, (iw * ih), .inr (.inr (.inr (.inl tR))))), (pN, .inl (cD, (iw * ih), .inr (.inr (.inr (.inl tN))))), (pB, .inr (0, [.ref bP, .ref bF, .ref bL, .ref bH, .int (nI nb)])), (bP, .inl (cI, 12, .inl uP)), (bF, .inl (cI, 12, .inl uF)), (bL, .inl (cI, 12, .inl uL)), (bH, .inl (cD, 12, .inr (.inr (.inr (.inl uH))))), (pS, .inl (cD, (iw * ih), .inr (.inr (.inr (.inl (zu fS (y * iw + x) v1))))))] H := hP
                have hD : va_D A [(aP, .inr (2, [.int (nI iw), .int (nI ih), .ref pT, .ref pR, .ref pN, .ref pB, .double al, .double ac, .double de])), (pT, .inl (cD, (iw * ih), .inr (.inr (.inr (.inl tT))))), (pR, .inl (cD, (iw * ih), .inr (.inr (.inr (.inl tR))))), (pN, .inl (cD, (iw * ih), .inr (.inr (.inr (.inl tN))))), (pB, .inr (0, [.ref bP, .ref bF, .ref bL, .ref bH, .int (nI nb)])), (bP, .inl (cI, 12, .inl uP)), (bF, .inl (cI, 12, .inl uF)), (bL, .inl (cI, 12, .inl uL)), (bH, .inl (cD, 12, .inr (.inr (.inr (.inl uH))))), (pS, .inl (cD, (iw * ih), .inr (.inr (.inr (.inl (zu fS (y * iw + x) v1))))))] := hD
                refine lv_iinc (v := nI (x + 1)) (lv' := [(4, .int (nI (x + 1))), (5, .int (nI (y * iw + x))), (3, .int (nI y)), (0, .ref aP), (1, .ref pS), (2, .int (nI k))]) hx hb dX2_beginShape_75 hl (k := 1) rfl (show nI x + nI 1 = _ from zi_add (by omega)) (by decide) rfl (fun ls hl => ?_)
                refine lv_goto (tgt := 13) hx hb dX2_beginShape_78 (by decide) ?_
                exact ih_L_13 (x + 1) (zu fS (y * iw + x) v1) _ _ _ _ (by omega) (by omega) (zcp2_put hq2 hv1) hd0 hP hD hS (lv_sub hl [0, 2, 3, 4, 5] rfl)
              refine z_if_eq_b (tgt := 73) hx hb dX2_beginShape_59 (by decide) (fun c7 => ?_) (fun c8 => ?_)
              · skip
                have cw := c7
                refine lv_dconst0 hx hb dX2_beginShape_73 ?_
                exact J_74 FP.dconst0 _ _ _ _ ((zbegin_f cw).symm) hd0 hP hD hS (lv_sub hl [1, 2, 3, 4, 5, 6] rfl)
              · skip
                have cw := c8
                refine lv_dconst1 hx hb dX2_beginShape_62 ?_
                refine lv_dload hx hb dX2_beginShape_63 (lv_at hl 0 rfl) ?_
                refine lv_ldc2d (v := 4620693217682128896) hx hb hown (dr_words hts d0 (.constantDouble RX2 96 (4620693217682128896)) (by decide +kernel)) dX2_beginShape_65 ?_
                refine zr_ddiv hd0 hx hb (a := zv (FP.i2d (nI (((7 * k + 5 * y + 3 * x) % 11))))) (b := zv 4620693217682128896) rfl rfl dX2_beginShape_68 (fun r9 d10 hr9 hd10 => ?_)
                refine zr_dadd hd10 hx hb (a := z1) (b := zQ (zv (FP.i2d (nI (((7 * k + 5 * y + 3 * x) % 11))))) (zv 4620693217682128896)) rfl hr9 dX2_beginShape_69 (fun r11 d12 hr11 hd12 => ?_)
                refine lv_goto (tgt := 74) hx hb dX2_beginShape_70 (by decide) ?_
                exact J_74 r11 _ _ _ _ ((hr11).trans ((by unfold zbeg; rw [show 3 * x + 5 * y + 7 * k = 7 * k + 5 * y + 3 * x by omega]) : _ = zbeg x y k) |>.trans (zbegin_t (by omega) cw).symm) hd12 hP hD hS (lv_sub hl [1, 2, 3, 4, 5, 6] rfl)
        exact L_13 _ 0 fS _ _ _ _ (Nat.lt_succ_self _) (by omega) hq1 hd0 hP hD hS hl
  exact L_2 _ 0 tS _ _ _ _ (Nat.lt_succ_self _) (by omega) (zcp2_n zcp2_0 (Nat.zero_mul _).symm) hd0 hP hD hS hl
theorem in_X2_relax_X2 : ∀ w ∈ wsX20, w ∈ wsX2_relax := by intro w h; unfold wsX2_relax; simp only [List.mem_cons, List.mem_append]; first | exact Or.inr (Or.inr h) | exact Or.inr (Or.inl (Or.inr h)) | exact Or.inr (Or.inl (Or.inl (Or.inr h))) | exact Or.inr (Or.inr (Or.inl h)) | exact Or.inr (Or.inr (Or.inr h))
set_option maxHeartbeats 4000000 in
set_option maxRecDepth 100000 in
/-- relax -/
theorem c2_relax (l : Launch) (dC : Nat → ClassId) (dI : Nat → Nat → Nat) (pS aP pT pR pN pB bP bF bL bH : Nat) (cD cI cQ : ClassId) (iw ih : Nat) (al ac de : UInt64) (nb : Nat) (tS tT tR tN : Nat → UInt64) (uP uF uL : Nat → Int32) (uH : Nat → UInt64) (hw6 : iw ≤ 6) (hh6 : ih ≤ 6) (T R N : Nat → ZD) (gT : zcr tT (iw * ih) T) (gR : zcr tR (iw * ih) R) (gN : zcr tN (iw * ih) N) (hH : ∀ x y, x < iw → y < ih → zholdC iw R N x y = zhold iw ih R N x y) (S : Nat → ZD) (gS : zcr tS (iw * ih) S) (sz : Nat) : MetD lw_cs l yX2_relax wsX2_relax ({ frames := 2, cells := 0, slots := 0, locals := 50 } : Room) (va_Pc [.ref aP, .ref pS] (fun U => U.heap.size = sz ∧ va_P (dC, dI) vwCl [(aP, .inr (2, [.int (nI iw), .int (nI ih), .ref pT, .ref pR, .ref pN, .ref pB, .double al, .double ac, .double de])), (pT, .inl (cD, (iw * ih), .inr (.inr (.inr (.inl tT))))), (pR, .inl (cD, (iw * ih), .inr (.inr (.inr (.inl tR))))), (pN, .inl (cD, (iw * ih), .inr (.inr (.inr (.inl tN))))), (pB, .inr (0, [.ref bP, .ref bF, .ref bL, .ref bH, .int (nI nb)])), (bP, .inl (cI, 12, .inl uP)), (bF, .inl (cI, 12, .inl uF)), (bL, .inl (cI, 12, .inl uL)), (bH, .inl (cD, 12, .inr (.inr (.inr (.inl uH))))), (pS, .inl (cD, (iw * ih), .inr (.inr (.inr (.inl tS)))))] U.heap ∧ va_K (dC, dI) vwCl [(cD, .double), (cI, .int), (cQ, .array .double)] U ∧ zNw U ∧ va_D (fun _ => True) [(aP, .inr (2, [.int (nI iw), .int (nI ih), .ref pT, .ref pR, .ref pN, .ref pB, .double al, .double ac, .double de])), (pT, .inl (cD, (iw * ih), .inr (.inr (.inr (.inl tT))))), (pR, .inl (cD, (iw * ih), .inr (.inr (.inr (.inl tR))))), (pN, .inl (cD, (iw * ih), .inr (.inr (.inr (.inl tN))))), (pB, .inr (0, [.ref bP, .ref bF, .ref bL, .ref bH, .int (nI nb)])), (bP, .inl (cI, 12, .inl uP)), (bF, .inl (cI, 12, .inl uF)), (bL, .inl (cI, 12, .inl uL)), (bH, .inl (cD, 12, .inr (.inr (.inr (.inl uH))))), (pS, .inl (cD, (iw * ih), .inr (.inr (.inr (.inl tS)))))])) (va_Qv (fun u : Nat → UInt64 => zcr u (iw * ih) (zrel iw ih T R N (iw * ih) S)) (fun u t => (va_P (dC, dI) vwCl [(aP, .inr (2, [.int (nI iw), .int (nI ih), .ref pT, .ref pR, .ref pN, .ref pB, .double al, .double ac, .double de])), (pT, .inl (cD, (iw * ih), .inr (.inr (.inr (.inl tT))))), (pR, .inl (cD, (iw * ih), .inr (.inr (.inr (.inl tR))))), (pN, .inl (cD, (iw * ih), .inr (.inr (.inr (.inl tN))))), (pB, .inr (0, [.ref bP, .ref bF, .ref bL, .ref bH, .int (nI nb)])), (bP, .inl (cI, 12, .inl uP)), (bF, .inl (cI, 12, .inl uF)), (bL, .inl (cI, 12, .inl uL)), (bH, .inl (cD, 12, .inr (.inr (.inr (.inl uH))))), (pS, .inl (cD, (iw * ih), .inr (.inr (.inr (.inl u)))))] t.heap ∧ va_K (dC, dI) vwCl [(cD, .double), (cI, .int), (cQ, .array .double)] t ∧ va_D (va_A [(aP, .inr (2, [.int (nI iw), .int (nI ih), .ref pT, .ref pR, .ref pN, .ref pB, .double al, .double ac, .double de])), (pT, .inl (cD, (iw * ih), .inr (.inr (.inr (.inl tT))))), (pR, .inl (cD, (iw * ih), .inr (.inr (.inr (.inl tR))))), (pN, .inl (cD, (iw * ih), .inr (.inr (.inr (.inl tN))))), (pB, .inr (0, [.ref bP, .ref bF, .ref bL, .ref bH, .int (nI nb)])), (bP, .inl (cI, 12, .inl uP)), (bF, .inl (cI, 12, .inl uF)), (bL, .inl (cI, 12, .inl uL)), (bH, .inl (cD, 12, .inr (.inr (.inr (.inl uH))))), (pS, .inl (cD, (iw * ih), .inr (.inr (.inr (.inl tS)))))] sz) [(aP, .inr (2, [.int (nI iw), .int (nI ih), .ref pT, .ref pR, .ref pN, .ref pB, .double al, .double ac, .double de])), (pT, .inl (cD, (iw * ih), .inr (.inr (.inr (.inl tT))))), (pR, .inl (cD, (iw * ih), .inr (.inr (.inr (.inl tR))))), (pN, .inl (cD, (iw * ih), .inr (.inr (.inr (.inl tN))))), (pB, .inr (0, [.ref bP, .ref bF, .ref bL, .ref bH, .int (nI nb)])), (bP, .inl (cI, 12, .inl uP)), (bF, .inl (cI, 12, .inl uF)), (bL, .inl (cI, 12, .inl uL)), (bH, .inl (cD, 12, .inr (.inr (.inr (.inl uH))))), (pS, .inl (cD, (iw * ih), .inr (.inr (.inr (.inl u)))))])) (va_A [(aP, .inr (2, [.int (nI iw), .int (nI ih), .ref pT, .ref pR, .ref pN, .ref pB, .double al, .double ac, .double de])), (pT, .inl (cD, (iw * ih), .inr (.inr (.inr (.inl tT))))), (pR, .inl (cD, (iw * ih), .inr (.inr (.inr (.inl tR))))), (pN, .inl (cD, (iw * ih), .inr (.inr (.inr (.inl tN))))), (pB, .inr (0, [.ref bP, .ref bF, .ref bL, .ref bH, .int (nI nb)])), (bP, .inl (cI, 12, .inl uP)), (bF, .inl (cI, 12, .inl uF)), (bL, .inl (cI, 12, .inl uL)), (bH, .inl (cD, 12, .inr (.inr (.inr (.inl uH))))), (pS, .inl (cD, (iw * ih), .inr (.inr (.inr (.inl tS)))))] sz)) 0 0 (va_A [(aP, .inr (2, [.int (nI iw), .int (nI ih), .ref pT, .ref pR, .ref pN, .ref pB, .double al, .double ac, .double de])), (pT, .inl (cD, (iw * ih), .inr (.inr (.inr (.inl tT))))), (pR, .inl (cD, (iw * ih), .inr (.inr (.inr (.inl tR))))), (pN, .inl (cD, (iw * ih), .inr (.inr (.inr (.inl tN))))), (pB, .inr (0, [.ref bP, .ref bF, .ref bL, .ref bH, .int (nI nb)])), (bP, .inl (cI, 12, .inl uP)), (bF, .inl (cI, 12, .inl uF)), (bL, .inl (cI, 12, .inl uL)), (bH, .inl (cD, 12, .inr (.inr (.inr (.inl uH))))), (pS, .inl (cD, (iw * ih), .inr (.inr (.inr (.inl tS)))))] sz) := by
  refine MetD.ofW (cc := cX2_relax) (maxL := 5) (ret := none) (by decide) rfl ?_
  intro p e s m args below meth c s₁ B hml hv hd0
  obtain ⟨rfl, hsz, hP, hK, hN, hD0⟩ := hv
  have hx := B.exec
  have hb := B.bytes
  have hr := B.returns
  have hts := atoms_spec (ws := wsX2_relax) B.pre
  have hown : s.vm.findClass RX2 = some m.cls := findClass_of_methodNamed B.named
  have hlocks := B.notSynchronized
  subst hsz
  have hD := hD0.self (sz := s.heap.size)
  generalize hAe : va_A [(aP, .inr (2, [.int (nI iw), .int (nI ih), .ref pT, .ref pR, .ref pN, .ref pB, .double al, .double ac, .double de])), (pT, .inl (cD, (iw * ih), .inr (.inr (.inr (.inl tT))))), (pR, .inl (cD, (iw * ih), .inr (.inr (.inr (.inl tR))))), (pN, .inl (cD, (iw * ih), .inr (.inr (.inr (.inl tN))))), (pB, .inr (0, [.ref bP, .ref bF, .ref bL, .ref bH, .int (nI nb)])), (bP, .inl (cI, 12, .inl uP)), (bF, .inl (cI, 12, .inl uF)), (bL, .inl (cI, 12, .inl uL)), (bH, .inl (cD, 12, .inr (.inr (.inr (.inl uH))))), (pS, .inl (cD, (iw * ih), .inr (.inr (.inr (.inl tS)))))] s.heap.size = A at hD ⊢
  have hA : ∀ q : Nat, s.heap.size ≤ q → A q := fun q h => by rw [← hAe]; exact Or.inr h
  have hS : va_S A s.heap s.heap [] := va_S.rf
  have hl := lv_entry ([.ref aP, .ref pS]) (n := 5) (Nat.le_of_ble_eq_true rfl)
  rw [lg_entry_eq]
  generalize (lg_sl ([.ref aP, .ref pS]) ++ List.replicate (5 - (lg_sl ([.ref aP, .ref pS])).length) Slot.unset).toArray = ls at hl ⊢
  have hl : lv_has ls 5 [(0, .ref aP), (1, .ref pS)] := hl
  have hn36 : iw * ih ≤ 36 := Nat.mul_le_mul hw6 hh6
  refine lv_iconst (v := (nI 0)) hx hb dX2_relax_0 (by decide) ?_
  refine lv_istore_n (lv' := [(2, .int (nI 0)), (0, .ref aP), (1, .ref pS)]) hx hb dX2_relax_1 rfl hl (by decide) rfl (fun ls hl => ?_)
  have L_2 : ∀ (n : Nat) (y : Nat) (fS : Nat → UInt64) (d0 : Drawn) (H : Heap) (locs : List Loc) (ls : Array Slot), ih - y < n → (y ≤ ih) → (zcr fS (iw * ih) (zrel iw ih T R N (y * iw) S)) → s.drawn.sameBut d0 lw_cs → va_P (dC, dI) vwCl [(aP, .inr (2, [.int (nI iw), .int (nI ih), .ref pT, .ref pR, .ref pN, .ref pB, .double al, .double ac, .double de])), (pT, .inl (cD, (iw * ih), .inr (.inr (.inr (.inl tT))))), (pR, .inl (cD, (iw * ih), .inr (.inr (.inr (.inl tR))))), (pN, .inl (cD, (iw * ih), .inr (.inr (.inr (.inl tN))))), (pB, .inr (0, [.ref bP, .ref bF, .ref bL, .ref bH, .int (nI nb)])), (bP, .inl (cI, 12, .inl uP)), (bF, .inl (cI, 12, .inl uF)), (bL, .inl (cI, 12, .inl uL)), (bH, .inl (cD, 12, .inr (.inr (.inr (.inl uH))))), (pS, .inl (cD, (iw * ih), .inr (.inr (.inr (.inl fS)))))] H → va_D A [(aP, .inr (2, [.int (nI iw), .int (nI ih), .ref pT, .ref pR, .ref pN, .ref pB, .double al, .double ac, .double de])), (pT, .inl (cD, (iw * ih), .inr (.inr (.inr (.inl tT))))), (pR, .inl (cD, (iw * ih), .inr (.inr (.inr (.inl tR))))), (pN, .inl (cD, (iw * ih), .inr (.inr (.inr (.inl tN))))), (pB, .inr (0, [.ref bP, .ref bF, .ref bL, .ref bH, .int (nI nb)])), (bP, .inl (cI, 12, .inl uP)), (bF, .inl (cI, 12, .inl uF)), (bL, .inl (cI, 12, .inl uL)), (bH, .inl (cD, 12, .inr (.inr (.inr (.inl uH))))), (pS, .inl (cD, (iw * ih), .inr (.inr (.inr (.inl fS)))))] → va_S A s.heap H locs → lv_has ls 5 [(2, .int (nI y)), (0, .ref aP), (1, .ref pS)] → W p l e (headSpec wsX2_relax ({ frames := 2, cells := 0, slots := 0, locals := 50 } : Room)).room (s.setDrawn d0) m ([.ref aP, .ref pS] : List Value).toArray below meth c H locs 0 0 (MQD lw_cs below (va_Qv (fun u : Nat → UInt64 => zcr u (iw * ih) (zrel iw ih T R N (iw * ih) S)) (fun u t => (va_P (dC, dI) vwCl [(aP, .inr (2, [.int (nI iw), .int (nI ih), .ref pT, .ref pR, .ref pN, .ref pB, .double al, .double ac, .double de])), (pT, .inl (cD, (iw * ih), .inr (.inr (.inr (.inl tT))))), (pR, .inl (cD, (iw * ih), .inr (.inr (.inr (.inl tR))))), (pN, .inl (cD, (iw * ih), .inr (.inr (.inr (.inl tN))))), (pB, .inr (0, [.ref bP, .ref bF, .ref bL, .ref bH, .int (nI nb)])), (bP, .inl (cI, 12, .inl uP)), (bF, .inl (cI, 12, .inl uF)), (bL, .inl (cI, 12, .inl uL)), (bH, .inl (cD, 12, .inr (.inr (.inr (.inl uH))))), (pS, .inl (cD, (iw * ih), .inr (.inr (.inr (.inl u)))))] t.heap ∧ va_K (dC, dI) vwCl [(cD, .double), (cI, .int), (cQ, .array .double)] t ∧ va_D A [(aP, .inr (2, [.int (nI iw), .int (nI ih), .ref pT, .ref pR, .ref pN, .ref pB, .double al, .double ac, .double de])), (pT, .inl (cD, (iw * ih), .inr (.inr (.inr (.inl tT))))), (pR, .inl (cD, (iw * ih), .inr (.inr (.inr (.inl tR))))), (pN, .inl (cD, (iw * ih), .inr (.inr (.inr (.inl tN))))), (pB, .inr (0, [.ref bP, .ref bF, .ref bL, .ref bH, .int (nI nb)])), (bP, .inl (cI, 12, .inl uP)), (bF, .inl (cI, 12, .inl uF)), (bL, .inl (cI, 12, .inl uL)), (bH, .inl (cD, 12, .inr (.inr (.inr (.inl uH))))), (pS, .inl (cD, (iw * ih), .inr (.inr (.inr (.inl u)))))])) A) ([.ref aP, .ref pS] : List Value).toArray s 0 0 A) (F0 m 2 ls []) := by
    intro n
    induction n with
    | zero => intro y fS d0 H locs ls hn; exact absurd hn (Nat.not_lt_zero _)
    | succ n ih_L_2 =>
      intro y fS d0 H locs ls hn hyh hq1 hd0 hP hD hS hl
      refine lv_iload_n hx hb dX2_relax_2 rfl (lv_at hl 0 rfl) ?_
      refine lv_aload_n hx hb dX2_relax_3 rfl (lv_at hl 1 rfl) ?_
      refine va_get (D := (dC, dI)) (ci := 2) (v := .int (nI ih)) (C := RX2) (T := TX2) (N := 9) hx hb (dr_words hts d0) (in_X2_relax_X2) hown hK hP 0 rfl rfl 1 (by decide) (dr_words hts d0 (.fieldLink RX2 15 "PlateModes$Plate" "height" "I") (by decide +kernel)) (fun _ h9 => h9) rfl dX2_relax_4 ?_
      refine z_icmp_ge (a := y) (b := ih) (tgt := 76) hx hb (by omega) (by omega) dX2_relax_7 (by decide) (fun c1 => ?_) (fun c2 => ?_)
      · skip
        refine W.endD hd0 ?_
        exact W.vret hx hb hr (fun t ht hW => ⟨⟨fS, rfl, (zcr_c (congrArg (fun z => zrel iw ih T R N z S) (show y * iw = iw * ih from by rw [show y = ih by omega, Nat.mul_comm])) hq1), by rw [ht]; exact hP, va_K.moved hW.alike hK, hD⟩, hS.F ht⟩) hS.2.2 dX2_relax_76
      · skip
        refine lv_iconst (v := (nI 0)) hx hb dX2_relax_10 (by decide) ?_
        refine lv_istore_n (lv' := [(3, .int (nI 0)), (2, .int (nI y)), (0, .ref aP), (1, .ref pS)]) hx hb dX2_relax_11 rfl hl (by decide) rfl (fun ls hl => ?_)
        have L_12 : ∀ (n : Nat) (x : Nat) (fS : Nat → UInt64) (d0 : Drawn) (H : Heap) (locs : List Loc) (ls : Array Slot), iw - x < n → (x ≤ iw) → (zcr fS (iw * ih) (zrel iw ih T R N (y * iw + x) S)) → s.drawn.sameBut d0 lw_cs → va_P (dC, dI) vwCl [(aP, .inr (2, [.int (nI iw), .int (nI ih), .ref pT, .ref pR, .ref pN, .ref pB, .double al, .double ac, .double de])), (pT, .inl (cD, (iw * ih), .inr (.inr (.inr (.inl tT))))), (pR, .inl (cD, (iw * ih), .inr (.inr (.inr (.inl tR))))), (pN, .inl (cD, (iw * ih), .inr (.inr (.inr (.inl tN))))), (pB, .inr (0, [.ref bP, .ref bF, .ref bL, .ref bH, .int (nI nb)])), (bP, .inl (cI, 12, .inl uP)), (bF, .inl (cI, 12, .inl uF)), (bL, .inl (cI, 12, .inl uL)), (bH, .inl (cD, 12, .inr (.inr (.inr (.inl uH))))), (pS, .inl (cD, (iw * ih), .inr (.inr (.inr (.inl fS)))))] H → va_D A [(aP, .inr (2, [.int (nI iw), .int (nI ih), .ref pT, .ref pR, .ref pN, .ref pB, .double al, .double ac, .double de])), (pT, .inl (cD, (iw * ih), .inr (.inr (.inr (.inl tT))))), (pR, .inl (cD, (iw * ih), .inr (.inr (.inr (.inl tR))))), (pN, .inl (cD, (iw * ih), .inr (.inr (.inr (.inl tN))))), (pB, .inr (0, [.ref bP, .ref bF, .ref bL, .ref bH, .int (nI nb)])), (bP, .inl (cI, 12, .inl uP)), (bF, .inl (cI, 12, .inl uF)), (bL, .inl (cI, 12, .inl uL)), (bH, .inl (cD, 12, .inr (.inr (.inr (.inl uH))))), (pS, .inl (cD, (iw * ih), .inr (.inr (.inr (.inl fS)))))] → va_S A s.heap H locs → lv_has ls 5 [(3, .int (nI x)), (2, .int (nI y)), (0, .ref aP), (1, .ref pS)] → W p l e (headSpec wsX2_relax ({ frames := 2, cells := 0, slots := 0, locals := 50 } : Room)).room (s.setDrawn d0) m ([.ref aP, .ref pS] : List Value).toArray below meth c H locs 0 0 (MQD lw_cs below (va_Qv (fun u : Nat → UInt64 => zcr u (iw * ih) (zrel iw ih T R N (iw * ih) S)) (fun u t => (va_P (dC, dI) vwCl [(aP, .inr (2, [.int (nI iw), .int (nI ih), .ref pT, .ref pR, .ref pN, .ref pB, .double al, .double ac, .double de])), (pT, .inl (cD, (iw * ih), .inr (.inr (.inr (.inl tT))))), (pR, .inl (cD, (iw * ih), .inr (.inr (.inr (.inl tR))))), (pN, .inl (cD, (iw * ih), .inr (.inr (.inr (.inl tN))))), (pB, .inr (0, [.ref bP, .ref bF, .ref bL, .ref bH, .int (nI nb)])), (bP, .inl (cI, 12, .inl uP)), (bF, .inl (cI, 12, .inl uF)), (bL, .inl (cI, 12, .inl uL)), (bH, .inl (cD, 12, .inr (.inr (.inr (.inl uH))))), (pS, .inl (cD, (iw * ih), .inr (.inr (.inr (.inl u)))))] t.heap ∧ va_K (dC, dI) vwCl [(cD, .double), (cI, .int), (cQ, .array .double)] t ∧ va_D A [(aP, .inr (2, [.int (nI iw), .int (nI ih), .ref pT, .ref pR, .ref pN, .ref pB, .double al, .double ac, .double de])), (pT, .inl (cD, (iw * ih), .inr (.inr (.inr (.inl tT))))), (pR, .inl (cD, (iw * ih), .inr (.inr (.inr (.inl tR))))), (pN, .inl (cD, (iw * ih), .inr (.inr (.inr (.inl tN))))), (pB, .inr (0, [.ref bP, .ref bF, .ref bL, .ref bH, .int (nI nb)])), (bP, .inl (cI, 12, .inl uP)), (bF, .inl (cI, 12, .inl uF)), (bL, .inl (cI, 12, .inl uL)), (bH, .inl (cD, 12, .inr (.inr (.inr (.inl uH))))), (pS, .inl (cD, (iw * ih), .inr (.inr (.inr (.inl u)))))])) A) ([.ref aP, .ref pS] : List Value).toArray s 0 0 A) (F0 m 12 ls []) := by
          intro n
          induction n with
          | zero => intro x fS d0 H locs ls hn; exact absurd hn (Nat.not_lt_zero _)
          | succ n ih_L_12 =>
            intro x fS d0 H locs ls hn hxw hq2 hd0 hP hD hS hl
            refine lv_iload_n hx hb dX2_relax_12 rfl (lv_at hl 0 rfl) ?_
            refine lv_aload_n hx hb dX2_relax_13 rfl (lv_at hl 2 rfl) ?_
            refine va_get (D := (dC, dI)) (ci := 2) (v := .int (nI iw)) (C := RX2) (T := TX2) (N := 9) hx hb (dr_words hts d0) (in_X2_relax_X2) hown hK hP 0 rfl rfl 0 (by decide) (dr_words hts d0 (.fieldLink RX2 9 "PlateModes$Plate" "width" "I") (by decide +kernel)) (fun _ h9 => h9) rfl dX2_relax_14 ?_
            refine z_icmp_ge (a := x) (b := iw) (tgt := 70) hx hb (by omega) (by omega) dX2_relax_17 (by decide) (fun c3 => ?_) (fun c4 => ?_)
            · skip
              refine lv_iinc (v := nI (y + 1)) (lv' := [(2, .int (nI (y + 1))), (3, .int (nI x)), (0, .ref aP), (1, .ref pS)]) hx hb dX2_relax_70 hl (k := 1) rfl (show nI y + nI 1 = _ from zi_add (by omega)) (by decide) rfl (fun ls hl => ?_)
              refine lv_goto (tgt := 2) hx hb dX2_relax_73 (by decide) ?_
              exact ih_L_2 (y + 1) fS _ _ _ _ (by omega) (by omega) (zcr_c (congrArg (fun z => zrel iw ih T R N z S) (show y * iw + x = (y + 1) * iw from by rw [← zrow_end]; omega)) hq2) hd0 hP hD hS (lv_sub hl [0, 2, 3] rfl)
            · skip
              refine lv_aload_n hx hb dX2_relax_20 rfl (lv_at hl 2 rfl) ?_
              refine lv_iload_n hx hb dX2_relax_21 rfl (lv_at hl 0 rfl) ?_
              refine lv_iload_n hx hb dX2_relax_22 rfl (lv_at hl 1 rfl) ?_
              have hPc := hP.sub (ws' := [(aP, .inr (2, [.int (nI iw), .int (nI ih), .ref pT, .ref pR, .ref pN, .ref pB, .double al, .double ac, .double de])), (pT, .inl (cD, (iw * ih), .inr (.inr (.inr (.inl tT))))), (pR, .inl (cD, (iw * ih), .inr (.inr (.inr (.inl tR))))), (pN, .inl (cD, (iw * ih), .inr (.inr (.inr (.inl tN))))), (pB, .inr (0, [.ref bP, .ref bF, .ref bL, .ref bH, .int (nI nb)])), (bP, .inl (cI, 12, .inl uP)), (bF, .inl (cI, 12, .inl uF)), (bL, .inl (cI, 12, .inl uL)), (bH, .inl (cD, 12, .inr (.inr (.inr (.inl uH)))))]) [0, 1, 2, 3, 4, 5, 6, 7, 8] rfl
              refine va_calli (va_runV (As := [.int (nI x), .int (nI y)]) (rest := []) ⟨hx, hb, hml, hown, (dr_words hts d0)⟩ (c2_cellAt l dC dI aP pT pR pN pB bP bF bL bH cD cI cQ iw ih al ac de nb tT tR tN uP uF uL uH x y) (cwV 2 (dr_words hts d0) gX2_relax_X2_cellAt rfl rfl rfl (by decide +kernel) ⟨Nat.le_of_ble_eq_true rfl, Nat.le_of_ble_eq_true rfl⟩) ⟨zfb, va_recv hK hP (ci := 2) (q0 := 0) rfl rfl, zpre hPc hK⟩ rfl rfl hl.1 rfl (lv_room (Nat.le_of_ble_eq_true rfl)) dX2_relax_23 ⟨Nat.le_of_ble_eq_true rfl, Nat.le_of_ble_eq_true rfl⟩) hS (fun q _ h => h.elim) (fun q h => h.elim) (fun r5 u9 t9 H locs ht9 hvm9 hr5 hB9 hz9 hk1 hS => ?_)
              have hP := zro1 hP hk1
              subst hr5
              refine lv_istore (lv' := [(4, .int (nI (y * iw + x))), (3, .int (nI x)), (2, .int (nI y)), (0, .ref aP), (1, .ref pS)]) hx hb dX2_relax_26 hl (by decide) rfl (fun ls hl => ?_)
              refine lv_aload_n hx hb dX2_relax_28 rfl (lv_at hl 3 rfl) ?_
              refine lv_iload hx hb dX2_relax_29 (lv_at hl 0 rfl) ?_
              have hPc := hP.sub (ws' := [(aP, .inr (2, [.int (nI iw), .int (nI ih), .ref pT, .ref pR, .ref pN, .ref pB, .double al, .double ac, .double de])), (pT, .inl (cD, (iw * ih), .inr (.inr (.inr (.inl tT))))), (pR, .inl (cD, (iw * ih), .inr (.inr (.inr (.inl tR))))), (pN, .inl (cD, (iw * ih), .inr (.inr (.inr (.inl tN))))), (pB, .inr (0, [.ref bP, .ref bF, .ref bL, .ref bH, .int (nI nb)])), (bP, .inl (cI, 12, .inl uP)), (bF, .inl (cI, 12, .inl uF)), (bL, .inl (cI, 12, .inl uL)), (bH, .inl (cD, 12, .inr (.inr (.inr (.inl uH)))))]) [0, 1, 2, 3, 4, 5, 6, 7, 8] rfl
              refine va_calli (va_runV (As := [.int (nI (y * iw + x))]) (rest := []) ⟨hx, hb, hml, hown, (dr_words hts d0)⟩ (c2_hasWood l dC dI aP pT pR pN pB bP bF bL bH cD cI cQ iw ih al ac de nb tT tR tN uP uF uL uH hw6 hh6 (y * iw + x) (zrow (x := x) (y := y) (by omega) (by omega))) (cwV 1 (dr_words hts d0) gX2_relax_X2_hasWood rfl rfl rfl (by decide +kernel) ⟨Nat.le_of_ble_eq_true rfl, Nat.le_of_ble_eq_true rfl⟩) ⟨zfb, va_recv hK hP (ci := 2) (q0 := 0) rfl rfl, zpre hPc hK⟩ rfl rfl hl.1 rfl (lv_room (Nat.le_of_ble_eq_true rfl)) dX2_relax_31 ⟨Nat.le_of_ble_eq_true rfl, Nat.le_of_ble_eq_true rfl⟩) hS (fun q _ h => h.elim) (fun q h => h.elim) (fun r6 u9 t9 H locs ht9 hvm9 hr6 hB9 hz9 hk1 hS => ?_)
              have hP := zro1 hP hk1
              have hr6 : r6 = zb (zgt (T (y * iw + x)) z0) := by rw [hr6, show zv (tT (y * iw + x)) = T (y * iw + x) from gT _ (zrow (x := x) (y := y) (by omega) (by omega))]
              subst hr6
              refine z_if_eq_b (tgt := 64) hx hb dX2_relax_34 (by decide) (fun c7 => ?_) (fun c8 => ?_)
              · skip
                have cw := c7
                refine lv_iinc (v := nI (x + 1)) (lv' := [(3, .int (nI (x + 1))), (4, .int (nI (y * iw + x))), (2, .int (nI y)), (0, .ref aP), (1, .ref pS)]) hx hb dX2_relax_64 hl (k := 1) rfl (show nI x + nI 1 = _ from zi_add (by omega)) (by decide) rfl (fun ls hl => ?_)
                refine lv_goto (tgt := 12) hx hb dX2_relax_67 (by decide) ?_
                exact ih_L_12 (x + 1) fS _ _ _ _ (by omega) (by omega) (zcr_c (zrel_f cw).symm hq2) hd0 hP hD hS (lv_sub hl [0, 2, 3, 4] rfl)
              · skip
                have cw := c8
                refine lv_aload_n hx hb dX2_relax_37 rfl (lv_at hl 4 rfl) ?_
                refine lv_iload hx hb dX2_relax_38 (lv_at hl 0 rfl) ?_
                refine lv_aload_n hx hb dX2_relax_40 rfl (lv_at hl 4 rfl) ?_
                refine lv_iload hx hb dX2_relax_41 (lv_at hl 0 rfl) ?_
                refine z_dald (s := s.setDrawn d0) (n := (iw * ih)) (i := y * iw + x) hx hb hK hP 9 0 rfl rfl (zrow (x := x) (y := y) (by omega) (by omega)) (by omega) dX2_relax_43 ?_
                refine lv_ldc2d (v := 4602678819172646912) hx hb hown (dr_words hts d0 (.constantDouble RX2 98 (4602678819172646912)) (by decide +kernel)) dX2_relax_44 ?_
                refine lv_aload_n hx hb dX2_relax_47 rfl (lv_at hl 3 rfl) ?_
                refine lv_aload_n hx hb dX2_relax_48 rfl (lv_at hl 4 rfl) ?_
                refine lv_iload_n hx hb dX2_relax_49 rfl (lv_at hl 1 rfl) ?_
                refine lv_iload_n hx hb dX2_relax_50 rfl (lv_at hl 2 rfl) ?_
                have hPc := hP
                refine va_calldD hd0 (va_runV_D (As := [.ref pS, .int (nI x), .int (nI y)]) (rest := [.double 4602678819172646912, .double (fS (y * iw + x)), .int (nI (y * iw + x)), .ref pS]) ⟨hx, hb, hml, hown, (dr_words hts d0)⟩ (c2_forceAt l dC dI pS aP pT pR pN pB bP bF bL bH cD cI cQ iw ih al ac de nb fS tT tR tN uP uF uL uH hw6 hh6 T R N gT gR gN (zrel iw ih T R N (y * iw + x) S) hq2 x y (by omega) (by omega)) (cwV 3 (dr_words hts d0) gX2_relax_X2_forceAt rfl rfl rfl (by decide +kernel) ⟨Nat.le_of_ble_eq_true rfl, Nat.le_of_ble_eq_true rfl⟩) ⟨zfbN, va_recv hK hP (ci := 2) (q0 := 0) rfl rfl, zpreN hPc hK (by first | exact hN | exact hN.sd)⟩ rfl rfl hl.1 rfl (lv_room (Nat.le_of_ble_eq_true rfl)) dX2_relax_51 ⟨Nat.le_of_ble_eq_true rfl, Nat.le_of_ble_eq_true rfl⟩) hS (fun q _ h => h.elim) (fun q h => h.elim) (fun r9 u9 t9 H locs ht9 hvm9 hr9 hB9 hz9 hk1 hS dhd10 hd10 => ?_)
                have hP := zro1 hP hk1
                refine zr_dmul hd10 hx hb (a := zv 4602678819172646912) (b := zforce iw ih R N (zrel iw ih T R N (y * iw + x) S) x y) rfl hr9 dX2_relax_54 (fun r11 d12 hr11 hd12 => ?_)
                refine lv_aload_n hx hb dX2_relax_55 rfl (lv_at hl 3 rfl) ?_
                refine lv_iload_n hx hb dX2_relax_56 rfl (lv_at hl 1 rfl) ?_
                refine lv_iload_n hx hb dX2_relax_57 rfl (lv_at hl 2 rfl) ?_
                have hPc := hP.sub (ws' := [(aP, .inr (2, [.int (nI iw), .int (nI ih), .ref pT, .ref pR, .ref pN, .ref pB, .double al, .double ac, .double de])), (pT, .inl (cD, (iw * ih), .inr (.inr (.inr (.inl tT))))), (pR, .inl (cD, (iw * ih), .inr (.inr (.inr (.inl tR))))), (pN, .inl (cD, (iw * ih), .inr (.inr (.inr (.inl tN))))), (pB, .inr (0, [.ref bP, .ref bF, .ref bL, .ref bH, .int (nI nb)])), (bP, .inl (cI, 12, .inl uP)), (bF, .inl (cI, 12, .inl uF)), (bL, .inl (cI, 12, .inl uL)), (bH, .inl (cD, 12, .inr (.inr (.inr (.inl uH)))))]) [0, 1, 2, 3, 4, 5, 6, 7, 8] rfl
                refine va_calldD hd12 (va_runV_D (As := [.int (nI x), .int (nI y)]) (rest := [.double r11, .double (fS (y * iw + x)), .int (nI (y * iw + x)), .ref pS]) ⟨hx, hb, hml, hown, (dr_words hts d12)⟩ (c2_heldAt l dC dI aP pT pR pN pB bP bF bL bH cD cI cQ iw ih al ac de nb tT tR tN uP uF uL uH hw6 hh6 T R N gT gR gN x y (by omega) (by omega)) (cwV 2 (dr_words hts d12) gX2_relax_X2_heldAt rfl rfl rfl (by decide +kernel) ⟨Nat.le_of_ble_eq_true rfl, Nat.le_of_ble_eq_true rfl⟩) ⟨zfbN, va_recv hK hP (ci := 2) (q0 := 0) rfl rfl, zpreN hPc hK (by first | exact hN | exact hN.sd)⟩ rfl rfl hl.1 rfl (lv_room (Nat.le_of_ble_eq_true rfl)) dX2_relax_58 ⟨Nat.le_of_ble_eq_true rfl, Nat.le_of_ble_eq_true rfl⟩) hS (fun q _ h => h.elim) (fun q h => h.elim) (fun r13 u9 t9 H locs ht9 hvm9 hr13 hB9 hz9 hk1 hS dhd14 hd14 => ?_)
                have hP := zro1 hP hk1
                have hr13 : zv r13 = zhold iw ih R N x y := hr13.trans (hH _ _ (by omega) (by omega))
                refine zr_ddiv hd14 hx hb (a := zM (zv 4602678819172646912) (zforce iw ih R N (zrel iw ih T R N (y * iw + x) S) x y)) (b := zhold iw ih R N x y) hr11 hr13 dX2_relax_61 (fun r15 d16 hr15 hd16 => ?_)
                refine zr_dadd hd16 hx hb (a := (zrel iw ih T R N (y * iw + x) S) (y * iw + x)) (b := zQ (zM (zv 4602678819172646912) (zforce iw ih R N (zrel iw ih T R N (y * iw + x) S) x y)) (zhold iw ih R N x y)) (hq2 _ (zrow (x := x) (y := y) (by omega) (by omega))) hr15 dX2_relax_62 (fun r17 d18 hr17 hd18 => ?_)
                refine z_dast (s := s.setDrawn d18) (n := (iw * ih)) (i := y * iw + x) hx hb hK hP hD hS 9 0 rfl rfl (zrow (x := x) (y := y) (by omega) (by omega)) (by omega) dX2_relax_63 (fun H locs hP hD hS => ?_)
                have hP : va_P (dC, dI) vwCl [(aP, .inr (2, [.int (nI iw), .int (nI ih), .ref pT, .ref pR, .ref pN, .ref pB, .double al, .double ac, .double de])), (pT, .inl (cD, (iw * ih), .inr (.inr (.inr (.inl tT))))), (pR, .inl (cD, (iw * ih), .inr (.inr (.inr (.inl tR))))), (pN, .inl (cD, (iw * ih), .inr (.inr (.inr (.inl tN))))), (pB, .inr (0, [.ref bP, .ref bF, .ref bL, .ref bH, .int (nI nb)])), (bP, .inl (cI, 12, .inl uP)), (bF, .inl (cI, 12, .inl uF)), (bL, .inl (cI, 12, .inl uL)), (bH, .inl (cD, 12, .inr (.inr (.inr (.inl uH))))), (pS, .inl (cD, (iw * ih), .inr (.inr (.inr (.inl (zu fS (y * iw + x) r17))))))] H := hP
                have hD : va_D A [(aP, .inr (2, [.int (nI iw), .int (nI ih), .ref pT, .ref pR, .ref pN, .ref pB, .double al, .double ac, .double de])), (pT, .inl (cD, (iw * ih), .inr (.inr (.inr (.inl tT))))), (pR, .inl (cD, (iw * ih), .inr (.inr (.inr (.inl tR))))), (pN, .inl (cD, (iw * ih), .inr (.inr (.inr (.inl tN))))), (pB, .inr (0, [.ref bP, .ref bF, .ref bL, .ref bH, .int (nI nb)])), (bP, .inl (cI, 12, .inl uP)), (bF, .inl (cI, 12, .inl uF)), (bL, .inl (cI, 12, .inl uL)), (bH, .inl (cD, 12, .inr (.inr (.inr (.inl uH))))), (pS, .inl (cD, (iw * ih), .inr (.inr (.inr (.inl (zu fS (y * iw + x) r17))))))] := hD
                refine lv_iinc (v := nI (x + 1)) (lv' := [(3, .int (nI (x + 1))), (4, .int (nI (y * iw + x))), (2, .int (nI y)), (0, .ref aP), (1, .ref pS)]) hx hb dX2_relax_64 hl (k := 1) rfl (show nI x + nI 1 = _ from zi_add (by omega)) (by decide) rfl (fun ls hl => ?_)
                refine lv_goto (tgt := 12) hx hb dX2_relax_67 (by decide) ?_
                exact ih_L_12 (x + 1) (zu fS (y * iw + x) r17) _ _ _ _ (by omega) (by omega) (zcr_c (zrel_t (by omega) cw).symm (zcr_put hq2 hr17)) hd18 hP hD hS (lv_sub hl [0, 2, 3, 4] rfl)
        exact L_12 _ 0 fS _ _ _ _ (Nat.lt_succ_self _) (by omega) hq1 hd0 hP hD hS hl
  exact L_2 _ 0 tS _ _ _ _ (Nat.lt_succ_self _) (by omega) (zcr_c (show S = (zrel iw ih T R N (0 * iw) S) from by rw [Nat.zero_mul]; rfl) gS) hd0 hP hD hS hl
theorem in_X2_productOver_X2 : ∀ w ∈ wsX20, w ∈ wsX2_productOver := by intro w h; unfold wsX2_productOver; simp only [List.mem_cons, List.mem_append]; first | exact Or.inr (Or.inr h) | exact Or.inr (Or.inl (Or.inr h)) | exact Or.inr (Or.inl (Or.inl (Or.inr h))) | exact Or.inr (Or.inr (Or.inl h)) | exact Or.inr (Or.inr (Or.inr h))
set_option maxHeartbeats 4000000 in
set_option maxRecDepth 100000 in
/-- productOver -/
theorem c2_productOver (l : Launch) (dC : Nat → ClassId) (dI : Nat → Nat → Nat) (p1 p2 aP pT pR pN pB bP bF bL bH : Nat) (cD cI cQ : ClassId) (iw ih : Nat) (al ac de : UInt64) (nb : Nat) (t1 t2 tT tR tN : Nat → UInt64) (uP uF uL : Nat → Int32) (uH : Nat → UInt64) (hw6 : iw ≤ 6) (hh6 : ih ≤ 6) (T : Nat → ZD) (gT : zcr tT (iw * ih) T) (S1 S2 : Nat → ZD) (g1 : zcr t1 (iw * ih) S1) (g2 : zcr t2 (iw * ih) S2) : MetD lw_cs l yX2_productOver wsX2_productOver ({ frames := 1, cells := 0, slots := 0, locals := 21 } : Room) (va_Pc [.ref aP, .ref p1, .ref p2] (fun U => va_P (dC, dI) vwCl [(aP, .inr (2, [.int (nI iw), .int (nI ih), .ref pT, .ref pR, .ref pN, .ref pB, .double al, .double ac, .double de])), (pT, .inl (cD, (iw * ih), .inr (.inr (.inr (.inl tT))))), (pR, .inl (cD, (iw * ih), .inr (.inr (.inr (.inl tR))))), (pN, .inl (cD, (iw * ih), .inr (.inr (.inr (.inl tN))))), (pB, .inr (0, [.ref bP, .ref bF, .ref bL, .ref bH, .int (nI nb)])), (bP, .inl (cI, 12, .inl uP)), (bF, .inl (cI, 12, .inl uF)), (bL, .inl (cI, 12, .inl uL)), (bH, .inl (cD, 12, .inr (.inr (.inr (.inl uH))))), (p1, .inl (cD, (iw * ih), .inr (.inr (.inr (.inl t1))))), (p2, .inl (cD, (iw * ih), .inr (.inr (.inr (.inl t2)))))] U.heap ∧ va_K (dC, dI) vwCl [(cD, .double), (cI, .int), (cQ, .array .double)] U)) (va_Qd (fun (r : UInt64) (_ : Unit) => zv r = zprod T S1 S2 (zv de) (iw * ih)) (fun _ _ => True) (fun _ => False)) 0 0 (fun _ => False) := by
  refine MetD.ofW (cc := cX2_productOver) (maxL := 6) (ret := (some .double)) (by decide) rfl ?_
  intro p e s m args below meth c s₁ B hml hv hd0
  obtain ⟨rfl, hP0, hK⟩ := hv
  have hx := B.exec
  have hb := B.bytes
  have hr := B.returns
  have hts := atoms_spec (ws := wsX2_productOver) B.pre
  have hown : s.vm.findClass RX2 = some m.cls := findClass_of_methodNamed B.named
  have hlocks := B.notSynchronized
  have hS : va_S (fun _ => False) s.heap s.heap [] := va_S.rf
  have hP := hP0
  have hl := lv_entry ([.ref aP, .ref p1, .ref p2]) (n := 6) (Nat.le_of_ble_eq_true rfl)
  rw [lg_entry_eq]
  generalize (lg_sl ([.ref aP, .ref p1, .ref p2]) ++ List.replicate (6 - (lg_sl ([.ref aP, .ref p1, .ref p2])).length) Slot.unset).toArray = ls at hl ⊢
  have hl : lv_has ls 6 [(0, .ref aP), (1, .ref p1), (2, .ref p2)] := hl
  have hn36 : iw * ih ≤ 36 := Nat.mul_le_mul hw6 hh6
  refine lv_dconst0 hx hb dX2_productOver_0 ?_
  refine lv_dstore_n (lv' := [(3, .double FP.dconst0), (0, .ref aP), (1, .ref p1), (2, .ref p2)]) hx hb dX2_productOver_1 rfl hl (by decide) rfl (fun ls hl => ?_)
  refine lv_iconst (v := (nI 0)) hx hb dX2_productOver_2 (by decide) ?_
  refine lv_istore (lv' := [(5, .int (nI 0)), (3, .double FP.dconst0), (0, .ref aP), (1, .ref p1), (2, .ref p2)]) hx hb dX2_productOver_3 hl (by decide) rfl (fun ls hl => ?_)
  have L_5 : ∀ (n : Nat) (k : Nat) (sx : UInt64) (d0 : Drawn) (H : Heap) (locs : List Loc) (ls : Array Slot), iw * ih - k < n → (k ≤ iw * ih) → (zv sx = zprod T S1 S2 (zv de) k) → s.drawn.sameBut d0 lw_cs → va_S (fun _ => False) s.heap H locs → lv_has ls 6 [(5, .int (nI k)), (3, .double sx), (0, .ref aP), (1, .ref p1), (2, .ref p2)] → W p l e (headSpec wsX2_productOver ({ frames := 1, cells := 0, slots := 0, locals := 21 } : Room)).room (s.setDrawn d0) m ([.ref aP, .ref p1, .ref p2] : List Value).toArray below meth c H locs 0 0 (MQD lw_cs below (va_Qd (fun (r : UInt64) (_ : Unit) => zv r = zprod T S1 S2 (zv de) (iw * ih)) (fun _ _ => True) (fun _ => False)) ([.ref aP, .ref p1, .ref p2] : List Value).toArray s 0 0 (fun _ => False)) (F0 m 5 ls []) := by
    intro n
    induction n with
    | zero => intro k sx d0 H locs ls hn; exact absurd hn (Nat.not_lt_zero _)
    | succ n ih_L_5 =>
      intro k sx d0 H locs ls hn hk hsx hd0 hS hl
      have hP := zro hP0 hS
      refine lv_iload hx hb dX2_productOver_5 (lv_at hl 0 rfl) ?_
      refine lv_aload_n hx hb dX2_productOver_7 rfl (lv_at hl 2 rfl) ?_
      refine va_get (D := (dC, dI)) (ci := 2) (v := .ref pT) (C := RX2) (T := TX2) (N := 9) hx hb (dr_words hts d0) (in_X2_productOver_X2) hown hK hP 0 rfl rfl 2 (by decide) (dr_words hts d0 (.fieldLink RX2 18 "PlateModes$Plate" "thick" "[D") (by decide +kernel)) (fun _ h9 => h9) rfl dX2_productOver_8 ?_
      refine va_alen (s := s.setDrawn d0) hx hb hK hP 1 0 rfl (v := nI (iw * ih)) rfl rfl dX2_productOver_11 ?_
      refine z_icmp_ge (a := k) (b := iw * ih) (tgt := 49) hx hb (by omega) (by omega) dX2_productOver_12 (by decide) (fun c1 => ?_) (fun c2 => ?_)
      · skip
        refine lv_dload_n hx hb dX2_productOver_49 rfl (lv_at hl 1 rfl) ?_
        refine W.endD hd0 ?_
        exact W.dret (v := sx) hx hb hr (fun t ht hW => ⟨⟨sx, (), rfl, ⟨(hsx).trans (congrArg (fun z => zprod T S1 S2 (zv de) z) (show k = iw * ih from by omega)), trivial⟩⟩, hS.F ht⟩) hS.2.2 dX2_productOver_50
      · skip
        refine lv_aload_n hx hb dX2_productOver_15 rfl (lv_at hl 2 rfl) ?_
        refine lv_iload hx hb dX2_productOver_16 (lv_at hl 0 rfl) ?_
        have hPc := hP.sub (ws' := [(aP, .inr (2, [.int (nI iw), .int (nI ih), .ref pT, .ref pR, .ref pN, .ref pB, .double al, .double ac, .double de])), (pT, .inl (cD, (iw * ih), .inr (.inr (.inr (.inl tT))))), (pR, .inl (cD, (iw * ih), .inr (.inr (.inr (.inl tR))))), (pN, .inl (cD, (iw * ih), .inr (.inr (.inr (.inl tN))))), (pB, .inr (0, [.ref bP, .ref bF, .ref bL, .ref bH, .int (nI nb)])), (bP, .inl (cI, 12, .inl uP)), (bF, .inl (cI, 12, .inl uF)), (bL, .inl (cI, 12, .inl uL)), (bH, .inl (cD, 12, .inr (.inr (.inr (.inl uH)))))]) [0, 1, 2, 3, 4, 5, 6, 7, 8] rfl
        refine va_calli (va_runV (As := [.int (nI k)]) (rest := []) ⟨hx, hb, hml, hown, (dr_words hts d0)⟩ (c2_hasWood l dC dI aP pT pR pN pB bP bF bL bH cD cI cQ iw ih al ac de nb tT tR tN uP uF uL uH hw6 hh6 k (by omega)) (cwV 1 (dr_words hts d0) gX2_productOver_X2_hasWood rfl rfl rfl (by decide +kernel) ⟨Nat.le_of_ble_eq_true rfl, Nat.le_of_ble_eq_true rfl⟩) ⟨zfb, va_recv hK hP (ci := 2) (q0 := 0) rfl rfl, zpre hPc hK⟩ rfl rfl hl.1 rfl (lv_room (Nat.le_of_ble_eq_true rfl)) dX2_productOver_18 ⟨Nat.le_of_ble_eq_true rfl, Nat.le_of_ble_eq_true rfl⟩) hS (fun q _ h => h.elim) (fun q h => h.elim) (fun r3 u9 t9 H locs ht9 hvm9 hr3 hB9 hz9 hk1 hS => ?_)
        have hP := zro1 hP hk1
        have hr3 : r3 = zb (zgt (T k) z0) := by rw [hr3, show zv (tT k) = T k from gT _ (by omega)]
        subst hr3
        have J_43 : ∀ (sv : UInt64) (d0 : Drawn) (H : Heap) (locs : List Loc) (ls : Array Slot), (zv sv = zprod T S1 S2 (zv de) (k + 1)) → s.drawn.sameBut d0 lw_cs → va_S (fun _ => False) s.heap H locs → lv_has ls 6 [(5, .int (nI k)), (3, .double sv), (0, .ref aP), (1, .ref p1), (2, .ref p2)] → W p l e (headSpec wsX2_productOver ({ frames := 1, cells := 0, slots := 0, locals := 21 } : Room)).room (s.setDrawn d0) m ([.ref aP, .ref p1, .ref p2] : List Value).toArray below meth c H locs 0 0 (MQD lw_cs below (va_Qd (fun (r : UInt64) (_ : Unit) => zv r = zprod T S1 S2 (zv de) (iw * ih)) (fun _ _ => True) (fun _ => False)) ([.ref aP, .ref p1, .ref p2] : List Value).toArray s 0 0 (fun _ => False)) (F0 m 43 ls []) := by
          intro sv d0 H locs ls hsv hd0 hS hl
          have hP := zro hP0 hS
          refine lv_iinc (v := nI (k + 1)) (lv' := [(5, .int (nI (k + 1))), (3, .double sv), (0, .ref aP), (1, .ref p1), (2, .ref p2)]) hx hb dX2_productOver_43 hl (k := 0) rfl (show nI k + nI 1 = _ from zi_add (by omega)) (by decide) rfl (fun ls hl => ?_)
          refine lv_goto (tgt := 5) hx hb dX2_productOver_46 (by decide) ?_
          exact ih_L_5 (k + 1) sv _ _ _ _ (by omega) (by omega) hsv hd0 hS hl
        refine z_if_eq_b (tgt := 43) hx hb dX2_productOver_21 (by decide) (fun c4 => ?_) (fun c5 => ?_)
        · skip
          have cw := c4
          exact J_43 sx _ _ _ _ (hsx.trans (zprod_f cw).symm) hd0 hS hl
        · skip
          have cw := c5
          refine lv_dload_n hx hb dX2_productOver_24 rfl (lv_at hl 1 rfl) ?_
          refine lv_aload_n hx hb dX2_productOver_25 rfl (lv_at hl 2 rfl) ?_
          refine lv_iload hx hb dX2_productOver_26 (lv_at hl 0 rfl) ?_
          have hPc := hP.sub (ws' := [(aP, .inr (2, [.int (nI iw), .int (nI ih), .ref pT, .ref pR, .ref pN, .ref pB, .double al, .double ac, .double de])), (pT, .inl (cD, (iw * ih), .inr (.inr (.inr (.inl tT))))), (pR, .inl (cD, (iw * ih), .inr (.inr (.inr (.inl tR))))), (pN, .inl (cD, (iw * ih), .inr (.inr (.inr (.inl tN))))), (pB, .inr (0, [.ref bP, .ref bF, .ref bL, .ref bH, .int (nI nb)])), (bP, .inl (cI, 12, .inl uP)), (bF, .inl (cI, 12, .inl uF)), (bL, .inl (cI, 12, .inl uL)), (bH, .inl (cD, 12, .inr (.inr (.inr (.inl uH)))))]) [0, 1, 2, 3, 4, 5, 6, 7, 8] rfl
          refine va_calldD hd0 (va_runV_D (As := [.int (nI k)]) (rest := [.double sx]) ⟨hx, hb, hml, hown, (dr_words hts d0)⟩ (c2_massOf l dC dI aP pT pR pN pB bP bF bL bH cD cI cQ iw ih al ac de nb tT tR tN uP uF uL uH hw6 hh6 k (by omega)) (cwV 1 (dr_words hts d0) gX2_productOver_X2_massOf rfl rfl rfl (by decide +kernel) ⟨Nat.le_of_ble_eq_true rfl, Nat.le_of_ble_eq_true rfl⟩) ⟨zfb, va_recv hK hP (ci := 2) (q0 := 0) rfl rfl, zpre hPc hK⟩ rfl rfl hl.1 rfl (lv_room (Nat.le_of_ble_eq_true rfl)) dX2_productOver_28 ⟨Nat.le_of_ble_eq_true rfl, Nat.le_of_ble_eq_true rfl⟩) hS (fun q _ h => h.elim) (fun q h => h.elim) (fun r6 u9 t9 H locs ht9 hvm9 hr6 hB9 hz9 hk1 hS dhd7 hd7 => ?_)
          have hP := zro1 hP hk1
          have hr6 : zv r6 = zM (T k) (zv de) := by rw [hr6, show zv (tT k) = T k from gT _ (by omega)]
          refine lv_aload_n hx hb dX2_productOver_31 rfl (lv_at hl 3 rfl) ?_
          refine lv_iload hx hb dX2_productOver_32 (lv_at hl 0 rfl) ?_
          refine z_dald (s := s.setDrawn dhd7) (n := (iw * ih)) (i := k) hx hb hK hP 9 0 rfl rfl (by omega) (by omega) dX2_productOver_34 ?_
          refine zr_dmul hd7 hx hb (a := zM (T k) (zv de)) (b := S1 k) hr6 (g1 _ (by omega)) dX2_productOver_35 (fun r8 d9 hr8 hd9 => ?_)
          refine lv_aload_n hx hb dX2_productOver_36 rfl (lv_at hl 4 rfl) ?_
          refine lv_iload hx hb dX2_productOver_37 (lv_at hl 0 rfl) ?_
          refine z_dald (s := s.setDrawn d9) (n := (iw * ih)) (i := k) hx hb hK hP 10 0 rfl rfl (by omega) (by omega) dX2_productOver_39 ?_
          refine zr_dmul hd9 hx hb (a := zM (zM (T k) (zv de)) (S1 k)) (b := S2 k) hr8 (g2 _ (by omega)) dX2_productOver_40 (fun r10 d11 hr10 hd11 => ?_)
          refine zr_dadd hd11 hx hb (a := zprod T S1 S2 (zv de) k) (b := zM (zM (zM (T k) (zv de)) (S1 k)) (S2 k)) hsx hr10 dX2_productOver_41 (fun r12 d13 hr12 hd13 => ?_)
          refine lv_dstore_n (lv' := [(3, .double r12), (5, .int (nI k)), (0, .ref aP), (1, .ref p1), (2, .ref p2)]) hx hb dX2_productOver_42 rfl hl (by decide) rfl (fun ls hl => ?_)
          exact J_43 r12 _ _ _ _ (hr12.trans (zprod_t cw).symm) hd13 hS (lv_sub hl [1, 0, 2, 3, 4] rfl)
  exact L_5 _ 0 FP.dconst0 _ _ _ _ (Nat.lt_succ_self _) (by omega) rfl hd0 hS hl
theorem in_X2_totalOver_X2 : ∀ w ∈ wsX20, w ∈ wsX2_totalOver := by intro w h; unfold wsX2_totalOver; simp only [List.mem_cons, List.mem_append]; first | exact Or.inr (Or.inr h) | exact Or.inr (Or.inl (Or.inr h)) | exact Or.inr (Or.inl (Or.inl (Or.inr h))) | exact Or.inr (Or.inr (Or.inl h)) | exact Or.inr (Or.inr (Or.inr h))
set_option maxHeartbeats 4000000 in
set_option maxRecDepth 100000 in
/-- totalOver -/
theorem c2_totalOver (l : Launch) (dC : Nat → ClassId) (dI : Nat → Nat → Nat) (pS aP pT pR pN pB bP bF bL bH : Nat) (cD cI cQ : ClassId) (iw ih : Nat) (al ac de : UInt64) (nb : Nat) (tS tT tR tN : Nat → UInt64) (uP uF uL : Nat → Int32) (uH : Nat → UInt64) (hw6 : iw ≤ 6) (hh6 : ih ≤ 6) (T : Nat → ZD) (gT : zcr tT (iw * ih) T) (S : Nat → ZD) (gS : zcr tS (iw * ih) S) : MetD lw_cs l yX2_totalOver wsX2_totalOver ({ frames := 1, cells := 0, slots := 0, locals := 21 } : Room) (va_Pc [.ref aP, .ref pS] (fun U => va_P (dC, dI) vwCl [(aP, .inr (2, [.int (nI iw), .int (nI ih), .ref pT, .ref pR, .ref pN, .ref pB, .double al, .double ac, .double de])), (pT, .inl (cD, (iw * ih), .inr (.inr (.inr (.inl tT))))), (pR, .inl (cD, (iw * ih), .inr (.inr (.inr (.inl tR))))), (pN, .inl (cD, (iw * ih), .inr (.inr (.inr (.inl tN))))), (pB, .inr (0, [.ref bP, .ref bF, .ref bL, .ref bH, .int (nI nb)])), (bP, .inl (cI, 12, .inl uP)), (bF, .inl (cI, 12, .inl uF)), (bL, .inl (cI, 12, .inl uL)), (bH, .inl (cD, 12, .inr (.inr (.inr (.inl uH))))), (pS, .inl (cD, (iw * ih), .inr (.inr (.inr (.inl tS)))))] U.heap ∧ va_K (dC, dI) vwCl [(cD, .double), (cI, .int), (cQ, .array .double)] U)) (va_Qd (fun (r : UInt64) (_ : Unit) => zv r = zsum T S (iw * ih)) (fun _ _ => True) (fun _ => False)) 0 0 (fun _ => False) := by
  refine MetD.ofW (cc := cX2_totalOver) (maxL := 5) (ret := (some .double)) (by decide) rfl ?_
  intro p e s m args below meth c s₁ B hml hv hd0
  obtain ⟨rfl, hP0, hK⟩ := hv
  have hx := B.exec
  have hb := B.bytes
  have hr := B.returns
  have hts := atoms_spec (ws := wsX2_totalOver) B.pre
  have hown : s.vm.findClass RX2 = some m.cls := findClass_of_methodNamed B.named
  have hlocks := B.notSynchronized
  have hS : va_S (fun _ => False) s.heap s.heap [] := va_S.rf
  have hP := hP0
  have hl := lv_entry ([.ref aP, .ref pS]) (n := 5) (Nat.le_of_ble_eq_true rfl)
  rw [lg_entry_eq]
  generalize (lg_sl ([.ref aP, .ref pS]) ++ List.replicate (5 - (lg_sl ([.ref aP, .ref pS])).length) Slot.unset).toArray = ls at hl ⊢
  have hl : lv_has ls 5 [(0, .ref aP), (1, .ref pS)] := hl
  have hn36 : iw * ih ≤ 36 := Nat.mul_le_mul hw6 hh6
  refine lv_dconst0 hx hb dX2_totalOver_0 ?_
  refine lv_dstore_n (lv' := [(2, .double FP.dconst0), (0, .ref aP), (1, .ref pS)]) hx hb dX2_totalOver_1 rfl hl (by decide) rfl (fun ls hl => ?_)
  refine lv_iconst (v := (nI 0)) hx hb dX2_totalOver_2 (by decide) ?_
  refine lv_istore (lv' := [(4, .int (nI 0)), (2, .double FP.dconst0), (0, .ref aP), (1, .ref pS)]) hx hb dX2_totalOver_3 hl (by decide) rfl (fun ls hl => ?_)
  have L_5 : ∀ (n : Nat) (k : Nat) (sx : UInt64) (d0 : Drawn) (H : Heap) (locs : List Loc) (ls : Array Slot), iw * ih - k < n → (k ≤ iw * ih) → (zv sx = zsum T S k) → s.drawn.sameBut d0 lw_cs → va_S (fun _ => False) s.heap H locs → lv_has ls 5 [(4, .int (nI k)), (2, .double sx), (0, .ref aP), (1, .ref pS)] → W p l e (headSpec wsX2_totalOver ({ frames := 1, cells := 0, slots := 0, locals := 21 } : Room)).room (s.setDrawn d0) m ([.ref aP, .ref pS] : List Value).toArray below meth c H locs 0 0 (MQD lw_cs below (va_Qd (fun (r : UInt64) (_ : Unit) => zv r = zsum T S (iw * ih)) (fun _ _ => True) (fun _ => False)) ([.ref aP, .ref pS] : List Value).toArray s 0 0 (fun _ => False)) (F0 m 5 ls []) := by
    intro n
    induction n with
    | zero => intro k sx d0 H locs ls hn; exact absurd hn (Nat.not_lt_zero _)
    | succ n ih_L_5 =>
      intro k sx d0 H locs ls hn hk hsx hd0 hS hl
      have hP := zro hP0 hS
      refine lv_iload hx hb dX2_totalOver_5 (lv_at hl 0 rfl) ?_
      refine lv_aload_n hx hb dX2_totalOver_7 rfl (lv_at hl 2 rfl) ?_
      refine va_get (D := (dC, dI)) (ci := 2) (v := .ref pT) (C := RX2) (T := TX2) (N := 9) hx hb (dr_words hts d0) (in_X2_totalOver_X2) hown hK hP 0 rfl rfl 2 (by decide) (dr_words hts d0 (.fieldLink RX2 18 "PlateModes$Plate" "thick" "[D") (by decide +kernel)) (fun _ h9 => h9) rfl dX2_totalOver_8 ?_
      refine va_alen (s := s.setDrawn d0) hx hb hK hP 1 0 rfl (v := nI (iw * ih)) rfl rfl dX2_totalOver_11 ?_
      refine z_icmp_ge (a := k) (b := iw * ih) (tgt := 37) hx hb (by omega) (by omega) dX2_totalOver_12 (by decide) (fun c1 => ?_) (fun c2 => ?_)
      · skip
        refine lv_dload_n hx hb dX2_totalOver_37 rfl (lv_at hl 1 rfl) ?_
        refine W.endD hd0 ?_
        exact W.dret (v := sx) hx hb hr (fun t ht hW => ⟨⟨sx, (), rfl, ⟨(hsx).trans (congrArg (fun z => zsum T S z) (show k = iw * ih from by omega)), trivial⟩⟩, hS.F ht⟩) hS.2.2 dX2_totalOver_38
      · skip
        refine lv_aload_n hx hb dX2_totalOver_15 rfl (lv_at hl 2 rfl) ?_
        refine lv_iload hx hb dX2_totalOver_16 (lv_at hl 0 rfl) ?_
        have hPc := hP.sub (ws' := [(aP, .inr (2, [.int (nI iw), .int (nI ih), .ref pT, .ref pR, .ref pN, .ref pB, .double al, .double ac, .double de])), (pT, .inl (cD, (iw * ih), .inr (.inr (.inr (.inl tT))))), (pR, .inl (cD, (iw * ih), .inr (.inr (.inr (.inl tR))))), (pN, .inl (cD, (iw * ih), .inr (.inr (.inr (.inl tN))))), (pB, .inr (0, [.ref bP, .ref bF, .ref bL, .ref bH, .int (nI nb)])), (bP, .inl (cI, 12, .inl uP)), (bF, .inl (cI, 12, .inl uF)), (bL, .inl (cI, 12, .inl uL)), (bH, .inl (cD, 12, .inr (.inr (.inr (.inl uH)))))]) [0, 1, 2, 3, 4, 5, 6, 7, 8] rfl
        refine va_calli (va_runV (As := [.int (nI k)]) (rest := []) ⟨hx, hb, hml, hown, (dr_words hts d0)⟩ (c2_hasWood l dC dI aP pT pR pN pB bP bF bL bH cD cI cQ iw ih al ac de nb tT tR tN uP uF uL uH hw6 hh6 k (by omega)) (cwV 1 (dr_words hts d0) gX2_totalOver_X2_hasWood rfl rfl rfl (by decide +kernel) ⟨Nat.le_of_ble_eq_true rfl, Nat.le_of_ble_eq_true rfl⟩) ⟨zfb, va_recv hK hP (ci := 2) (q0 := 0) rfl rfl, zpre hPc hK⟩ rfl rfl hl.1 rfl (lv_room (Nat.le_of_ble_eq_true rfl)) dX2_totalOver_18 ⟨Nat.le_of_ble_eq_true rfl, Nat.le_of_ble_eq_true rfl⟩) hS (fun q _ h => h.elim) (fun q h => h.elim) (fun r3 u9 t9 H locs ht9 hvm9 hr3 hB9 hz9 hk1 hS => ?_)
        have hP := zro1 hP hk1
        have hr3 : r3 = zb (zgt (T k) z0) := by rw [hr3, show zv (tT k) = T k from gT _ (by omega)]
        subst hr3
        have J_31 : ∀ (sv : UInt64) (d0 : Drawn) (H : Heap) (locs : List Loc) (ls : Array Slot), (zv sv = zsum T S (k + 1)) → s.drawn.sameBut d0 lw_cs → va_S (fun _ => False) s.heap H locs → lv_has ls 5 [(4, .int (nI k)), (2, .double sv), (0, .ref aP), (1, .ref pS)] → W p l e (headSpec wsX2_totalOver ({ frames := 1, cells := 0, slots := 0, locals := 21 } : Room)).room (s.setDrawn d0) m ([.ref aP, .ref pS] : List Value).toArray below meth c H locs 0 0 (MQD lw_cs below (va_Qd (fun (r : UInt64) (_ : Unit) => zv r = zsum T S (iw * ih)) (fun _ _ => True) (fun _ => False)) ([.ref aP, .ref pS] : List Value).toArray s 0 0 (fun _ => False)) (F0 m 31 ls []) := by
          intro sv d0 H locs ls hsv hd0 hS hl
          have hP := zro hP0 hS
          refine lv_iinc (v := nI (k + 1)) (lv' := [(4, .int (nI (k + 1))), (2, .double sv), (0, .ref aP), (1, .ref pS)]) hx hb dX2_totalOver_31 hl (k := 0) rfl (show nI k + nI 1 = _ from zi_add (by omega)) (by decide) rfl (fun ls hl => ?_)
          refine lv_goto (tgt := 5) hx hb dX2_totalOver_34 (by decide) ?_
          exact ih_L_5 (k + 1) sv _ _ _ _ (by omega) (by omega) hsv hd0 hS hl
        refine z_if_eq_b (tgt := 31) hx hb dX2_totalOver_21 (by decide) (fun c4 => ?_) (fun c5 => ?_)
        · skip
          have cw := c4
          exact J_31 sx _ _ _ _ (hsx.trans (zsum_f cw).symm) hd0 hS hl
        · skip
          have cw := c5
          refine lv_dload_n hx hb dX2_totalOver_24 rfl (lv_at hl 1 rfl) ?_
          refine lv_aload_n hx hb dX2_totalOver_25 rfl (lv_at hl 3 rfl) ?_
          refine lv_iload hx hb dX2_totalOver_26 (lv_at hl 0 rfl) ?_
          refine z_dald (s := s.setDrawn d0) (n := (iw * ih)) (i := k) hx hb hK hP 9 0 rfl rfl (by omega) (by omega) dX2_totalOver_28 ?_
          refine zr_dadd hd0 hx hb (a := zsum T S k) (b := S k) hsx (gS _ (by omega)) dX2_totalOver_29 (fun r6 d7 hr6 hd7 => ?_)
          refine lv_dstore_n (lv' := [(2, .double r6), (4, .int (nI k)), (0, .ref aP), (1, .ref pS)]) hx hb dX2_totalOver_30 rfl hl (by decide) rfl (fun ls hl => ?_)
          exact J_31 r6 _ _ _ _ (hr6.trans (zsum_t cw).symm) hd7 hS (lv_sub hl [1, 0, 2, 3] rfl)
  exact L_5 _ 0 FP.dconst0 _ _ _ _ (Nat.lt_succ_self _) (by omega) rfl hd0 hS hl
theorem in_X2_squareOver_X2 : ∀ w ∈ wsX20, w ∈ wsX2_squareOver := by intro w h; unfold wsX2_squareOver; simp only [List.mem_cons, List.mem_append]; first | exact Or.inr (Or.inr h) | exact Or.inr (Or.inl (Or.inr h)) | exact Or.inr (Or.inl (Or.inl (Or.inr h))) | exact Or.inr (Or.inr (Or.inl h)) | exact Or.inr (Or.inr (Or.inr h))
set_option maxHeartbeats 4000000 in
set_option maxRecDepth 100000 in
/-- squareOver -/
theorem c2_squareOver (l : Launch) (dC : Nat → ClassId) (dI : Nat → Nat → Nat) (pS aP pT pR pN pB bP bF bL bH : Nat) (cD cI cQ : ClassId) (iw ih : Nat) (al ac de : UInt64) (nb : Nat) (tS tT tR tN : Nat → UInt64) (uP uF uL : Nat → Int32) (uH : Nat → UInt64) (hw6 : iw ≤ 6) (hh6 : ih ≤ 6) (T R N : Nat → ZD) (gT : zcr tT (iw * ih) T) (gR : zcr tR (iw * ih) R) (gN : zcr tN (iw * ih) N) (S : Nat → ZD) (gS : zcr tS (iw * ih) S) : MetD lw_cs l yX2_squareOver wsX2_squareOver ({ frames := 2, cells := 0, slots := 0, locals := 50 } : Room) (va_Pc [.ref aP, .ref pS] (fun U => va_P (dC, dI) vwCl [(aP, .inr (2, [.int (nI iw), .int (nI ih), .ref pT, .ref pR, .ref pN, .ref pB, .double al, .double ac, .double de])), (pT, .inl (cD, (iw * ih), .inr (.inr (.inr (.inl tT))))), (pR, .inl (cD, (iw * ih), .inr (.inr (.inr (.inl tR))))), (pN, .inl (cD, (iw * ih), .inr (.inr (.inr (.inl tN))))), (pB, .inr (0, [.ref bP, .ref bF, .ref bL, .ref bH, .int (nI nb)])), (bP, .inl (cI, 12, .inl uP)), (bF, .inl (cI, 12, .inl uF)), (bL, .inl (cI, 12, .inl uL)), (bH, .inl (cD, 12, .inr (.inr (.inr (.inl uH))))), (pS, .inl (cD, (iw * ih), .inr (.inr (.inr (.inl tS)))))] U.heap ∧ va_K (dC, dI) vwCl [(cD, .double), (cI, .int), (cQ, .array .double)] U ∧ zNw U)) (va_Qd (fun (r : UInt64) (_ : Unit) => zv r = zN (zsq iw ih T R N S (iw * ih))) (fun _ _ => True) (fun _ => False)) 0 0 (fun _ => False) := by
  refine MetD.ofW (cc := cX2_squareOver) (maxL := 7) (ret := (some .double)) (by decide) rfl ?_
  intro p e s m args below meth c s₁ B hml hv hd0
  obtain ⟨rfl, hP0, hK, hN⟩ := hv
  have hx := B.exec
  have hb := B.bytes
  have hr := B.returns
  have hts := atoms_spec (ws := wsX2_squareOver) B.pre
  have hown : s.vm.findClass RX2 = some m.cls := findClass_of_methodNamed B.named
  have hlocks := B.notSynchronized
  have hS : va_S (fun _ => False) s.heap s.heap [] := va_S.rf
  have hP := hP0
  have hl := lv_entry ([.ref aP, .ref pS]) (n := 7) (Nat.le_of_ble_eq_true rfl)
  rw [lg_entry_eq]
  generalize (lg_sl ([.ref aP, .ref pS]) ++ List.replicate (7 - (lg_sl ([.ref aP, .ref pS])).length) Slot.unset).toArray = ls at hl ⊢
  have hl : lv_has ls 7 [(0, .ref aP), (1, .ref pS)] := hl
  have hn36 : iw * ih ≤ 36 := Nat.mul_le_mul hw6 hh6
  refine lv_dconst0 hx hb dX2_squareOver_0 ?_
  refine lv_dstore_n (lv' := [(2, .double FP.dconst0), (0, .ref aP), (1, .ref pS)]) hx hb dX2_squareOver_1 rfl hl (by decide) rfl (fun ls hl => ?_)
  refine lv_iconst (v := (nI 0)) hx hb dX2_squareOver_2 (by decide) ?_
  refine lv_istore (lv' := [(4, .int (nI 0)), (2, .double FP.dconst0), (0, .ref aP), (1, .ref pS)]) hx hb dX2_squareOver_3 hl (by decide) rfl (fun ls hl => ?_)
  have L_5 : ∀ (n : Nat) (y : Nat) (sy : UInt64) (d0 : Drawn) (H : Heap) (locs : List Loc) (ls : Array Slot), ih - y < n → (y ≤ ih) → (zv sy = zsq iw ih T R N S (y * iw)) → s.drawn.sameBut d0 lw_cs → va_S (fun _ => False) s.heap H locs → lv_has ls 7 [(4, .int (nI y)), (2, .double sy), (0, .ref aP), (1, .ref pS)] → W p l e (headSpec wsX2_squareOver ({ frames := 2, cells := 0, slots := 0, locals := 50 } : Room)).room (s.setDrawn d0) m ([.ref aP, .ref pS] : List Value).toArray below meth c H locs 0 0 (MQD lw_cs below (va_Qd (fun (r : UInt64) (_ : Unit) => zv r = zN (zsq iw ih T R N S (iw * ih))) (fun _ _ => True) (fun _ => False)) ([.ref aP, .ref pS] : List Value).toArray s 0 0 (fun _ => False)) (F0 m 5 ls []) := by
    intro n
    induction n with
    | zero => intro y sy d0 H locs ls hn; exact absurd hn (Nat.not_lt_zero _)
    | succ n ih_L_5 =>
      intro y sy d0 H locs ls hn hyh hsy hd0 hS hl
      have hP := zro hP0 hS
      refine lv_iload hx hb dX2_squareOver_5 (lv_at hl 0 rfl) ?_
      refine lv_aload_n hx hb dX2_squareOver_7 rfl (lv_at hl 2 rfl) ?_
      refine va_get (D := (dC, dI)) (ci := 2) (v := .int (nI ih)) (C := RX2) (T := TX2) (N := 9) hx hb (dr_words hts d0) (in_X2_squareOver_X2) hown hK hP 0 rfl rfl 1 (by decide) (dr_words hts d0 (.fieldLink RX2 15 "PlateModes$Plate" "height" "I") (by decide +kernel)) (fun _ h9 => h9) rfl dX2_squareOver_8 ?_
      refine z_icmp_ge (a := y) (b := ih) (tgt := 74) hx hb (by omega) (by omega) dX2_squareOver_11 (by decide) (fun c1 => ?_) (fun c2 => ?_)
      · skip
        refine lv_dload_n hx hb dX2_squareOver_74 rfl (lv_at hl 1 rfl) ?_
        refine zr_dneg hx hb (a := zsq iw ih T R N S (y * iw)) hsy dX2_squareOver_75 (fun r3 hr3 => ?_)
        refine W.endD hd0 ?_
        exact W.dret (v := r3) hx hb hr (fun t ht hW => ⟨⟨r3, (), rfl, ⟨(hr3).trans (congrArg (fun z => zN (zsq iw ih T R N S z)) (show y * iw = iw * ih from by rw [show y = ih by omega, Nat.mul_comm])), trivial⟩⟩, hS.F ht⟩) hS.2.2 dX2_squareOver_76
      · skip
        refine lv_iconst (v := (nI 0)) hx hb dX2_squareOver_14 (by decide) ?_
        refine lv_istore (lv' := [(5, .int (nI 0)), (4, .int (nI y)), (2, .double sy), (0, .ref aP), (1, .ref pS)]) hx hb dX2_squareOver_15 hl (by decide) rfl (fun ls hl => ?_)
        have L_17 : ∀ (n : Nat) (x : Nat) (sx : UInt64) (d0 : Drawn) (H : Heap) (locs : List Loc) (ls : Array Slot), iw - x < n → (x ≤ iw) → (zv sx = zsq iw ih T R N S (y * iw + x)) → s.drawn.sameBut d0 lw_cs → va_S (fun _ => False) s.heap H locs → lv_has ls 7 [(5, .int (nI x)), (4, .int (nI y)), (2, .double sx), (0, .ref aP), (1, .ref pS)] → W p l e (headSpec wsX2_squareOver ({ frames := 2, cells := 0, slots := 0, locals := 50 } : Room)).room (s.setDrawn d0) m ([.ref aP, .ref pS] : List Value).toArray below meth c H locs 0 0 (MQD lw_cs below (va_Qd (fun (r : UInt64) (_ : Unit) => zv r = zN (zsq iw ih T R N S (iw * ih))) (fun _ _ => True) (fun _ => False)) ([.ref aP, .ref pS] : List Value).toArray s 0 0 (fun _ => False)) (F0 m 17 ls []) := by
          intro n
          induction n with
          | zero => intro x sx d0 H locs ls hn; exact absurd hn (Nat.not_lt_zero _)
          | succ n ih_L_17 =>
            intro x sx d0 H locs ls hn hxw hsx hd0 hS hl
            have hP := zro hP0 hS
            refine lv_iload hx hb dX2_squareOver_17 (lv_at hl 0 rfl) ?_
            refine lv_aload_n hx hb dX2_squareOver_19 rfl (lv_at hl 3 rfl) ?_
            refine va_get (D := (dC, dI)) (ci := 2) (v := .int (nI iw)) (C := RX2) (T := TX2) (N := 9) hx hb (dr_words hts d0) (in_X2_squareOver_X2) hown hK hP 0 rfl rfl 0 (by decide) (dr_words hts d0 (.fieldLink RX2 9 "PlateModes$Plate" "width" "I") (by decide +kernel)) (fun _ h9 => h9) rfl dX2_squareOver_20 ?_
            refine z_icmp_ge (a := x) (b := iw) (tgt := 68) hx hb (by omega) (by omega) dX2_squareOver_23 (by decide) (fun c4 => ?_) (fun c5 => ?_)
            · skip
              refine lv_iinc (v := nI (y + 1)) (lv' := [(4, .int (nI (y + 1))), (5, .int (nI x)), (2, .double sx), (0, .ref aP), (1, .ref pS)]) hx hb dX2_squareOver_68 hl (k := 1) rfl (show nI y + nI 1 = _ from zi_add (by omega)) (by decide) rfl (fun ls hl => ?_)
              refine lv_goto (tgt := 5) hx hb dX2_squareOver_71 (by decide) ?_
              exact ih_L_5 (y + 1) sx _ _ _ _ (by omega) (by omega) ((hsx).trans (congrArg (fun z => zsq iw ih T R N S z) (show y * iw + x = (y + 1) * iw from by rw [← zrow_end]; omega))) hd0 hS (lv_sub hl [0, 2, 3, 4] rfl)
            · skip
              refine lv_aload_n hx hb dX2_squareOver_26 rfl (lv_at hl 3 rfl) ?_
              refine lv_iload hx hb dX2_squareOver_27 (lv_at hl 0 rfl) ?_
              refine lv_iload hx hb dX2_squareOver_29 (lv_at hl 1 rfl) ?_
              have hPc := hP.sub (ws' := [(aP, .inr (2, [.int (nI iw), .int (nI ih), .ref pT, .ref pR, .ref pN, .ref pB, .double al, .double ac, .double de])), (pT, .inl (cD, (iw * ih), .inr (.inr (.inr (.inl tT))))), (pR, .inl (cD, (iw * ih), .inr (.inr (.inr (.inl tR))))), (pN, .inl (cD, (iw * ih), .inr (.inr (.inr (.inl tN))))), (pB, .inr (0, [.ref bP, .ref bF, .ref bL, .ref bH, .int (nI nb)])), (bP, .inl (cI, 12, .inl uP)), (bF, .inl (cI, 12, .inl uF)), (bL, .inl (cI, 12, .inl uL)), (bH, .inl (cD, 12, .inr (.inr (.inr (.inl uH)))))]) [0, 1, 2, 3, 4, 5, 6, 7, 8] rfl
              refine va_calli (va_runV (As := [.int (nI x), .int (nI y)]) (rest := []) ⟨hx, hb, hml, hown, (dr_words hts d0)⟩ (c2_cellAt l dC dI aP pT pR pN pB bP bF bL bH cD cI cQ iw ih al ac de nb tT tR tN uP uF uL uH x y) (cwV 2 (dr_words hts d0) gX2_squareOver_X2_cellAt rfl rfl rfl (by decide +kernel) ⟨Nat.le_of_ble_eq_true rfl, Nat.le_of_ble_eq_true rfl⟩) ⟨zfb, va_recv hK hP (ci := 2) (q0 := 0) rfl rfl, zpre hPc hK⟩ rfl rfl hl.1 rfl (lv_room (Nat.le_of_ble_eq_true rfl)) dX2_squareOver_31 ⟨Nat.le_of_ble_eq_true rfl, Nat.le_of_ble_eq_true rfl⟩) hS (fun q _ h => h.elim) (fun q h => h.elim) (fun r6 u9 t9 H locs ht9 hvm9 hr6 hB9 hz9 hk1 hS => ?_)
              have hP := zro1 hP hk1
              subst hr6
              refine lv_istore (lv' := [(6, .int (nI (y * iw + x))), (5, .int (nI x)), (4, .int (nI y)), (2, .double sx), (0, .ref aP), (1, .ref pS)]) hx hb dX2_squareOver_34 hl (by decide) rfl (fun ls hl => ?_)
              refine lv_aload_n hx hb dX2_squareOver_36 rfl (lv_at hl 4 rfl) ?_
              refine lv_iload hx hb dX2_squareOver_37 (lv_at hl 0 rfl) ?_
              have hPc := hP.sub (ws' := [(aP, .inr (2, [.int (nI iw), .int (nI ih), .ref pT, .ref pR, .ref pN, .ref pB, .double al, .double ac, .double de])), (pT, .inl (cD, (iw * ih), .inr (.inr (.inr (.inl tT))))), (pR, .inl (cD, (iw * ih), .inr (.inr (.inr (.inl tR))))), (pN, .inl (cD, (iw * ih), .inr (.inr (.inr (.inl tN))))), (pB, .inr (0, [.ref bP, .ref bF, .ref bL, .ref bH, .int (nI nb)])), (bP, .inl (cI, 12, .inl uP)), (bF, .inl (cI, 12, .inl uF)), (bL, .inl (cI, 12, .inl uL)), (bH, .inl (cD, 12, .inr (.inr (.inr (.inl uH)))))]) [0, 1, 2, 3, 4, 5, 6, 7, 8] rfl
              refine va_calli (va_runV (As := [.int (nI (y * iw + x))]) (rest := []) ⟨hx, hb, hml, hown, (dr_words hts d0)⟩ (c2_hasWood l dC dI aP pT pR pN pB bP bF bL bH cD cI cQ iw ih al ac de nb tT tR tN uP uF uL uH hw6 hh6 (y * iw + x) (zrow (x := x) (y := y) (by omega) (by omega))) (cwV 1 (dr_words hts d0) gX2_squareOver_X2_hasWood rfl rfl rfl (by decide +kernel) ⟨Nat.le_of_ble_eq_true rfl, Nat.le_of_ble_eq_true rfl⟩) ⟨zfb, va_recv hK hP (ci := 2) (q0 := 0) rfl rfl, zpre hPc hK⟩ rfl rfl hl.1 rfl (lv_room (Nat.le_of_ble_eq_true rfl)) dX2_squareOver_39 ⟨Nat.le_of_ble_eq_true rfl, Nat.le_of_ble_eq_true rfl⟩) hS (fun q _ h => h.elim) (fun q h => h.elim) (fun r7 u9 t9 H locs ht9 hvm9 hr7 hB9 hz9 hk1 hS => ?_)
              have hP := zro1 hP hk1
              have hr7 : r7 = zb (zgt (T (y * iw + x)) z0) := by rw [hr7, show zv (tT (y * iw + x)) = T (y * iw + x) from gT _ (zrow (x := x) (y := y) (by omega) (by omega))]
              subst hr7
              have J_62 : ∀ (sv : UInt64) (d0 : Drawn) (H : Heap) (locs : List Loc) (ls : Array Slot), (zv sv = zsq iw ih T R N S (y * iw + x + 1)) → s.drawn.sameBut d0 lw_cs → va_S (fun _ => False) s.heap H locs → lv_has ls 7 [(5, .int (nI x)), (4, .int (nI y)), (2, .double sv), (0, .ref aP), (1, .ref pS)] → W p l e (headSpec wsX2_squareOver ({ frames := 2, cells := 0, slots := 0, locals := 50 } : Room)).room (s.setDrawn d0) m ([.ref aP, .ref pS] : List Value).toArray below meth c H locs 0 0 (MQD lw_cs below (va_Qd (fun (r : UInt64) (_ : Unit) => zv r = zN (zsq iw ih T R N S (iw * ih))) (fun _ _ => True) (fun _ => False)) ([.ref aP, .ref pS] : List Value).toArray s 0 0 (fun _ => False)) (F0 m 62 ls []) := by
                intro sv d0 H locs ls hsv hd0 hS hl
                have hP := zro hP0 hS
                refine lv_iinc (v := nI (x + 1)) (lv' := [(5, .int (nI (x + 1))), (4, .int (nI y)), (2, .double sv), (0, .ref aP), (1, .ref pS)]) hx hb dX2_squareOver_62 hl (k := 0) rfl (show nI x + nI 1 = _ from zi_add (by omega)) (by decide) rfl (fun ls hl => ?_)
                refine lv_goto (tgt := 17) hx hb dX2_squareOver_65 (by decide) ?_
                exact ih_L_17 (x + 1) sv _ _ _ _ (by omega) (by omega) hsv hd0 hS hl
              refine z_if_eq_b (tgt := 62) hx hb dX2_squareOver_42 (by decide) (fun c8 => ?_) (fun c9 => ?_)
              · skip
                have cw := c8
                exact J_62 sx _ _ _ _ (hsx.trans (zsq_f cw).symm) hd0 hS (lv_sub hl [1, 2, 3, 4, 5] rfl)
              · skip
                have cw := c9
                refine lv_dload_n hx hb dX2_squareOver_45 rfl (lv_at hl 3 rfl) ?_
                refine lv_aload_n hx hb dX2_squareOver_46 rfl (lv_at hl 5 rfl) ?_
                refine lv_iload hx hb dX2_squareOver_47 (lv_at hl 0 rfl) ?_
                refine z_dald (s := s.setDrawn d0) (n := (iw * ih)) (i := y * iw + x) hx hb hK hP 9 0 rfl rfl (zrow (x := x) (y := y) (by omega) (by omega)) (by omega) dX2_squareOver_49 ?_
                refine lv_aload_n hx hb dX2_squareOver_50 rfl (lv_at hl 4 rfl) ?_
                refine lv_aload_n hx hb dX2_squareOver_51 rfl (lv_at hl 5 rfl) ?_
                refine lv_iload hx hb dX2_squareOver_52 (lv_at hl 1 rfl) ?_
                refine lv_iload hx hb dX2_squareOver_54 (lv_at hl 2 rfl) ?_
                have hPc := hP
                refine va_calldD hd0 (va_runV_D (As := [.ref pS, .int (nI x), .int (nI y)]) (rest := [.double (tS (y * iw + x)), .double sx]) ⟨hx, hb, hml, hown, (dr_words hts d0)⟩ (c2_forceAt l dC dI pS aP pT pR pN pB bP bF bL bH cD cI cQ iw ih al ac de nb tS tT tR tN uP uF uL uH hw6 hh6 T R N gT gR gN S gS x y (by omega) (by omega)) (cwV 3 (dr_words hts d0) gX2_squareOver_X2_forceAt rfl rfl rfl (by decide +kernel) ⟨Nat.le_of_ble_eq_true rfl, Nat.le_of_ble_eq_true rfl⟩) ⟨zfbN, va_recv hK hP (ci := 2) (q0 := 0) rfl rfl, zpreN hPc hK (by first | exact hN | exact hN.sd)⟩ rfl rfl hl.1 rfl (lv_room (Nat.le_of_ble_eq_true rfl)) dX2_squareOver_56 ⟨Nat.le_of_ble_eq_true rfl, Nat.le_of_ble_eq_true rfl⟩) hS (fun q _ h => h.elim) (fun q h => h.elim) (fun r10 u9 t9 H locs ht9 hvm9 hr10 hB9 hz9 hk1 hS dhd11 hd11 => ?_)
                have hP := zro1 hP hk1
                refine zr_dmul hd11 hx hb (a := S (y * iw + x)) (b := zforce iw ih R N S x y) (gS _ (zrow (x := x) (y := y) (by omega) (by omega))) hr10 dX2_squareOver_59 (fun r12 d13 hr12 hd13 => ?_)
                refine zr_dadd hd13 hx hb (a := zsq iw ih T R N S (y * iw + x)) (b := zM (S (y * iw + x)) (zforce iw ih R N S x y)) hsx hr12 dX2_squareOver_60 (fun r14 d15 hr14 hd15 => ?_)
                refine lv_dstore_n (lv' := [(2, .double r14), (6, .int (nI (y * iw + x))), (5, .int (nI x)), (4, .int (nI y)), (0, .ref aP), (1, .ref pS)]) hx hb dX2_squareOver_61 rfl hl (by decide) rfl (fun ls hl => ?_)
                exact J_62 r14 _ _ _ _ (hr14.trans (zsq_t (by omega) cw).symm) hd15 hS (lv_sub hl [2, 3, 0, 4, 5] rfl)
        exact L_17 _ 0 sy _ _ _ _ (Nat.lt_succ_self _) (by omega) hsy hd0 hS hl
  exact L_5 _ 0 FP.dconst0 _ _ _ _ (Nat.lt_succ_self _) (by omega) (by rw [Nat.zero_mul]; rfl) hd0 hS hl
theorem in_X2_residueOver_X2 : ∀ w ∈ wsX20, w ∈ wsX2_residueOver := by intro w h; unfold wsX2_residueOver; simp only [List.mem_cons, List.mem_append]; first | exact Or.inr (Or.inr h) | exact Or.inr (Or.inl (Or.inr h)) | exact Or.inr (Or.inl (Or.inl (Or.inr h))) | exact Or.inr (Or.inr (Or.inl h)) | exact Or.inr (Or.inr (Or.inr h))
set_option maxHeartbeats 4000000 in
set_option maxRecDepth 100000 in
/-- residueOver -/
theorem c2_residueOver (l : Launch) (dC : Nat → ClassId) (dI : Nat → Nat → Nat) (pS aP pT pR pN pB bP bF bL bH : Nat) (cD cI cQ : ClassId) (iw ih : Nat) (al ac de sq : UInt64) (nb : Nat) (tS tT tR tN : Nat → UInt64) (uP uF uL : Nat → Int32) (uH : Nat → UInt64) (hw6 : iw ≤ 6) (hh6 : ih ≤ 6) (T R N : Nat → ZD) (gT : zcr tT (iw * ih) T) (gR : zcr tR (iw * ih) R) (gN : zcr tN (iw * ih) N) (S : Nat → ZD) (gS : zcr tS (iw * ih) S) : MetD lw_cs l yX2_residueOver wsX2_residueOver ({ frames := 2, cells := 0, slots := 0, locals := 50 } : Room) (va_Pc [.ref aP, .ref pS, .double sq] (fun U => va_P (dC, dI) vwCl [(aP, .inr (2, [.int (nI iw), .int (nI ih), .ref pT, .ref pR, .ref pN, .ref pB, .double al, .double ac, .double de])), (pT, .inl (cD, (iw * ih), .inr (.inr (.inr (.inl tT))))), (pR, .inl (cD, (iw * ih), .inr (.inr (.inr (.inl tR))))), (pN, .inl (cD, (iw * ih), .inr (.inr (.inr (.inl tN))))), (pB, .inr (0, [.ref bP, .ref bF, .ref bL, .ref bH, .int (nI nb)])), (bP, .inl (cI, 12, .inl uP)), (bF, .inl (cI, 12, .inl uF)), (bL, .inl (cI, 12, .inl uL)), (bH, .inl (cD, 12, .inr (.inr (.inr (.inl uH))))), (pS, .inl (cD, (iw * ih), .inr (.inr (.inr (.inl tS)))))] U.heap ∧ va_K (dC, dI) vwCl [(cD, .double), (cI, .int), (cQ, .array .double)] U ∧ zNw U)) (va_Qd (fun (r : UInt64) (_ : Unit) => zv r = zres iw ih T R N S (zv de) (zv sq) (iw * ih)) (fun _ _ => True) (fun _ => False)) 0 0 (fun _ => False) := by
  refine MetD.ofW (cc := cX2_residueOver) (maxL := 13) (ret := (some .double)) (by decide) rfl ?_
  intro p e s m args below meth c s₁ B hml hv hd0
  obtain ⟨rfl, hP0, hK, hN⟩ := hv
  have hx := B.exec
  have hb := B.bytes
  have hr := B.returns
  have hts := atoms_spec (ws := wsX2_residueOver) B.pre
  have hown : s.vm.findClass RX2 = some m.cls := findClass_of_methodNamed B.named
  have hlocks := B.notSynchronized
  have hS : va_S (fun _ => False) s.heap s.heap [] := va_S.rf
  have hP := hP0
  have hl := lv_entry ([.ref aP, .ref pS, .double sq]) (n := 13) (Nat.le_of_ble_eq_true rfl)
  rw [lg_entry_eq]
  generalize (lg_sl ([.ref aP, .ref pS, .double sq]) ++ List.replicate (13 - (lg_sl ([.ref aP, .ref pS, .double sq])).length) Slot.unset).toArray = ls at hl ⊢
  have hl : lv_has ls 13 [(0, .ref aP), (1, .ref pS), (2, .double sq)] := hl
  have hn36 : iw * ih ≤ 36 := Nat.mul_le_mul hw6 hh6
  refine lv_dconst0 hx hb dX2_residueOver_0 ?_
  refine lv_dstore (lv' := [(4, .double FP.dconst0), (0, .ref aP), (1, .ref pS), (2, .double sq)]) hx hb dX2_residueOver_1 hl (by decide) rfl (fun ls hl => ?_)
  refine lv_iconst (v := (nI 0)) hx hb dX2_residueOver_3 (by decide) ?_
  refine lv_istore (lv' := [(6, .int (nI 0)), (4, .double FP.dconst0), (0, .ref aP), (1, .ref pS), (2, .double sq)]) hx hb dX2_residueOver_4 hl (by decide) rfl (fun ls hl => ?_)
  have L_6 : ∀ (n : Nat) (y : Nat) (sy : UInt64) (d0 : Drawn) (H : Heap) (locs : List Loc) (ls : Array Slot), ih - y < n → (y ≤ ih) → (zv sy = zres iw ih T R N S (zv de) (zv sq) (y * iw)) → s.drawn.sameBut d0 lw_cs → va_S (fun _ => False) s.heap H locs → lv_has ls 13 [(6, .int (nI y)), (4, .double sy), (0, .ref aP), (1, .ref pS), (2, .double sq)] → W p l e (headSpec wsX2_residueOver ({ frames := 2, cells := 0, slots := 0, locals := 50 } : Room)).room (s.setDrawn d0) m ([.ref aP, .ref pS, .double sq] : List Value).toArray below meth c H locs 0 0 (MQD lw_cs below (va_Qd (fun (r : UInt64) (_ : Unit) => zv r = zres iw ih T R N S (zv de) (zv sq) (iw * ih)) (fun _ _ => True) (fun _ => False)) ([.ref aP, .ref pS, .double sq] : List Value).toArray s 0 0 (fun _ => False)) (F0 m 6 ls []) := by
    intro n
    induction n with
    | zero => intro y sy d0 H locs ls hn; exact absurd hn (Nat.not_lt_zero _)
    | succ n ih_L_6 =>
      intro y sy d0 H locs ls hn hyh hsy hd0 hS hl
      have hP := zro hP0 hS
      refine lv_iload hx hb dX2_residueOver_6 (lv_at hl 0 rfl) ?_
      refine lv_aload_n hx hb dX2_residueOver_8 rfl (lv_at hl 2 rfl) ?_
      refine va_get (D := (dC, dI)) (ci := 2) (v := .int (nI ih)) (C := RX2) (T := TX2) (N := 9) hx hb (dr_words hts d0) (in_X2_residueOver_X2) hown hK hP 0 rfl rfl 1 (by decide) (dr_words hts d0 (.fieldLink RX2 15 "PlateModes$Plate" "height" "I") (by decide +kernel)) (fun _ h9 => h9) rfl dX2_residueOver_9 ?_
      refine z_icmp_ge (a := y) (b := ih) (tgt := 117) hx hb (by omega) (by omega) dX2_residueOver_12 (by decide) (fun c1 => ?_) (fun c2 => ?_)
      · skip
        refine lv_dload hx hb dX2_residueOver_117 (lv_at hl 1 rfl) ?_
        refine W.endD hd0 ?_
        exact W.dret (v := sy) hx hb hr (fun t ht hW => ⟨⟨sy, (), rfl, ⟨(hsy).trans (congrArg (fun z => zres iw ih T R N S (zv de) (zv sq) z) (show y * iw = iw * ih from by rw [show y = ih by omega, Nat.mul_comm])), trivial⟩⟩, hS.F ht⟩) hS.2.2 dX2_residueOver_119
      · skip
        refine lv_iconst (v := (nI 0)) hx hb dX2_residueOver_15 (by decide) ?_
        refine lv_istore (lv' := [(7, .int (nI 0)), (6, .int (nI y)), (4, .double sy), (0, .ref aP), (1, .ref pS), (2, .double sq)]) hx hb dX2_residueOver_16 hl (by decide) rfl (fun ls hl => ?_)
        have L_18 : ∀ (n : Nat) (x : Nat) (sx : UInt64) (d0 : Drawn) (H : Heap) (locs : List Loc) (ls : Array Slot), iw - x < n → (x ≤ iw) → (zv sx = zres iw ih T R N S (zv de) (zv sq) (y * iw + x)) → s.drawn.sameBut d0 lw_cs → va_S (fun _ => False) s.heap H locs → lv_has ls 13 [(7, .int (nI x)), (6, .int (nI y)), (4, .double sx), (0, .ref aP), (1, .ref pS), (2, .double sq)] → W p l e (headSpec wsX2_residueOver ({ frames := 2, cells := 0, slots := 0, locals := 50 } : Room)).room (s.setDrawn d0) m ([.ref aP, .ref pS, .double sq] : List Value).toArray below meth c H locs 0 0 (MQD lw_cs below (va_Qd (fun (r : UInt64) (_ : Unit) => zv r = zres iw ih T R N S (zv de) (zv sq) (iw * ih)) (fun _ _ => True) (fun _ => False)) ([.ref aP, .ref pS, .double sq] : List Value).toArray s 0 0 (fun _ => False)) (F0 m 18 ls []) := by
          intro n
          induction n with
          | zero => intro x sx d0 H locs ls hn; exact absurd hn (Nat.not_lt_zero _)
          | succ n ih_L_18 =>
            intro x sx d0 H locs ls hn hxw hsx hd0 hS hl
            have hP := zro hP0 hS
            refine lv_iload hx hb dX2_residueOver_18 (lv_at hl 0 rfl) ?_
            refine lv_aload_n hx hb dX2_residueOver_20 rfl (lv_at hl 3 rfl) ?_
            refine va_get (D := (dC, dI)) (ci := 2) (v := .int (nI iw)) (C := RX2) (T := TX2) (N := 9) hx hb (dr_words hts d0) (in_X2_residueOver_X2) hown hK hP 0 rfl rfl 0 (by decide) (dr_words hts d0 (.fieldLink RX2 9 "PlateModes$Plate" "width" "I") (by decide +kernel)) (fun _ h9 => h9) rfl dX2_residueOver_21 ?_
            refine z_icmp_ge (a := x) (b := iw) (tgt := 111) hx hb (by omega) (by omega) dX2_residueOver_24 (by decide) (fun c3 => ?_) (fun c4 => ?_)
            · skip
              refine lv_iinc (v := nI (y + 1)) (lv' := [(6, .int (nI (y + 1))), (7, .int (nI x)), (4, .double sx), (0, .ref aP), (1, .ref pS), (2, .double sq)]) hx hb dX2_residueOver_111 hl (k := 1) rfl (show nI y + nI 1 = _ from zi_add (by omega)) (by decide) rfl (fun ls hl => ?_)
              refine lv_goto (tgt := 6) hx hb dX2_residueOver_114 (by decide) ?_
              exact ih_L_6 (y + 1) sx _ _ _ _ (by omega) (by omega) ((hsx).trans (congrArg (fun z => zres iw ih T R N S (zv de) (zv sq) z) (show y * iw + x = (y + 1) * iw from by rw [← zrow_end]; omega))) hd0 hS (lv_sub hl [0, 2, 3, 4, 5] rfl)
            · skip
              refine lv_aload_n hx hb dX2_residueOver_27 rfl (lv_at hl 3 rfl) ?_
              refine lv_iload hx hb dX2_residueOver_28 (lv_at hl 0 rfl) ?_
              refine lv_iload hx hb dX2_residueOver_30 (lv_at hl 1 rfl) ?_
              have hPc := hP.sub (ws' := [(aP, .inr (2, [.int (nI iw), .int (nI ih), .ref pT, .ref pR, .ref pN, .ref pB, .double al, .double ac, .double de])), (pT, .inl (cD, (iw * ih), .inr (.inr (.inr (.inl tT))))), (pR, .inl (cD, (iw * ih), .inr (.inr (.inr (.inl tR))))), (pN, .inl (cD, (iw * ih), .inr (.inr (.inr (.inl tN))))), (pB, .inr (0, [.ref bP, .ref bF, .ref bL, .ref bH, .int (nI nb)])), (bP, .inl (cI, 12, .inl uP)), (bF, .inl (cI, 12, .inl uF)), (bL, .inl (cI, 12, .inl uL)), (bH, .inl (cD, 12, .inr (.inr (.inr (.inl uH)))))]) [0, 1, 2, 3, 4, 5, 6, 7, 8] rfl
              refine va_calli (va_runV (As := [.int (nI x), .int (nI y)]) (rest := []) ⟨hx, hb, hml, hown, (dr_words hts d0)⟩ (c2_cellAt l dC dI aP pT pR pN pB bP bF bL bH cD cI cQ iw ih al ac de nb tT tR tN uP uF uL uH x y) (cwV 2 (dr_words hts d0) gX2_residueOver_X2_cellAt rfl rfl rfl (by decide +kernel) ⟨Nat.le_of_ble_eq_true rfl, Nat.le_of_ble_eq_true rfl⟩) ⟨zfb, va_recv hK hP (ci := 2) (q0 := 0) rfl rfl, zpre hPc hK⟩ rfl rfl hl.1 rfl (lv_room (Nat.le_of_ble_eq_true rfl)) dX2_residueOver_32 ⟨Nat.le_of_ble_eq_true rfl, Nat.le_of_ble_eq_true rfl⟩) hS (fun q _ h => h.elim) (fun q h => h.elim) (fun r5 u9 t9 H locs ht9 hvm9 hr5 hB9 hz9 hk1 hS => ?_)
              have hP := zro1 hP hk1
              subst hr5
              refine lv_istore (lv' := [(8, .int (nI (y * iw + x))), (7, .int (nI x)), (6, .int (nI y)), (4, .double sx), (0, .ref aP), (1, .ref pS), (2, .double sq)]) hx hb dX2_residueOver_35 hl (by decide) rfl (fun ls hl => ?_)
              refine lv_aload_n hx hb dX2_residueOver_37 rfl (lv_at hl 4 rfl) ?_
              refine lv_iload hx hb dX2_residueOver_38 (lv_at hl 0 rfl) ?_
              have hPc := hP.sub (ws' := [(aP, .inr (2, [.int (nI iw), .int (nI ih), .ref pT, .ref pR, .ref pN, .ref pB, .double al, .double ac, .double de])), (pT, .inl (cD, (iw * ih), .inr (.inr (.inr (.inl tT))))), (pR, .inl (cD, (iw * ih), .inr (.inr (.inr (.inl tR))))), (pN, .inl (cD, (iw * ih), .inr (.inr (.inr (.inl tN))))), (pB, .inr (0, [.ref bP, .ref bF, .ref bL, .ref bH, .int (nI nb)])), (bP, .inl (cI, 12, .inl uP)), (bF, .inl (cI, 12, .inl uF)), (bL, .inl (cI, 12, .inl uL)), (bH, .inl (cD, 12, .inr (.inr (.inr (.inl uH)))))]) [0, 1, 2, 3, 4, 5, 6, 7, 8] rfl
              refine va_calli (va_runV (As := [.int (nI (y * iw + x))]) (rest := []) ⟨hx, hb, hml, hown, (dr_words hts d0)⟩ (c2_hasWood l dC dI aP pT pR pN pB bP bF bL bH cD cI cQ iw ih al ac de nb tT tR tN uP uF uL uH hw6 hh6 (y * iw + x) (zrow (x := x) (y := y) (by omega) (by omega))) (cwV 1 (dr_words hts d0) gX2_residueOver_X2_hasWood rfl rfl rfl (by decide +kernel) ⟨Nat.le_of_ble_eq_true rfl, Nat.le_of_ble_eq_true rfl⟩) ⟨zfb, va_recv hK hP (ci := 2) (q0 := 0) rfl rfl, zpre hPc hK⟩ rfl rfl hl.1 rfl (lv_room (Nat.le_of_ble_eq_true rfl)) dX2_residueOver_40 ⟨Nat.le_of_ble_eq_true rfl, Nat.le_of_ble_eq_true rfl⟩) hS (fun q _ h => h.elim) (fun q h => h.elim) (fun r6 u9 t9 H locs ht9 hvm9 hr6 hB9 hz9 hk1 hS => ?_)
              have hP := zro1 hP hk1
              have hr6 : r6 = zb (zgt (T (y * iw + x)) z0) := by rw [hr6, show zv (tT (y * iw + x)) = T (y * iw + x) from gT _ (zrow (x := x) (y := y) (by omega) (by omega))]
              subst hr6
              have J_105 : ∀ (sw : UInt64) (d0 : Drawn) (H : Heap) (locs : List Loc) (ls : Array Slot), (zv sw = zres iw ih T R N S (zv de) (zv sq) (y * iw + x + 1)) → s.drawn.sameBut d0 lw_cs → va_S (fun _ => False) s.heap H locs → lv_has ls 13 [(7, .int (nI x)), (6, .int (nI y)), (4, .double sw), (0, .ref aP), (1, .ref pS), (2, .double sq)] → W p l e (headSpec wsX2_residueOver ({ frames := 2, cells := 0, slots := 0, locals := 50 } : Room)).room (s.setDrawn d0) m ([.ref aP, .ref pS, .double sq] : List Value).toArray below meth c H locs 0 0 (MQD lw_cs below (va_Qd (fun (r : UInt64) (_ : Unit) => zv r = zres iw ih T R N S (zv de) (zv sq) (iw * ih)) (fun _ _ => True) (fun _ => False)) ([.ref aP, .ref pS, .double sq] : List Value).toArray s 0 0 (fun _ => False)) (F0 m 105 ls []) := by
                intro sw d0 H locs ls hsw hd0 hS hl
                have hP := zro hP0 hS
                refine lv_iinc (v := nI (x + 1)) (lv' := [(7, .int (nI (x + 1))), (6, .int (nI y)), (4, .double sw), (0, .ref aP), (1, .ref pS), (2, .double sq)]) hx hb dX2_residueOver_105 hl (k := 0) rfl (show nI x + nI 1 = _ from zi_add (by omega)) (by decide) rfl (fun ls hl => ?_)
                refine lv_goto (tgt := 18) hx hb dX2_residueOver_108 (by decide) ?_
                exact ih_L_18 (x + 1) sw _ _ _ _ (by omega) (by omega) hsw hd0 hS hl
              refine z_if_eq_b (tgt := 105) hx hb dX2_residueOver_43 (by decide) (fun c7 => ?_) (fun c8 => ?_)
              · skip
                have cw := c7
                exact J_105 sx _ _ _ _ (hsx.trans (zres_f cw).symm) hd0 hS (lv_sub hl [1, 2, 3, 4, 5, 6] rfl)
              · skip
                have cw := c8
                refine lv_aload_n hx hb dX2_residueOver_46 rfl (lv_at hl 4 rfl) ?_
                refine lv_aload_n hx hb dX2_residueOver_47 rfl (lv_at hl 5 rfl) ?_
                refine lv_iload hx hb dX2_residueOver_48 (lv_at hl 1 rfl) ?_
                refine lv_iload hx hb dX2_residueOver_50 (lv_at hl 2 rfl) ?_
                have hPc := hP
                refine va_calldD hd0 (va_runV_D (As := [.ref pS, .int (nI x), .int (nI y)]) (rest := []) ⟨hx, hb, hml, hown, (dr_words hts d0)⟩ (c2_forceAt l dC dI pS aP pT pR pN pB bP bF bL bH cD cI cQ iw ih al ac de nb tS tT tR tN uP uF uL uH hw6 hh6 T R N gT gR gN S gS x y (by omega) (by omega)) (cwV 3 (dr_words hts d0) gX2_residueOver_X2_forceAt rfl rfl rfl (by decide +kernel) ⟨Nat.le_of_ble_eq_true rfl, Nat.le_of_ble_eq_true rfl⟩) ⟨zfbN, va_recv hK hP (ci := 2) (q0 := 0) rfl rfl, zpreN hPc hK (by first | exact hN | exact hN.sd)⟩ rfl rfl hl.1 rfl (lv_room (Nat.le_of_ble_eq_true rfl)) dX2_residueOver_52 ⟨Nat.le_of_ble_eq_true rfl, Nat.le_of_ble_eq_true rfl⟩) hS (fun q _ h => h.elim) (fun q h => h.elim) (fun r9 u9 t9 H locs ht9 hvm9 hr9 hB9 hz9 hk1 hS dhd10 hd10 => ?_)
                have hP := zro1 hP hk1
                refine lv_dload_n hx hb dX2_residueOver_55 rfl (lv_at hl 6 rfl) ?_
                refine lv_aload_n hx hb dX2_residueOver_56 rfl (lv_at hl 4 rfl) ?_
                refine lv_iload hx hb dX2_residueOver_57 (lv_at hl 0 rfl) ?_
                have hPc := hP.sub (ws' := [(aP, .inr (2, [.int (nI iw), .int (nI ih), .ref pT, .ref pR, .ref pN, .ref pB, .double al, .double ac, .double de])), (pT, .inl (cD, (iw * ih), .inr (.inr (.inr (.inl tT))))), (pR, .inl (cD, (iw * ih), .inr (.inr (.inr (.inl tR))))), (pN, .inl (cD, (iw * ih), .inr (.inr (.inr (.inl tN))))), (pB, .inr (0, [.ref bP, .ref bF, .ref bL, .ref bH, .int (nI nb)])), (bP, .inl (cI, 12, .inl uP)), (bF, .inl (cI, 12, .inl uF)), (bL, .inl (cI, 12, .inl uL)), (bH, .inl (cD, 12, .inr (.inr (.inr (.inl uH)))))]) [0, 1, 2, 3, 4, 5, 6, 7, 8] rfl
                refine va_calldD hd10 (va_runV_D (As := [.int (nI (y * iw + x))]) (rest := [.double sq, .double r9]) ⟨hx, hb, hml, hown, (dr_words hts dhd10)⟩ (c2_massOf l dC dI aP pT pR pN pB bP bF bL bH cD cI cQ iw ih al ac de nb tT tR tN uP uF uL uH hw6 hh6 (y * iw + x) (zrow (x := x) (y := y) (by omega) (by omega))) (cwV 1 (dr_words hts dhd10) gX2_residueOver_X2_massOf rfl rfl rfl (by decide +kernel) ⟨Nat.le_of_ble_eq_true rfl, Nat.le_of_ble_eq_true rfl⟩) ⟨zfb, va_recv hK hP (ci := 2) (q0 := 0) rfl rfl, zpre hPc hK⟩ rfl rfl hl.1 rfl (lv_room (Nat.le_of_ble_eq_true rfl)) dX2_residueOver_59 ⟨Nat.le_of_ble_eq_true rfl, Nat.le_of_ble_eq_true rfl⟩) hS (fun q _ h => h.elim) (fun q h => h.elim) (fun r11 u9 t9 H locs ht9 hvm9 hr11 hB9 hz9 hk1 hS dhd12 hd12 => ?_)
                have hP := zro1 hP hk1
                have hr11 : zv r11 = zM (T (y * iw + x)) (zv de) := by rw [hr11, show zv (tT (y * iw + x)) = T (y * iw + x) from gT _ (zrow (x := x) (y := y) (by omega) (by omega))]
                refine zr_dmul hd12 hx hb (a := zv sq) (b := zM (T (y * iw + x)) (zv de)) rfl hr11 dX2_residueOver_62 (fun r13 d14 hr13 hd14 => ?_)
                refine lv_aload_n hx hb dX2_residueOver_63 rfl (lv_at hl 5 rfl) ?_
                refine lv_iload hx hb dX2_residueOver_64 (lv_at hl 0 rfl) ?_
                refine z_dald (s := s.setDrawn d14) (n := (iw * ih)) (i := y * iw + x) hx hb hK hP 9 0 rfl rfl (zrow (x := x) (y := y) (by omega) (by omega)) (by omega) dX2_residueOver_66 ?_
                refine zr_dmul hd14 hx hb (a := zM (zv sq) (zM (T (y * iw + x)) (zv de))) (b := S (y * iw + x)) hr13 (gS _ (zrow (x := x) (y := y) (by omega) (by omega))) dX2_residueOver_67 (fun r15 d16 hr15 hd16 => ?_)
                refine zr_dadd hd16 hx hb (a := zforce iw ih R N S x y) (b := zM (zM (zv sq) (zM (T (y * iw + x)) (zv de))) (S (y * iw + x))) hr9 hr15 dX2_residueOver_68 (fun r17 d18 hr17 hd18 => ?_)
                refine lv_dstore (lv' := [(9, .double r17), (8, .int (nI (y * iw + x))), (7, .int (nI x)), (6, .int (nI y)), (4, .double sx), (0, .ref aP), (1, .ref pS), (2, .double sq)]) hx hb dX2_residueOver_69 hl (by decide) rfl (fun ls hl => ?_)
                have J_86 : ∀ (v2 : UInt64) (d0 : Drawn) (H : Heap) (locs : List Loc) (ls : Array Slot), (zv v2 = zresV iw ih T R N S (zv de) (zv sq) (y * iw + x) x y) → s.drawn.sameBut d0 lw_cs → va_S (fun _ => False) s.heap H locs → lv_has ls 13 [(8, .int (nI (y * iw + x))), (7, .int (nI x)), (6, .int (nI y)), (4, .double sx), (0, .ref aP), (1, .ref pS), (2, .double sq)] → W p l e (headSpec wsX2_residueOver ({ frames := 2, cells := 0, slots := 0, locals := 50 } : Room)).room (s.setDrawn d0) m ([.ref aP, .ref pS, .double sq] : List Value).toArray below meth c H locs 0 0 (MQD lw_cs below (va_Qd (fun (r : UInt64) (_ : Unit) => zv r = zres iw ih T R N S (zv de) (zv sq) (iw * ih)) (fun _ _ => True) (fun _ => False)) ([.ref aP, .ref pS, .double sq] : List Value).toArray s 0 0 (fun _ => False)) (F0 m 86 ls [.double v2]) := by
                  intro v2 d0 H locs ls hv2 hd0 hS hl
                  have hP := zro hP0 hS
                  refine lv_dstore (lv' := [(11, .double v2), (8, .int (nI (y * iw + x))), (7, .int (nI x)), (6, .int (nI y)), (4, .double sx), (0, .ref aP), (1, .ref pS), (2, .double sq)]) hx hb dX2_residueOver_86 hl (by decide) rfl (fun ls hl => ?_)
                  have J_103 : ∀ (sv : UInt64) (d0 : Drawn) (H : Heap) (locs : List Loc) (ls : Array Slot), (zv sv = zres iw ih T R N S (zv de) (zv sq) (y * iw + x + 1)) → s.drawn.sameBut d0 lw_cs → va_S (fun _ => False) s.heap H locs → lv_has ls 13 [(8, .int (nI (y * iw + x))), (7, .int (nI x)), (6, .int (nI y)), (4, .double sx), (0, .ref aP), (1, .ref pS), (2, .double sq)] → W p l e (headSpec wsX2_residueOver ({ frames := 2, cells := 0, slots := 0, locals := 50 } : Room)).room (s.setDrawn d0) m ([.ref aP, .ref pS, .double sq] : List Value).toArray below meth c H locs 0 0 (MQD lw_cs below (va_Qd (fun (r : UInt64) (_ : Unit) => zv r = zres iw ih T R N S (zv de) (zv sq) (iw * ih)) (fun _ _ => True) (fun _ => False)) ([.ref aP, .ref pS, .double sq] : List Value).toArray s 0 0 (fun _ => False)) (F0 m 103 ls [.double sv]) := by
                    intro sv d0 H locs ls hsv hd0 hS hl
                    have hP := zro hP0 hS
                    refine lv_dstore (lv' := [(4, .double sv), (8, .int (nI (y * iw + x))), (7, .int (nI x)), (6, .int (nI y)), (0, .ref aP), (1, .ref pS), (2, .double sq)]) hx hb dX2_residueOver_103 hl (by decide) rfl (fun ls hl => ?_)
                    exact J_105 sv _ _ _ _ hsv hd0 hS (lv_sub hl [2, 3, 0, 4, 5, 6] rfl)
                  refine lv_dload hx hb dX2_residueOver_88 (lv_at hl 0 rfl) ?_
                  refine lv_dload hx hb dX2_residueOver_90 (lv_at hl 4 rfl) ?_
                  refine z_cmp_l_le (tgt := 101) hx hb (a := zresV iw ih T R N S (zv de) (zv sq) (y * iw + x) x y) (b := zres iw ih T R N S (zv de) (zv sq) (y * iw + x)) hv2 hsx dX2_residueOver_92 dX2_residueOver_93 (by decide) (fun c19 => ?_) (fun c20 => ?_)
                  · skip
                    have cg := c19
                    refine lv_dload hx hb dX2_residueOver_101 (lv_at hl 4 rfl) ?_
                    exact J_103 sx _ _ _ _ (hsx.trans (zres_tf (by omega) cg).symm) hd0 hS (lv_sub hl [1, 2, 3, 4, 5, 6, 7] rfl)
                  · skip
                    have cg := c20
                    refine lv_dload hx hb dX2_residueOver_96 (lv_at hl 0 rfl) ?_
                    refine lv_goto (tgt := 103) hx hb dX2_residueOver_98 (by decide) ?_
                    exact J_103 v2 _ _ _ _ (hv2.trans (zres_tt (by omega) cw cg).symm) hd0 hS (lv_sub hl [1, 2, 3, 4, 5, 6, 7] rfl)
                refine lv_dload hx hb dX2_residueOver_71 (lv_at hl 0 rfl) ?_
                refine lv_dconst0 hx hb dX2_residueOver_73 ?_
                refine z_cmp_g_ge (tgt := 84) hx hb (a := zA (zforce iw ih R N S x y) (zM (zM (zv sq) (zM (T (y * iw + x)) (zv de))) (S (y * iw + x)))) (b := z0) hr17 rfl dX2_residueOver_74 dX2_residueOver_75 (by decide) (fun c21 => ?_) (fun c22 => ?_)
                · skip
                  have ca := c21
                  refine lv_dload hx hb dX2_residueOver_84 (lv_at hl 0 rfl) ?_
                  exact J_86 r17 _ _ _ _ (hr17.trans (zabs_f ca).symm) hd18 hS (lv_sub hl [1, 2, 3, 4, 5, 6, 7] rfl)
                · skip
                  have ca := c22
                  refine lv_dload hx hb dX2_residueOver_78 (lv_at hl 0 rfl) ?_
                  refine zr_dneg hx hb (a := zA (zforce iw ih R N S x y) (zM (zM (zv sq) (zM (T (y * iw + x)) (zv de))) (S (y * iw + x)))) hr17 dX2_residueOver_80 (fun r23 hr23 => ?_)
                  refine lv_goto (tgt := 86) hx hb dX2_residueOver_81 (by decide) ?_
                  exact J_86 r23 _ _ _ _ (hr23.trans (zabs_t ca).symm) hd18 hS (lv_sub hl [1, 2, 3, 4, 5, 6, 7] rfl)
        exact L_18 _ 0 sy _ _ _ _ (Nat.lt_succ_self _) (by omega) hsy hd0 hS hl
  exact L_6 _ 0 FP.dconst0 _ _ _ _ (Nat.lt_succ_self _) (by omega) (by rw [Nat.zero_mul]; rfl) hd0 hS hl
