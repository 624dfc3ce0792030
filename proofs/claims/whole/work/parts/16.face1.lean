/-! 16: the class: its face -/
theorem at_X4_requireMode_111 : ∀ w ∈ (vx_atS RX4 111 zIO zsups).filter goodWord, w ∈ wsX4_requireMode := fun w h => List.mem_cons_of_mem _ (List.mem_append_right _ h)
set_option maxHeartbeats 4000000 in
set_option maxRecDepth 100000 in
/-- requireMode -/
theorem c4_requireMode (l : Launch) (hst : l.stackTraces = false) (k : Int32) : vx_Met l yX4_requireMode wsX4_requireMode ({ frames := 6, cells := 1, slots := 6, locals := 90 } : Room) (va_Pc [.int k] (fun U => zXE (fun _ => False) U U.heap)) (va_Qv (fun _ : Unit => ¬ znmd k) (fun _ _ => True) (fun _ => False)) (vx_X (fun u : Nat => (u = 1 ∧ znmd k) ∧ ¬ u = 0) (fun E u t => E = zE [zIO] u) (fun _ => False)) 1 6 (fun _ => False) := by
  refine vx_ofW (cc := cX4_requireMode) (maxL := 1) (ret := none) (by decide) rfl ?_
  intro p e s m args below meth c s₁ B hml htab hv
  obtain ⟨rfl, hE⟩ := hv
  have hx := B.exec
  have hb := B.bytes
  have hr := B.returns
  have hts := atoms_spec (ws := wsX4_requireMode) B.pre
  have hown : s.vm.findClass RX4 = some m.cls := findClass_of_methodNamed B.named
  have hlocks := B.notSynchronized
  have hS : va_S (fun _ => False) s.heap s.heap [] := va_S.rf
  have hl := lv_entry ([.int k]) (n := 1) (Nat.le_of_ble_eq_true rfl)
  rw [lg_entry_eq]
  generalize (lg_sl ([.int k]) ++ List.replicate (1 - (lg_sl ([.int k])).length) Slot.unset).toArray = ls at hl ⊢
  have hl : lv_has ls 1 [(0, .int k)] := hl
  refine lv_iload_n hx hb dX4_requireMode_0 rfl (lv_at hl 0 rfl) ?_
  refine lv_if_lt (tgt := 9) hx hb dX4_requireMode_1 (by decide) (fun c1 => ?_) (fun c2 => ?_)
  · skip
    have hbad : znmd k := Or.inl c1
    exact z_throw (A := (fun _ => False)) (Ts := wsX4_requireMode) (cls := zIO) (text := "modes are 0 to 3") hx hb hst hown hts (by decide) (by decide +kernel) (by decide +kernel) at_X4_requireMode_111 (by decide +kernel) (by decide +kernel) (by decide +kernel) (by decide +kernel) (by first | exact hE | exact hE.sd) hS (hl.1.trans hml.symm) dX4_requireMode_9 dX4_requireMode_12 dX4_requireMode_13 dX4_requireMode_15 dX4_requireMode_18 htab (Nat.le_of_ble_eq_true rfl) (Nat.le_of_ble_eq_true rfl) (Nat.le_of_ble_eq_true rfl) (Nat.le_of_ble_eq_true rfl) hlocks (fun t ht1 ht2 ht3 => ⟨1, ⟨⟨rfl, hbad⟩, by decide⟩, rfl, zxF hS ht2 ht3⟩) hS.2.2 (Nat.le_of_ble_eq_true rfl) (Nat.le_of_ble_eq_true rfl)
  · skip
    have cn := c2
    refine lv_iload_n hx hb dX4_requireMode_4 rfl (lv_at hl 0 rfl) ?_
    refine lv_iconst (v := (nI 4)) hx hb dX4_requireMode_5 (by decide) ?_
    refine lv_icmp_lt (tgt := 19) hx hb dX4_requireMode_6 (by decide) (fun c3 => ?_) (fun c4 => ?_)
    · skip
      have cm := c3
      refine vx_ret ?_
      refine W.widen (k := 1) (n := 6) (Nat.le_of_ble_eq_true rfl) (Nat.le_of_ble_eq_true rfl) ?_
      exact W.vret hx hb hr (fun t ht hW => ⟨⟨(), rfl, ⟨fun q => q.elim cn (fun z => absurd cm (Int32.not_lt.mpr z)), trivial⟩⟩, hS.F ht⟩) hS.2.2 dX4_requireMode_19
    · skip
      have hbad : znmd k := Or.inr (Int32.not_lt.mp c4)
      exact z_throw (A := (fun _ => False)) (Ts := wsX4_requireMode) (cls := zIO) (text := "modes are 0 to 3") hx hb hst hown hts (by decide) (by decide +kernel) (by decide +kernel) at_X4_requireMode_111 (by decide +kernel) (by decide +kernel) (by decide +kernel) (by decide +kernel) (by first | exact hE | exact hE.sd) hS (hl.1.trans hml.symm) dX4_requireMode_9 dX4_requireMode_12 dX4_requireMode_13 dX4_requireMode_15 dX4_requireMode_18 htab (Nat.le_of_ble_eq_true rfl) (Nat.le_of_ble_eq_true rfl) (Nat.le_of_ble_eq_true rfl) (Nat.le_of_ble_eq_true rfl) hlocks (fun t ht1 ht2 ht3 => ⟨1, ⟨⟨rfl, hbad⟩, by decide⟩, rfl, zxF hS ht2 ht3⟩) hS.2.2 (Nat.le_of_ble_eq_true rfl) (Nat.le_of_ble_eq_true rfl)
theorem at_X4_requireRange_74 : ∀ w ∈ (vx_atS RX4 74 zIA zsups).filter goodWord, w ∈ wsX4_requireRange := fun w h => List.mem_cons_of_mem _ (List.mem_append_right _ h)
set_option maxHeartbeats 4000000 in
set_option maxRecDepth 100000 in
/-- requireRange -/
theorem c4_requireRange (l : Launch) (hst : l.stackTraces = false) (v lo hi : UInt64) : vx_Met l yX4_requireRange wsX4_requireRange ({ frames := 6, cells := 1, slots := 6, locals := 90 } : Room) (va_Pc [.double v, .double lo, .double hi] (fun U => zXE (fun _ => False) U U.heap)) (va_Qv (fun _ : Unit => zbt (zv v) (zv lo) (zv hi) = true) (fun _ _ => True) (fun _ => False)) (vx_X (fun u : Nat => (u = 1 ∧ zbt (zv v) (zv lo) (zv hi) = false) ∧ ¬ u = 0) (fun E u t => E = zE [zIA] u) (fun _ => False)) 1 6 (fun _ => False) := by
  refine vx_ofW (cc := cX4_requireRange) (maxL := 6) (ret := none) (by decide) rfl ?_
  intro p e s m args below meth c s₁ B hml htab hv
  obtain ⟨rfl, hE⟩ := hv
  have hx := B.exec
  have hb := B.bytes
  have hr := B.returns
  have hts := atoms_spec (ws := wsX4_requireRange) B.pre
  have hown : s.vm.findClass RX4 = some m.cls := findClass_of_methodNamed B.named
  have hlocks := B.notSynchronized
  have hS : va_S (fun _ => False) s.heap s.heap [] := va_S.rf
  have hl := lv_entry ([.double v, .double lo, .double hi]) (n := 6) (Nat.le_of_ble_eq_true rfl)
  rw [lg_entry_eq]
  generalize (lg_sl ([.double v, .double lo, .double hi]) ++ List.replicate (6 - (lg_sl ([.double v, .double lo, .double hi])).length) Slot.unset).toArray = ls at hl ⊢
  have hl : lv_has ls 6 [(0, .double v), (2, .double lo), (4, .double hi)] := hl
  refine lv_dload_n hx hb dX4_requireRange_0 rfl (lv_at hl 0 rfl) ?_
  refine lv_dload_n hx hb dX4_requireRange_1 rfl (lv_at hl 1 rfl) ?_
  refine z_cmp_l_lt (tgt := 13) hx hb (a := zv v) (b := zv lo) rfl rfl dX4_requireRange_2 dX4_requireRange_3 (by decide) (fun c1 => ?_) (fun c2 => ?_)
  · skip
    have hbad : zbt (zv v) (zv lo) (zv hi) = false := by unfold zbt; rw [c1]; rfl
    exact z_throw (A := (fun _ => False)) (Ts := wsX4_requireRange) (cls := zIA) (text := "a number is outside its bounds") hx hb hst hown hts (by decide) (by decide +kernel) (by decide +kernel) at_X4_requireRange_74 (by decide +kernel) (by decide +kernel) (by decide +kernel) (by decide +kernel) (by first | exact hE | exact hE.sd) hS (hl.1.trans hml.symm) dX4_requireRange_13 dX4_requireRange_16 dX4_requireRange_17 dX4_requireRange_19 dX4_requireRange_22 htab (Nat.le_of_ble_eq_true rfl) (Nat.le_of_ble_eq_true rfl) (Nat.le_of_ble_eq_true rfl) (Nat.le_of_ble_eq_true rfl) hlocks (fun t ht1 ht2 ht3 => ⟨1, ⟨⟨rfl, hbad⟩, by decide⟩, rfl, zxF hS ht2 ht3⟩) hS.2.2 (Nat.le_of_ble_eq_true rfl) (Nat.le_of_ble_eq_true rfl)
  · skip
    have cg := c2
    refine lv_dload_n hx hb dX4_requireRange_6 rfl (lv_at hl 0 rfl) ?_
    refine lv_dload hx hb dX4_requireRange_7 (lv_at hl 2 rfl) ?_
    refine z_cmp_g_le (tgt := 23) hx hb (a := zv v) (b := zv hi) rfl rfl dX4_requireRange_9 dX4_requireRange_10 (by decide) (fun c3 => ?_) (fun c4 => ?_)
    · skip
      have cl := c3
      refine vx_ret ?_
      refine W.widen (k := 1) (n := 6) (Nat.le_of_ble_eq_true rfl) (Nat.le_of_ble_eq_true rfl) ?_
      exact W.vret hx hb hr (fun t ht hW => ⟨⟨(), rfl, ⟨by unfold zbt; rw [cg, cl]; rfl, trivial⟩⟩, hS.F ht⟩) hS.2.2 dX4_requireRange_23
    · skip
      have hbad : zbt (zv v) (zv lo) (zv hi) = false := by unfold zbt; rw [cg, c4]; rfl
      exact z_throw (A := (fun _ => False)) (Ts := wsX4_requireRange) (cls := zIA) (text := "a number is outside its bounds") hx hb hst hown hts (by decide) (by decide +kernel) (by decide +kernel) at_X4_requireRange_74 (by decide +kernel) (by decide +kernel) (by decide +kernel) (by decide +kernel) (by first | exact hE | exact hE.sd) hS (hl.1.trans hml.symm) dX4_requireRange_13 dX4_requireRange_16 dX4_requireRange_17 dX4_requireRange_19 dX4_requireRange_22 htab (Nat.le_of_ble_eq_true rfl) (Nat.le_of_ble_eq_true rfl) (Nat.le_of_ble_eq_true rfl) (Nat.le_of_ble_eq_true rfl) hlocks (fun t ht1 ht2 ht3 => ⟨1, ⟨⟨rfl, hbad⟩, by decide⟩, rfl, zxF hS ht2 ht3⟩) hS.2.2 (Nat.le_of_ble_eq_true rfl) (Nat.le_of_ble_eq_true rfl)
theorem in_X4_requireCell_X4 : ∀ w ∈ wsX40, w ∈ wsX4_requireCell := fun w h => List.mem_cons_of_mem _ (List.mem_append_left _ (List.mem_append_left _ (List.mem_append_right _ h)))
theorem at_X4_requireCell_111 : ∀ w ∈ (vx_atS RX4 111 zIO zsups).filter goodWord, w ∈ wsX4_requireCell := fun w h => List.mem_cons_of_mem _ (List.mem_append_right _ h)
set_option maxHeartbeats 4000000 in
set_option maxRecDepth 100000 in
/-- requireCell -/
theorem c4_requireCell (l : Launch) (hst : l.stackTraces = false) (dC : Nat → ClassId) (dI : Nat → Nat → Nat) (aC aM aK aW aP pT pR pN pB bP bF bL bH : Nat) (cD cI cQ : ClassId) (iw ih : Nat) (al ac de : UInt64) (nb : Nat) (tT tR tN : Nat → UInt64) (uP uF uL : Nat → Int32) (uH : Nat → UInt64) (x y : Int32) : vx_Met l yX4_requireCell wsX4_requireCell ({ frames := 6, cells := 1, slots := 6, locals := 90 } : Room) (va_Pc [.ref aC, .int x, .int y] (fun U => va_P (dC, dI) vwCl [(aC, .inr (4, [.ref aP, .ref aM, .ref aK, .ref aW])), (aP, .inr (2, [.int (nI iw), .int (nI ih), .ref pT, .ref pR, .ref pN, .ref pB, .double al, .double ac, .double de])), (pT, .inl (cD, (iw * ih), .inr (.inr (.inr (.inl tT))))), (pR, .inl (cD, (iw * ih), .inr (.inr (.inr (.inl tR))))), (pN, .inl (cD, (iw * ih), .inr (.inr (.inr (.inl tN))))), (pB, .inr (0, [.ref bP, .ref bF, .ref bL, .ref bH, .int (nI nb)])), (bP, .inl (cI, 12, .inl uP)), (bF, .inl (cI, 12, .inl uF)), (bL, .inl (cI, 12, .inl uL)), (bH, .inl (cD, 12, .inr (.inr (.inr (.inl uH)))))] U.heap ∧ va_K (dC, dI) vwCl [(cD, .double), (cI, .int), (cQ, .array .double)] U ∧ zNw U ∧ zXE (fun _ => False) U U.heap)) (va_Qv (fun _ : Unit => ¬ zncl iw ih x y) (fun _ _ => True) (fun _ => False)) (vx_X (fun u : Nat => (u = 1 ∧ zncl iw ih x y) ∧ ¬ u = 0) (fun E u t => E = zE [zIO] u) (fun _ => False)) 1 6 (fun _ => False) := by
  refine vx_ofW (cc := cX4_requireCell) (maxL := 3) (ret := none) (by decide) rfl ?_
  intro p e s m args below meth c s₁ B hml htab hv
  obtain ⟨rfl, hP0, hK, hN, hE⟩ := hv
  have hx := B.exec
  have hb := B.bytes
  have hr := B.returns
  have hts := atoms_spec (ws := wsX4_requireCell) B.pre
  have hown : s.vm.findClass RX4 = some m.cls := findClass_of_methodNamed B.named
  have hlocks := B.notSynchronized
  have hS : va_S (fun _ => False) s.heap s.heap [] := va_S.rf
  have hP := hP0
  have hl := lv_entry ([.ref aC, .int x, .int y]) (n := 3) (Nat.le_of_ble_eq_true rfl)
  rw [lg_entry_eq]
  generalize (lg_sl ([.ref aC, .int x, .int y]) ++ List.replicate (3 - (lg_sl ([.ref aC, .int x, .int y])).length) Slot.unset).toArray = ls at hl ⊢
  have hl : lv_has ls 3 [(0, .ref aC), (1, .int x), (2, .int y)] := hl
  refine lv_aload_n hx hb dX4_requireCell_0 rfl (lv_at hl 0 rfl) ?_
  refine va_get (D := (dC, dI)) (ci := 4) (v := .ref aP) (C := RX4) (T := TX4) (N := 4) hx hb hts (in_X4_requireCell_X4) hown hK hP 0 rfl rfl 0 (by decide) (hts (.fieldLink RX4 18 "PlateModes" "plate" "LPlateModes$Plate;") (by decide +kernel)) (fun _ h9 => h9) rfl dX4_requireCell_1 ?_
  refine lv_iload_n hx hb dX4_requireCell_4 rfl (lv_at hl 1 rfl) ?_
  refine lv_iload_n hx hb dX4_requireCell_5 rfl (lv_at hl 2 rfl) ?_
  have hPc := hP.sub (ws' := [(aP, .inr (2, [.int (nI iw), .int (nI ih), .ref pT, .ref pR, .ref pN, .ref pB, .double al, .double ac, .double de])), (pT, .inl (cD, (iw * ih), .inr (.inr (.inr (.inl tT))))), (pR, .inl (cD, (iw * ih), .inr (.inr (.inr (.inl tR))))), (pN, .inl (cD, (iw * ih), .inr (.inr (.inr (.inl tN))))), (pB, .inr (0, [.ref bP, .ref bF, .ref bL, .ref bH, .int (nI nb)])), (bP, .inl (cI, 12, .inl uP)), (bF, .inl (cI, 12, .inl uF)), (bL, .inl (cI, 12, .inl uL)), (bH, .inl (cD, 12, .inr (.inr (.inr (.inl uH)))))]) [1, 2, 3, 4, 5, 6, 7, 8, 9] rfl
  refine va_calli (va_runV (As := [.int x, .int y]) (rest := []) ⟨hx, hb, hml, hown, hts⟩ (c2_hasCell l dC dI aP pT pR pN pB bP bF bL bH cD cI cQ iw ih al ac de nb tT tR tN uP uF uL uH x y) (cwV 2 hts gX4_requireCell_X2_hasCell rfl rfl rfl (by decide +kernel) ⟨Nat.le_of_ble_eq_true rfl, Nat.le_of_ble_eq_true rfl⟩) ⟨zfb, va_recv hK hP (ci := 2) (q0 := 1) rfl rfl, zpre hPc hK⟩ rfl rfl hl.1 rfl (lv_room (Nat.le_of_ble_eq_true rfl)) dX4_requireCell_6 ⟨Nat.le_of_ble_eq_true rfl, Nat.le_of_ble_eq_true rfl⟩) hS (fun q _ h => h.elim) (fun q h => h.elim) (fun r1 u9 t9 H locs ht9 hvm9 hr1 hB9 hz9 hk1 hS => ?_)
  have hP := zro1 hP hk1
  subst hr1
  refine z_if_ne_p (tgt := 22) hx hb (¬ zncl iw ih x y) dX4_requireCell_9 (by decide) (fun c2 => ?_) (fun c3 => ?_)
  · skip
    have hok := c2
    refine vx_ret ?_
    refine W.widen (k := 1) (n := 6) (Nat.le_of_ble_eq_true rfl) (Nat.le_of_ble_eq_true rfl) ?_
    exact W.vret hx hb hr (fun t ht hW => ⟨⟨(), rfl, ⟨hok, trivial⟩⟩, hS.F ht⟩) hS.2.2 dX4_requireCell_22
  · skip
    have hbad : zncl iw ih x y := Classical.byContradiction c3
    exact z_throw (A := (fun _ => False)) (Ts := wsX4_requireCell) (cls := zIO) (text := "there is no such cell") hx hb hst hown hts (by decide) (by decide +kernel) (by decide +kernel) at_X4_requireCell_111 (by decide +kernel) (by decide +kernel) (by decide +kernel) (by decide +kernel) (by first | exact hE | exact hE.sd) hS (hl.1.trans hml.symm) dX4_requireCell_12 dX4_requireCell_15 dX4_requireCell_16 dX4_requireCell_18 dX4_requireCell_21 htab (Nat.le_of_ble_eq_true rfl) (Nat.le_of_ble_eq_true rfl) (Nat.le_of_ble_eq_true rfl) (Nat.le_of_ble_eq_true rfl) hlocks (fun t ht1 ht2 ht3 => ⟨1, ⟨⟨rfl, hbad⟩, by decide⟩, rfl, zxF hS ht2 ht3⟩) hS.2.2 (Nat.le_of_ble_eq_true rfl) (Nat.le_of_ble_eq_true rfl)
theorem in_X4_requireMade_X4 : ∀ w ∈ wsX40, w ∈ wsX4_requireMade := fun w h => List.mem_cons_of_mem _ (List.mem_append_left _ (List.mem_append_left _ (List.mem_append_right _ h)))
theorem at_X4_requireMade_85 : ∀ w ∈ (vx_atS RX4 85 zIS zsups).filter goodWord, w ∈ wsX4_requireMade := fun w h => List.mem_cons_of_mem _ (List.mem_append_right _ h)
set_option maxHeartbeats 4000000 in
set_option maxRecDepth 100000 in
/-- requireMade -/
theorem c4_requireMade (l : Launch) (hst : l.stackTraces = false) (dC : Nat → ClassId) (dI : Nat → Nat → Nat) (aC aK aW aP aM aQ mS mR mT : Nat) (cD cI cQ : ClassId) (im : Nat) (k : Int32) : vx_Met l yX4_requireMade wsX4_requireMade ({ frames := 6, cells := 1, slots := 6, locals := 90 } : Room) (va_Pc [.ref aC, .int k] (fun U => va_P (dC, dI) vwCl [(aC, .inr (4, [.ref aP, .ref aM, .ref aK, .ref aW])), (aM, .inr (1, [.ref aP, .ref aQ, .ref mS, .ref mR, .ref mT, .int (nI im)]))] U.heap ∧ va_K (dC, dI) vwCl [(cD, .double), (cI, .int), (cQ, .array .double)] U ∧ zNw U ∧ zXE (fun _ => False) U U.heap)) (va_Qv (fun _ : Unit => k < nI im) (fun _ _ => True) (fun _ => False)) (vx_X (fun u : Nat => (u = 1 ∧ ¬ k < nI im) ∧ ¬ u = 0) (fun E u t => E = zE [zIS] u) (fun _ => False)) 1 6 (fun _ => False) := by
  refine vx_ofW (cc := cX4_requireMade) (maxL := 2) (ret := none) (by decide) rfl ?_
  intro p e s m args below meth c s₁ B hml htab hv
  obtain ⟨rfl, hP0, hK, hN, hE⟩ := hv
  have hx := B.exec
  have hb := B.bytes
  have hr := B.returns
  have hts := atoms_spec (ws := wsX4_requireMade) B.pre
  have hown : s.vm.findClass RX4 = some m.cls := findClass_of_methodNamed B.named
  have hlocks := B.notSynchronized
  have hS : va_S (fun _ => False) s.heap s.heap [] := va_S.rf
  have hP := hP0
  have hl := lv_entry ([.ref aC, .int k]) (n := 2) (Nat.le_of_ble_eq_true rfl)
  rw [lg_entry_eq]
  generalize (lg_sl ([.ref aC, .int k]) ++ List.replicate (2 - (lg_sl ([.ref aC, .int k])).length) Slot.unset).toArray = ls at hl ⊢
  have hl : lv_has ls 2 [(0, .ref aC), (1, .int k)] := hl
  refine lv_iload_n hx hb dX4_requireMade_0 rfl (lv_at hl 1 rfl) ?_
  refine lv_aload_n hx hb dX4_requireMade_1 rfl (lv_at hl 0 rfl) ?_
  refine va_get (D := (dC, dI)) (ci := 4) (v := .ref aM) (C := RX4) (T := TX4) (N := 4) hx hb hts (in_X4_requireMade_X4) hown hK hP 0 rfl rfl 1 (by decide) (hts (.fieldLink RX4 27 "PlateModes" "made" "LPlateModes$ModeSet;") (by decide +kernel)) (fun _ h9 => h9) rfl dX4_requireMade_2 ?_
  have hPc := hP.sub (ws' := [(aM, .inr (1, [.ref aP, .ref aQ, .ref mS, .ref mR, .ref mT, .int (nI im)]))]) [1] rfl
  refine va_calli (va_runV (As := []) (rest := [.int k]) ⟨hx, hb, hml, hown, hts⟩ (c1_count l dC dI aM aP aQ mS mR mT cD cI cQ im) (cwV 0 hts gX4_requireMade_X1_count rfl rfl rfl (by decide +kernel) ⟨Nat.le_of_ble_eq_true rfl, Nat.le_of_ble_eq_true rfl⟩) ⟨zfb, va_recv hK hP (ci := 1) (q0 := 1) rfl rfl, zpre hPc hK⟩ rfl rfl hl.1 rfl (lv_room (Nat.le_of_ble_eq_true rfl)) dX4_requireMade_5 ⟨Nat.le_of_ble_eq_true rfl, Nat.le_of_ble_eq_true rfl⟩) hS (fun q _ h => h.elim) (fun q h => h.elim) (fun r1 u9 t9 H locs ht9 hvm9 hr1 hB9 hz9 hk1 hS => ?_)
  have hP := zro1 hP hk1
  subst hr1
  refine lv_icmp_lt (tgt := 21) hx hb dX4_requireMade_8 (by decide) (fun c2 => ?_) (fun c3 => ?_)
  · skip
    have hok := c2
    refine vx_ret ?_
    refine W.widen (k := 1) (n := 6) (Nat.le_of_ble_eq_true rfl) (Nat.le_of_ble_eq_true rfl) ?_
    exact W.vret hx hb hr (fun t ht hW => ⟨⟨(), rfl, ⟨hok, trivial⟩⟩, hS.F ht⟩) hS.2.2 dX4_requireMade_21
  · skip
    have hbad := c3
    exact z_throw (A := (fun _ => False)) (Ts := wsX4_requireMade) (cls := zIS) (text := "that mode is not made for the plate as it is") hx hb hst hown hts (by decide) (by decide +kernel) (by decide +kernel) at_X4_requireMade_85 (by decide +kernel) (by decide +kernel) (by decide +kernel) (by decide +kernel) (by first | exact hE | exact hE.sd) hS (hl.1.trans hml.symm) dX4_requireMade_11 dX4_requireMade_14 dX4_requireMade_15 dX4_requireMade_17 dX4_requireMade_20 htab (Nat.le_of_ble_eq_true rfl) (Nat.le_of_ble_eq_true rfl) (Nat.le_of_ble_eq_true rfl) (Nat.le_of_ble_eq_true rfl) hlocks (fun t ht1 ht2 ht3 => ⟨1, ⟨⟨rfl, hbad⟩, by decide⟩, rfl, zxF hS ht2 ht3⟩) hS.2.2 (Nat.le_of_ble_eq_true rfl) (Nat.le_of_ble_eq_true rfl)
