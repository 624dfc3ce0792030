/-! 09: the reference: its face -/
theorem in_X5_thrown_X5 : ∀ w ∈ wsX50, w ∈ wsX5_thrown := fun w h => List.mem_cons_of_mem _ (List.mem_append_right _ h)
set_option maxHeartbeats 4000000 in
set_option maxRecDepth 100000 in
/-- thrown() -/
theorem c5_thrown (l : Launch) (dC : Nat → ClassId) (dI : Nat → Nat → Nat) (a0 aT aE aG aR aN aS aQ aW aX : Nat) (cD cI : ClassId) (th : Int32) (iw ih : Nat) (fa fb fd : UInt64) (ib : Nat) (mk : Bool) (im iq : Nat) (tT : Nat → UInt64) (tE : Nat → Int32) (tG tR tN tS tQ : Nat → UInt64) (tW : Nat → Int32) (tX : Nat → UInt64) : Met l yX5_thrown wsX5_thrown ({ frames := 0, cells := 0, slots := 0, locals := 0 } : Room) (va_Pc [.ref a0] (fun U => va_P (dC, dI) vwCl (w5 a0 aT aE aG aR aN aS aQ aW aX cD cI th iw ih fa fb fd ib mk im iq tT tE tG tR tN tS tQ tW tX) U.heap ∧ va_K (dC, dI) vwCl [(cD, .double), (cI, .int)] U)) (va_Qi (fun (r : Int32) (_ : Unit) => r = th) (fun _ _ => True) (fun _ => False)) 0 0 (fun _ => False) := by
  refine Met.ofW (cc := cX5_thrown) (maxL := 1) (ret := (some .int)) (by decide) rfl ?_
  intro p e s m args below meth c s₁ B hml hv
  obtain ⟨rfl, hP0, hK⟩ := hv
  have hx := B.exec
  have hb := B.bytes
  have hr := B.returns
  have hts := atoms_spec (ws := wsX5_thrown) B.pre
  have hown : s.vm.findClass RX5 = some m.cls := findClass_of_methodNamed B.named
  have hlocks := B.notSynchronized
  have hS : va_S (fun _ => False) s.heap s.heap [] := va_S.rf
  have hP := hP0
  have hl := lv_entry ([.ref a0]) (n := 1) (Nat.le_of_ble_eq_true rfl)
  rw [lg_entry_eq]
  generalize (lg_sl ([.ref a0]) ++ List.replicate (1 - (lg_sl ([.ref a0])).length) Slot.unset).toArray = ls at hl ⊢
  have hl : lv_has ls 1 [(0, .ref a0)] := hl
  refine lv_aload_n hx hb dX5_thrown_0 rfl (lv_at hl 0 rfl) ?_
  refine va_get (D := (dC, dI)) (ci := 5) (v := .int th) (C := RX5) (T := TX5) (N := 19) hx hb hts (in_X5_thrown_X5) hown hK hP 0 rfl rfl 0 (by decide) (hts (.fieldLink RX5 55 "PlateModesModel" "thrown" "I") (by decide +kernel)) (fun _ h9 => h9) rfl dX5_thrown_1 ?_
  exact W.iret (v := th) hx hb hr (fun t ht hW => ⟨⟨th, (), rfl, ⟨rfl, trivial⟩⟩, hS.F ht⟩) hS.2.2 dX5_thrown_4
theorem in_X5_wood_X5 : ∀ w ∈ wsX50, w ∈ wsX5_wood := fun w h => List.mem_cons_of_mem _ (List.mem_append_right _ h)
set_option maxHeartbeats 4000000 in
set_option maxRecDepth 100000 in
/-- wood -/
theorem c5_wood (l : Launch) (dC : Nat → ClassId) (dI : Nat → Nat → Nat) (a0 aT aE aG aR aN aS aQ aW aX : Nat) (cD cI : ClassId) (th : Int32) (iw ih : Nat) (fa fb fd : UInt64) (ib : Nat) (mk : Bool) (im iq : Nat) (tT : Nat → UInt64) (tE : Nat → Int32) (tG tR tN tS tQ : Nat → UInt64) (tW : Nat → Int32) (tX : Nat → UInt64) (x y : Int32) (v : UInt64) (hw6 : iw ≤ 6) (hh6 : ih ≤ 6) (sz : Nat) : Met l yX5_wood wsX5_wood ({ frames := 1, cells := 0, slots := 0, locals := 25 } : Room) (va_Pc [.ref a0, .int x, .int y, .double v] (fun U => U.heap.size = sz ∧ va_P (dC, dI) vwCl (w5 a0 aT aE aG aR aN aS aQ aW aX cD cI th iw ih fa fb fd ib mk im iq tT tE tG tR tN tS tQ tW tX) U.heap ∧ va_K (dC, dI) vwCl [(cD, .double), (cI, .int)] U ∧ va_D (fun _ => True) (w5 a0 aT aE aG aR aN aS aQ aW aX cD cI th iw ih fa fb fd ib mk im iq tT tE tG tR tN tS tQ tW tX))) (va_Qi (fun (r : Int32) (u : Int32 × (Nat → UInt64) × Bool) => u.1 = nI (zcW iw ih x y (zv v)) ∧ (zcW iw ih x y (zv v) = 0 → r = zb (!zeq (zv (tT (6 * zn y + zn x))) (zv v)) ∧ u.2.1 = zu tT (6 * zn y + zn x) v ∧ u.2.2 = (mk && !(!zeq (zv (tT (6 * zn y + zn x))) (zv v)))) ∧ (¬ zcW iw ih x y (zv v) = 0 → u.2.1 = tT ∧ u.2.2 = mk)) (fun u t => (va_P (dC, dI) vwCl (w5 a0 aT aE aG aR aN aS aQ aW aX cD cI u.1 iw ih fa fb fd ib u.2.2 im iq u.2.1 tE tG tR tN tS tQ tW tX) t.heap ∧ va_K (dC, dI) vwCl [(cD, .double), (cI, .int)] t ∧ va_D (va_A (w5 a0 aT aE aG aR aN aS aQ aW aX cD cI th iw ih fa fb fd ib mk im iq tT tE tG tR tN tS tQ tW tX) sz) (w5 a0 aT aE aG aR aN aS aQ aW aX cD cI u.1 iw ih fa fb fd ib u.2.2 im iq u.2.1 tE tG tR tN tS tQ tW tX))) (va_A (w5 a0 aT aE aG aR aN aS aQ aW aX cD cI th iw ih fa fb fd ib mk im iq tT tE tG tR tN tS tQ tW tX) sz)) 0 0 (va_A (w5 a0 aT aE aG aR aN aS aQ aW aX cD cI th iw ih fa fb fd ib mk im iq tT tE tG tR tN tS tQ tW tX) sz) := by
  refine Met.ofW (cc := cX5_wood) (maxL := 6) (ret := (some .boolean)) (by decide) rfl ?_
  intro p e s m args below meth c s₁ B hml hv
  obtain ⟨rfl, hsz, hP, hK, hD0⟩ := hv
  have hx := B.exec
  have hb := B.bytes
  have hr := B.returns
  have hts := atoms_spec (ws := wsX5_wood) B.pre
  have hown : s.vm.findClass RX5 = some m.cls := findClass_of_methodNamed B.named
  have hlocks := B.notSynchronized
  subst hsz
  have hD := hD0.self (sz := s.heap.size)
  generalize hAe : va_A (w5 a0 aT aE aG aR aN aS aQ aW aX cD cI th iw ih fa fb fd ib mk im iq tT tE tG tR tN tS tQ tW tX) s.heap.size = A at hD ⊢
  have hA : ∀ q : Nat, s.heap.size ≤ q → A q := fun q h => by rw [← hAe]; exact Or.inr h
  have hS : va_S A s.heap s.heap [] := va_S.rf
  have hl := lv_entry ([.ref a0, .int x, .int y, .double v]) (n := 6) (Nat.le_of_ble_eq_true rfl)
  rw [lg_entry_eq]
  generalize (lg_sl ([.ref a0, .int x, .int y, .double v]) ++ List.replicate (6 - (lg_sl ([.ref a0, .int x, .int y, .double v])).length) Slot.unset).toArray = ls at hl ⊢
  have hl : lv_has ls 6 [(0, .ref a0), (1, .int x), (2, .int y), (3, .double v)] := hl
  refine lv_aload_n hx hb dX5_wood_0 rfl (lv_at hl 0 rfl) ?_
  refine lv_aload_n hx hb dX5_wood_1 rfl (lv_at hl 0 rfl) ?_
  refine lv_iload_n hx hb dX5_wood_2 rfl (lv_at hl 1 rfl) ?_
  refine lv_iload_n hx hb dX5_wood_3 rfl (lv_at hl 2 rfl) ?_
  have hPc := hP
  refine va_calli (va_runV (As := [.int x, .int y]) (rest := [.ref a0]) ⟨hx, hb, hml, hown, hts⟩ (c5_noCell l dC dI a0 aT aE aG aR aN aS aQ aW aX cD cI th iw ih fa fb fd ib mk im iq tT tE tG tR tN tS tQ tW tX x y) (cwV 2 hts gX5_wood_X5_noCell rfl rfl rfl (by decide +kernel) ⟨Nat.le_of_ble_eq_true rfl, Nat.le_of_ble_eq_true rfl⟩) ⟨zfb, va_recv hK hP (ci := 5) (q0 := 0) rfl rfl, zpre hPc hK⟩ rfl rfl hl.1 rfl (lv_room (Nat.le_of_ble_eq_true rfl)) dX5_wood_4 ⟨Nat.le_of_ble_eq_true rfl, Nat.le_of_ble_eq_true rfl⟩) hS (fun q _ h => h.elim) (fun q h => h.elim) (fun r1 u9 t9 H locs ht9 hvm9 hr1 hB9 hz9 hk1 hS => ?_)
  have hP := zro1 hP hk1
  subst hr1
  refine z_if_eq_p (tgt := 14) hx hb (zncl iw ih x y) dX5_wood_7 (by decide) (fun c2 => ?_) (fun c3 => ?_)
  · skip
    have c_7 := c2
    obtain ⟨xn, yn, hxw, hyh, rfl, rfl⟩ := zcl_of hw6 hh6 c2
    refine lv_dload_n hx hb dX5_wood_14 rfl (lv_at hl 3 rfl) ?_
    refine lv_dconst0 hx hb dX5_wood_15 ?_
    refine z_cmp_l_eq (tgt := 33) hx hb (a := zv v) (b := z0) rfl rfl dX5_wood_16 dX5_wood_17 (by decide) (fun c4 => ?_) (fun c5 => ?_)
    · skip
      have c_16 := c4
      refine lv_iconst (v := (nI 0)) hx hb dX5_wood_33 (by decide) ?_
      refine lv_goto (tgt := 38) hx hb dX5_wood_34 (by decide) ?_
      refine va_put (D := (dC, dI)) (ci := 5) (v := .int (nI 0)) (ty := .int) (C := RX5) (T := TX5) (N := 19) hx hb hts (in_X5_wood_X5) tyX5 tyX5_ok nmX5 hown hK hP hD hS 0 rfl rfl 0 (by decide) (hts (.fieldLink RX5 55 "PlateModesModel" "thrown" "I") (by decide +kernel)) (fun _ h9 => h9) rfl (by decide +kernel) rfl rfl (Nat.le_of_ble_eq_true rfl) dX5_wood_38 (fun H locs hP hD hS => ?_)
      have hP : va_P (dC, dI) vwCl (w5 a0 aT aE aG aR aN aS aQ aW aX cD cI (nI 0) iw ih fa fb fd ib mk im iq tT tE tG tR tN tS tQ tW tX) H := hP
      have hD : va_D A (w5 a0 aT aE aG aR aN aS aQ aW aX cD cI (nI 0) iw ih fa fb fd ib mk im iq tT tE tG tR tN tS tQ tW tX) := hD
      refine lv_aload_n hx hb dX5_wood_41 rfl (lv_at hl 0 rfl) ?_
      refine va_get (D := (dC, dI)) (ci := 5) (v := .int (nI 0)) (C := RX5) (T := TX5) (N := 19) hx hb hts (in_X5_wood_X5) hown hK hP 0 rfl rfl 0 (by decide) (hts (.fieldLink RX5 55 "PlateModesModel" "thrown" "I") (by decide +kernel)) (fun _ h9 => h9) rfl dX5_wood_42 ?_
      refine z_if_le (tgt := 50) hx hb (by omega) dX5_wood_45 (by decide) (fun c6 => ?_) (fun c7 => ?_)
      · skip
        refine lv_aload_n hx hb dX5_wood_50 rfl (lv_at hl 0 rfl) ?_
        refine va_get (D := (dC, dI)) (ci := 5) (v := .ref aT) (C := RX5) (T := TX5) (N := 19) hx hb hts (in_X5_wood_X5) hown hK hP 0 rfl rfl 3 (by decide) (hts (.fieldLink RX5 7 "PlateModesModel" "thicks" "[D") (by decide +kernel)) (fun _ h9 => h9) rfl dX5_wood_51 ?_
        refine lv_bipush (v := (nI 6)) hx hb dX5_wood_54 (by decide) ?_
        refine lv_iload_n hx hb dX5_wood_56 rfl (lv_at hl 2 rfl) ?_
        refine t_imul hx hb dX5_wood_57 (v := nI (6 * yn)) (zi_mul rfl) ?_
        refine lv_iload_n hx hb dX5_wood_58 rfl (lv_at hl 1 rfl) ?_
        refine t_iadd hx hb dX5_wood_59 (v := nI (6 * yn + xn)) (zi_add (by omega)) ?_
        refine z_dald (n := 36) (i := 6 * yn + xn) hx hb hK hP 1 0 rfl rfl (by omega) (by decide) dX5_wood_60 ?_
        refine lv_dload_n hx hb dX5_wood_61 rfl (lv_at hl 3 rfl) ?_
        refine z_cmp_l_eq (tgt := 70) hx hb (a := zv (tT (6 * yn + xn))) (b := zv v) rfl rfl dX5_wood_62 dX5_wood_63 (by decide) (fun c8 => ?_) (fun c9 => ?_)
        · skip
          have c_62 := c8
          refine lv_iconst (v := (nI 0)) hx hb dX5_wood_70 (by decide) ?_
          refine lv_istore (lv' := [(5, .int (nI 0)), (0, .ref a0), (1, .int (nI xn)), (2, .int (nI yn)), (3, .double v)]) hx hb dX5_wood_71 hl (by decide) rfl (fun ls hl => ?_)
          refine lv_aload_n hx hb dX5_wood_73 rfl (lv_at hl 1 rfl) ?_
          refine va_get (D := (dC, dI)) (ci := 5) (v := .ref aT) (C := RX5) (T := TX5) (N := 19) hx hb hts (in_X5_wood_X5) hown hK hP 0 rfl rfl 3 (by decide) (hts (.fieldLink RX5 7 "PlateModesModel" "thicks" "[D") (by decide +kernel)) (fun _ h9 => h9) rfl dX5_wood_74 ?_
          refine lv_bipush (v := (nI 6)) hx hb dX5_wood_77 (by decide) ?_
          refine lv_iload_n hx hb dX5_wood_79 rfl (lv_at hl 3 rfl) ?_
          refine t_imul hx hb dX5_wood_80 (v := nI (6 * yn)) (zi_mul rfl) ?_
          refine lv_iload_n hx hb dX5_wood_81 rfl (lv_at hl 2 rfl) ?_
          refine t_iadd hx hb dX5_wood_82 (v := nI (6 * yn + xn)) (zi_add (by omega)) ?_
          refine lv_dload_n hx hb dX5_wood_83 rfl (lv_at hl 4 rfl) ?_
          refine z_dast (n := 36) (i := 6 * yn + xn) hx hb hK hP hD hS 1 0 rfl rfl (by omega) (by decide) dX5_wood_84 (fun H locs hP hD hS => ?_)
          have hP : va_P (dC, dI) vwCl (w5 a0 aT aE aG aR aN aS aQ aW aX cD cI (nI 0) iw ih fa fb fd ib mk im iq (zu tT (6 * yn + xn) v) tE tG tR tN tS tQ tW tX) H := hP
          have hD : va_D A (w5 a0 aT aE aG aR aN aS aQ aW aX cD cI (nI 0) iw ih fa fb fd ib mk im iq (zu tT (6 * yn + xn) v) tE tG tR tN tS tQ tW tX) := hD
          refine lv_aload_n hx hb dX5_wood_85 rfl (lv_at hl 1 rfl) ?_
          refine lv_aload_n hx hb dX5_wood_86 rfl (lv_at hl 1 rfl) ?_
          refine va_get (D := (dC, dI)) (ci := 5) (v := .int (zb mk)) (C := RX5) (T := TX5) (N := 19) hx hb hts (in_X5_wood_X5) hown hK hP 0 rfl rfl 12 (by decide) (hts (.fieldLink RX5 72 "PlateModesModel" "made" "Z") (by decide +kernel)) (fun _ h9 => h9) rfl dX5_wood_87 ?_
          refine z_if_eq_b (tgt := 102) hx hb dX5_wood_90 (by decide) (fun c10 => ?_) (fun c11 => ?_)
          · skip
            have c_90 := c10
            refine lv_iconst (v := (nI 0)) hx hb dX5_wood_102 (by decide) ?_
            refine va_put (D := (dC, dI)) (ci := 5) (v := .int (zb false)) (ty := .boolean) (C := RX5) (T := TX5) (N := 19) hx hb hts (in_X5_wood_X5) tyX5 tyX5_ok nmX5 hown hK hP hD hS 0 rfl rfl 12 (by decide) (hts (.fieldLink RX5 72 "PlateModesModel" "made" "Z") (by decide +kernel)) (fun _ h9 => h9) rfl (by decide +kernel) rfl rfl (Nat.le_of_ble_eq_true rfl) dX5_wood_103 (fun H locs hP hD hS => ?_)
            have hP : va_P (dC, dI) vwCl (w5 a0 aT aE aG aR aN aS aQ aW aX cD cI (nI 0) iw ih fa fb fd ib false im iq (zu tT (6 * yn + xn) v) tE tG tR tN tS tQ tW tX) H := hP
            have hD : va_D A (w5 a0 aT aE aG aR aN aS aQ aW aX cD cI (nI 0) iw ih fa fb fd ib false im iq (zu tT (6 * yn + xn) v) tE tG tR tN tS tQ tW tX) := hD
            refine lv_iload hx hb dX5_wood_106 (lv_at hl 0 rfl) ?_
            exact W.zret (v := (nI 0)) hx hb hr rfl (fun t ht hW => ⟨⟨(nI 0), ((nI 0), zu tT (6 * yn + xn) v, false), rfl, ⟨congrArg nI ((if_neg c_7).trans (if_pos (by first | (rw [c_16]; rfl) | (rw [c_16, c_30]; rfl)))).symm, fun _ => by rw [zn_nI (by omega), zn_nI (by omega), c_62]; exact ⟨by first | rfl | (rw [c_90]; rfl), rfl, by first | rfl | (rw [c_90]; rfl)⟩, fun h => absurd ((if_neg c_7).trans (if_pos (by first | (rw [c_16]; rfl) | (rw [c_16, c_30]; rfl)))) h⟩, by rw [ht]; exact hP, va_K.moved hW.alike hK, hD⟩, hS.F ht⟩) hS.2.2 dX5_wood_108
          · skip
            have c_90 := c11
            refine lv_iload hx hb dX5_wood_93 (lv_at hl 0 rfl) ?_
            refine z_if_ne (tgt := 102) hx hb (by omega) dX5_wood_95 (by decide) (fun c12 => ?_) (fun c13 => ?_)
            · skip
              exact absurd c12 (by decide)
            · skip
              have c_95 := c13
              refine lv_iconst (v := (nI 1)) hx hb dX5_wood_98 (by decide) ?_
              refine lv_goto (tgt := 103) hx hb dX5_wood_99 (by decide) ?_
              refine va_put (D := (dC, dI)) (ci := 5) (v := .int (zb true)) (ty := .boolean) (C := RX5) (T := TX5) (N := 19) hx hb hts (in_X5_wood_X5) tyX5 tyX5_ok nmX5 hown hK hP hD hS 0 rfl rfl 12 (by decide) (hts (.fieldLink RX5 72 "PlateModesModel" "made" "Z") (by decide +kernel)) (fun _ h9 => h9) rfl (by decide +kernel) rfl rfl (Nat.le_of_ble_eq_true rfl) dX5_wood_103 (fun H locs hP hD hS => ?_)
              have hP : va_P (dC, dI) vwCl (w5 a0 aT aE aG aR aN aS aQ aW aX cD cI (nI 0) iw ih fa fb fd ib true im iq (zu tT (6 * yn + xn) v) tE tG tR tN tS tQ tW tX) H := hP
              have hD : va_D A (w5 a0 aT aE aG aR aN aS aQ aW aX cD cI (nI 0) iw ih fa fb fd ib true im iq (zu tT (6 * yn + xn) v) tE tG tR tN tS tQ tW tX) := hD
              refine lv_iload hx hb dX5_wood_106 (lv_at hl 0 rfl) ?_
              exact W.zret (v := (nI 0)) hx hb hr rfl (fun t ht hW => ⟨⟨(nI 0), ((nI 0), zu tT (6 * yn + xn) v, true), rfl, ⟨congrArg nI ((if_neg c_7).trans (if_pos (by first | (rw [c_16]; rfl) | (rw [c_16, c_30]; rfl)))).symm, fun _ => by rw [zn_nI (by omega), zn_nI (by omega), c_62]; exact ⟨by first | rfl | (rw [c_90]; rfl), rfl, by first | rfl | (rw [c_90]; rfl)⟩, fun h => absurd ((if_neg c_7).trans (if_pos (by first | (rw [c_16]; rfl) | (rw [c_16, c_30]; rfl)))) h⟩, by rw [ht]; exact hP, va_K.moved hW.alike hK, hD⟩, hS.F ht⟩) hS.2.2 dX5_wood_108
        · skip
          have c_62 := c9
          refine lv_iconst (v := (nI 1)) hx hb dX5_wood_66 (by decide) ?_
          refine lv_goto (tgt := 71) hx hb dX5_wood_67 (by decide) ?_
          refine lv_istore (lv' := [(5, .int (nI 1)), (0, .ref a0), (1, .int (nI xn)), (2, .int (nI yn)), (3, .double v)]) hx hb dX5_wood_71 hl (by decide) rfl (fun ls hl => ?_)
          refine lv_aload_n hx hb dX5_wood_73 rfl (lv_at hl 1 rfl) ?_
          refine va_get (D := (dC, dI)) (ci := 5) (v := .ref aT) (C := RX5) (T := TX5) (N := 19) hx hb hts (in_X5_wood_X5) hown hK hP 0 rfl rfl 3 (by decide) (hts (.fieldLink RX5 7 "PlateModesModel" "thicks" "[D") (by decide +kernel)) (fun _ h9 => h9) rfl dX5_wood_74 ?_
          refine lv_bipush (v := (nI 6)) hx hb dX5_wood_77 (by decide) ?_
          refine lv_iload_n hx hb dX5_wood_79 rfl (lv_at hl 3 rfl) ?_
          refine t_imul hx hb dX5_wood_80 (v := nI (6 * yn)) (zi_mul rfl) ?_
          refine lv_iload_n hx hb dX5_wood_81 rfl (lv_at hl 2 rfl) ?_
          refine t_iadd hx hb dX5_wood_82 (v := nI (6 * yn + xn)) (zi_add (by omega)) ?_
          refine lv_dload_n hx hb dX5_wood_83 rfl (lv_at hl 4 rfl) ?_
          refine z_dast (n := 36) (i := 6 * yn + xn) hx hb hK hP hD hS 1 0 rfl rfl (by omega) (by decide) dX5_wood_84 (fun H locs hP hD hS => ?_)
          have hP : va_P (dC, dI) vwCl (w5 a0 aT aE aG aR aN aS aQ aW aX cD cI (nI 0) iw ih fa fb fd ib mk im iq (zu tT (6 * yn + xn) v) tE tG tR tN tS tQ tW tX) H := hP
          have hD : va_D A (w5 a0 aT aE aG aR aN aS aQ aW aX cD cI (nI 0) iw ih fa fb fd ib mk im iq (zu tT (6 * yn + xn) v) tE tG tR tN tS tQ tW tX) := hD
          refine lv_aload_n hx hb dX5_wood_85 rfl (lv_at hl 1 rfl) ?_
          refine lv_aload_n hx hb dX5_wood_86 rfl (lv_at hl 1 rfl) ?_
          refine va_get (D := (dC, dI)) (ci := 5) (v := .int (zb mk)) (C := RX5) (T := TX5) (N := 19) hx hb hts (in_X5_wood_X5) hown hK hP 0 rfl rfl 12 (by decide) (hts (.fieldLink RX5 72 "PlateModesModel" "made" "Z") (by decide +kernel)) (fun _ h9 => h9) rfl dX5_wood_87 ?_
          refine z_if_eq_b (tgt := 102) hx hb dX5_wood_90 (by decide) (fun c14 => ?_) (fun c15 => ?_)
          · skip
            have c_90 := c14
            refine lv_iconst (v := (nI 0)) hx hb dX5_wood_102 (by decide) ?_
            refine va_put (D := (dC, dI)) (ci := 5) (v := .int (zb false)) (ty := .boolean) (C := RX5) (T := TX5) (N := 19) hx hb hts (in_X5_wood_X5) tyX5 tyX5_ok nmX5 hown hK hP hD hS 0 rfl rfl 12 (by decide) (hts (.fieldLink RX5 72 "PlateModesModel" "made" "Z") (by decide +kernel)) (fun _ h9 => h9) rfl (by decide +kernel) rfl rfl (Nat.le_of_ble_eq_true rfl) dX5_wood_103 (fun H locs hP hD hS => ?_)
            have hP : va_P (dC, dI) vwCl (w5 a0 aT aE aG aR aN aS aQ aW aX cD cI (nI 0) iw ih fa fb fd ib false im iq (zu tT (6 * yn + xn) v) tE tG tR tN tS tQ tW tX) H := hP
            have hD : va_D A (w5 a0 aT aE aG aR aN aS aQ aW aX cD cI (nI 0) iw ih fa fb fd ib false im iq (zu tT (6 * yn + xn) v) tE tG tR tN tS tQ tW tX) := hD
            refine lv_iload hx hb dX5_wood_106 (lv_at hl 0 rfl) ?_
            exact W.zret (v := (nI 1)) hx hb hr rfl (fun t ht hW => ⟨⟨(nI 1), ((nI 0), zu tT (6 * yn + xn) v, false), rfl, ⟨congrArg nI ((if_neg c_7).trans (if_pos (by first | (rw [c_16]; rfl) | (rw [c_16, c_30]; rfl)))).symm, fun _ => by rw [zn_nI (by omega), zn_nI (by omega), c_62]; exact ⟨by first | rfl | (rw [c_90]; rfl), rfl, by first | rfl | (rw [c_90]; rfl)⟩, fun h => absurd ((if_neg c_7).trans (if_pos (by first | (rw [c_16]; rfl) | (rw [c_16, c_30]; rfl)))) h⟩, by rw [ht]; exact hP, va_K.moved hW.alike hK, hD⟩, hS.F ht⟩) hS.2.2 dX5_wood_108
          · skip
            have c_90 := c15
            refine lv_iload hx hb dX5_wood_93 (lv_at hl 0 rfl) ?_
            refine z_if_ne (tgt := 102) hx hb (by omega) dX5_wood_95 (by decide) (fun c16 => ?_) (fun c17 => ?_)
            · skip
              have c_95 := c16
              refine lv_iconst (v := (nI 0)) hx hb dX5_wood_102 (by decide) ?_
              refine va_put (D := (dC, dI)) (ci := 5) (v := .int (zb false)) (ty := .boolean) (C := RX5) (T := TX5) (N := 19) hx hb hts (in_X5_wood_X5) tyX5 tyX5_ok nmX5 hown hK hP hD hS 0 rfl rfl 12 (by decide) (hts (.fieldLink RX5 72 "PlateModesModel" "made" "Z") (by decide +kernel)) (fun _ h9 => h9) rfl (by decide +kernel) rfl rfl (Nat.le_of_ble_eq_true rfl) dX5_wood_103 (fun H locs hP hD hS => ?_)
              have hP : va_P (dC, dI) vwCl (w5 a0 aT aE aG aR aN aS aQ aW aX cD cI (nI 0) iw ih fa fb fd ib false im iq (zu tT (6 * yn + xn) v) tE tG tR tN tS tQ tW tX) H := hP
              have hD : va_D A (w5 a0 aT aE aG aR aN aS aQ aW aX cD cI (nI 0) iw ih fa fb fd ib false im iq (zu tT (6 * yn + xn) v) tE tG tR tN tS tQ tW tX) := hD
              refine lv_iload hx hb dX5_wood_106 (lv_at hl 0 rfl) ?_
              exact W.zret (v := (nI 1)) hx hb hr rfl (fun t ht hW => ⟨⟨(nI 1), ((nI 0), zu tT (6 * yn + xn) v, false), rfl, ⟨congrArg nI ((if_neg c_7).trans (if_pos (by first | (rw [c_16]; rfl) | (rw [c_16, c_30]; rfl)))).symm, fun _ => by rw [zn_nI (by omega), zn_nI (by omega), c_62]; exact ⟨by first | rfl | (rw [c_90]; rfl), rfl, by first | rfl | (rw [c_90]; rfl)⟩, fun h => absurd ((if_neg c_7).trans (if_pos (by first | (rw [c_16]; rfl) | (rw [c_16, c_30]; rfl)))) h⟩, by rw [ht]; exact hP, va_K.moved hW.alike hK, hD⟩, hS.F ht⟩) hS.2.2 dX5_wood_108
            · skip
              exact absurd c17 (by decide)
      · skip
        exact absurd c7 (by decide)
    · skip
      have c_16 := c5
      refine lv_dload_n hx hb dX5_wood_20 rfl (lv_at hl 3 rfl) ?_
      refine lv_ldc2d (v := 4593671619917905920) hx hb hown (hts (.constantDouble RX5 64 (4593671619917905920)) (by decide +kernel)) dX5_wood_21 ?_
      refine lv_ldc2d (v := 4620693217682128896) hx hb hown (hts (.constantDouble RX5 66 (4620693217682128896)) (by decide +kernel)) dX5_wood_24 ?_
      refine va_calli (va_runS (As := [.double v, .double 4593671619917905920, .double 4620693217682128896]) (rest := [.ref a0]) ⟨hx, hb, hml, hown, hts⟩ (c5_between l v 4593671619917905920 4620693217682128896) (va_cwS 3 hts gX5_wood_X5_between rfl rfl rfl (by decide +kernel) ⟨Nat.le_of_ble_eq_true rfl, Nat.le_of_ble_eq_true rfl⟩) ⟨zfb0, zpre0⟩ rfl rfl hl.1 rfl (lv_room (Nat.le_of_ble_eq_true rfl)) dX5_wood_27 ⟨Nat.le_of_ble_eq_true rfl, Nat.le_of_ble_eq_true rfl⟩) hS (fun q _ h => h.elim) (fun q h => h.elim) (fun r18 u9 t9 H locs ht9 hvm9 hr18 hB9 hz9 hk1 hS => ?_)
      have hP := zro1 hP hk1
      have hr18 : r18 = zb (zbt (zv v) (zv 4593671619917905920) (zv 4620693217682128896)) := hr18
      subst hr18
      refine z_if_eq_b (tgt := 37) hx hb dX5_wood_30 (by decide) (fun c19 => ?_) (fun c20 => ?_)
      · skip
        have c_30 := c19
        refine lv_iconst (v := (nI 2)) hx hb dX5_wood_37 (by decide) ?_
        refine va_put (D := (dC, dI)) (ci := 5) (v := .int (nI 2)) (ty := .int) (C := RX5) (T := TX5) (N := 19) hx hb hts (in_X5_wood_X5) tyX5 tyX5_ok nmX5 hown hK hP hD hS 0 rfl rfl 0 (by decide) (hts (.fieldLink RX5 55 "PlateModesModel" "thrown" "I") (by decide +kernel)) (fun _ h9 => h9) rfl (by decide +kernel) rfl rfl (Nat.le_of_ble_eq_true rfl) dX5_wood_38 (fun H locs hP hD hS => ?_)
        have hP : va_P (dC, dI) vwCl (w5 a0 aT aE aG aR aN aS aQ aW aX cD cI (nI 2) iw ih fa fb fd ib mk im iq tT tE tG tR tN tS tQ tW tX) H := hP
        have hD : va_D A (w5 a0 aT aE aG aR aN aS aQ aW aX cD cI (nI 2) iw ih fa fb fd ib mk im iq tT tE tG tR tN tS tQ tW tX) := hD
        refine lv_aload_n hx hb dX5_wood_41 rfl (lv_at hl 0 rfl) ?_
        refine va_get (D := (dC, dI)) (ci := 5) (v := .int (nI 2)) (C := RX5) (T := TX5) (N := 19) hx hb hts (in_X5_wood_X5) hown hK hP 0 rfl rfl 0 (by decide) (hts (.fieldLink RX5 55 "PlateModesModel" "thrown" "I") (by decide +kernel)) (fun _ h9 => h9) rfl dX5_wood_42 ?_
        refine z_if_le (tgt := 50) hx hb (by omega) dX5_wood_45 (by decide) (fun c21 => ?_) (fun c22 => ?_)
        · skip
          exact absurd c21 (by decide)
        · skip
          refine lv_iconst (v := (nI 0)) hx hb dX5_wood_48 (by decide) ?_
          exact W.zret (v := (nI 0)) hx hb hr rfl (fun t ht hW => ⟨⟨(nI 0), ((nI 2), tT, mk), rfl, ⟨congrArg nI ((if_neg c_7).trans (if_neg (by rw [c_16, c_30]; decide))).symm, fun h => absurd (((if_neg c_7).trans (if_neg (by rw [c_16, c_30]; decide))).symm.trans h) (by decide), fun _ => ⟨rfl, rfl⟩⟩, by rw [ht]; exact hP, va_K.moved hW.alike hK, hD⟩, hS.F ht⟩) hS.2.2 dX5_wood_49
      · skip
        have c_30 := c20
        refine lv_iconst (v := (nI 0)) hx hb dX5_wood_33 (by decide) ?_
        refine lv_goto (tgt := 38) hx hb dX5_wood_34 (by decide) ?_
        refine va_put (D := (dC, dI)) (ci := 5) (v := .int (nI 0)) (ty := .int) (C := RX5) (T := TX5) (N := 19) hx hb hts (in_X5_wood_X5) tyX5 tyX5_ok nmX5 hown hK hP hD hS 0 rfl rfl 0 (by decide) (hts (.fieldLink RX5 55 "PlateModesModel" "thrown" "I") (by decide +kernel)) (fun _ h9 => h9) rfl (by decide +kernel) rfl rfl (Nat.le_of_ble_eq_true rfl) dX5_wood_38 (fun H locs hP hD hS => ?_)
        have hP : va_P (dC, dI) vwCl (w5 a0 aT aE aG aR aN aS aQ aW aX cD cI (nI 0) iw ih fa fb fd ib mk im iq tT tE tG tR tN tS tQ tW tX) H := hP
        have hD : va_D A (w5 a0 aT aE aG aR aN aS aQ aW aX cD cI (nI 0) iw ih fa fb fd ib mk im iq tT tE tG tR tN tS tQ tW tX) := hD
        refine lv_aload_n hx hb dX5_wood_41 rfl (lv_at hl 0 rfl) ?_
        refine va_get (D := (dC, dI)) (ci := 5) (v := .int (nI 0)) (C := RX5) (T := TX5) (N := 19) hx hb hts (in_X5_wood_X5) hown hK hP 0 rfl rfl 0 (by decide) (hts (.fieldLink RX5 55 "PlateModesModel" "thrown" "I") (by decide +kernel)) (fun _ h9 => h9) rfl dX5_wood_42 ?_
        refine z_if_le (tgt := 50) hx hb (by omega) dX5_wood_45 (by decide) (fun c23 => ?_) (fun c24 => ?_)
        · skip
          refine lv_aload_n hx hb dX5_wood_50 rfl (lv_at hl 0 rfl) ?_
          refine va_get (D := (dC, dI)) (ci := 5) (v := .ref aT) (C := RX5) (T := TX5) (N := 19) hx hb hts (in_X5_wood_X5) hown hK hP 0 rfl rfl 3 (by decide) (hts (.fieldLink RX5 7 "PlateModesModel" "thicks" "[D") (by decide +kernel)) (fun _ h9 => h9) rfl dX5_wood_51 ?_
          refine lv_bipush (v := (nI 6)) hx hb dX5_wood_54 (by decide) ?_
          refine lv_iload_n hx hb dX5_wood_56 rfl (lv_at hl 2 rfl) ?_
          refine t_imul hx hb dX5_wood_57 (v := nI (6 * yn)) (zi_mul rfl) ?_
          refine lv_iload_n hx hb dX5_wood_58 rfl (lv_at hl 1 rfl) ?_
          refine t_iadd hx hb dX5_wood_59 (v := nI (6 * yn + xn)) (zi_add (by omega)) ?_
          refine z_dald (n := 36) (i := 6 * yn + xn) hx hb hK hP 1 0 rfl rfl (by omega) (by decide) dX5_wood_60 ?_
          refine lv_dload_n hx hb dX5_wood_61 rfl (lv_at hl 3 rfl) ?_
          refine z_cmp_l_eq (tgt := 70) hx hb (a := zv (tT (6 * yn + xn))) (b := zv v) rfl rfl dX5_wood_62 dX5_wood_63 (by decide) (fun c25 => ?_) (fun c26 => ?_)
          · skip
            have c_62 := c25
            refine lv_iconst (v := (nI 0)) hx hb dX5_wood_70 (by decide) ?_
            refine lv_istore (lv' := [(5, .int (nI 0)), (0, .ref a0), (1, .int (nI xn)), (2, .int (nI yn)), (3, .double v)]) hx hb dX5_wood_71 hl (by decide) rfl (fun ls hl => ?_)
            refine lv_aload_n hx hb dX5_wood_73 rfl (lv_at hl 1 rfl) ?_
            refine va_get (D := (dC, dI)) (ci := 5) (v := .ref aT) (C := RX5) (T := TX5) (N := 19) hx hb hts (in_X5_wood_X5) hown hK hP 0 rfl rfl 3 (by decide) (hts (.fieldLink RX5 7 "PlateModesModel" "thicks" "[D") (by decide +kernel)) (fun _ h9 => h9) rfl dX5_wood_74 ?_
            refine lv_bipush (v := (nI 6)) hx hb dX5_wood_77 (by decide) ?_
            refine lv_iload_n hx hb dX5_wood_79 rfl (lv_at hl 3 rfl) ?_
            refine t_imul hx hb dX5_wood_80 (v := nI (6 * yn)) (zi_mul rfl) ?_
            refine lv_iload_n hx hb dX5_wood_81 rfl (lv_at hl 2 rfl) ?_
            refine t_iadd hx hb dX5_wood_82 (v := nI (6 * yn + xn)) (zi_add (by omega)) ?_
            refine lv_dload_n hx hb dX5_wood_83 rfl (lv_at hl 4 rfl) ?_
            refine z_dast (n := 36) (i := 6 * yn + xn) hx hb hK hP hD hS 1 0 rfl rfl (by omega) (by decide) dX5_wood_84 (fun H locs hP hD hS => ?_)
            have hP : va_P (dC, dI) vwCl (w5 a0 aT aE aG aR aN aS aQ aW aX cD cI (nI 0) iw ih fa fb fd ib mk im iq (zu tT (6 * yn + xn) v) tE tG tR tN tS tQ tW tX) H := hP
            have hD : va_D A (w5 a0 aT aE aG aR aN aS aQ aW aX cD cI (nI 0) iw ih fa fb fd ib mk im iq (zu tT (6 * yn + xn) v) tE tG tR tN tS tQ tW tX) := hD
            refine lv_aload_n hx hb dX5_wood_85 rfl (lv_at hl 1 rfl) ?_
            refine lv_aload_n hx hb dX5_wood_86 rfl (lv_at hl 1 rfl) ?_
            refine va_get (D := (dC, dI)) (ci := 5) (v := .int (zb mk)) (C := RX5) (T := TX5) (N := 19) hx hb hts (in_X5_wood_X5) hown hK hP 0 rfl rfl 12 (by decide) (hts (.fieldLink RX5 72 "PlateModesModel" "made" "Z") (by decide +kernel)) (fun _ h9 => h9) rfl dX5_wood_87 ?_
            refine z_if_eq_b (tgt := 102) hx hb dX5_wood_90 (by decide) (fun c27 => ?_) (fun c28 => ?_)
            · skip
              have c_90 := c27
              refine lv_iconst (v := (nI 0)) hx hb dX5_wood_102 (by decide) ?_
              refine va_put (D := (dC, dI)) (ci := 5) (v := .int (zb false)) (ty := .boolean) (C := RX5) (T := TX5) (N := 19) hx hb hts (in_X5_wood_X5) tyX5 tyX5_ok nmX5 hown hK hP hD hS 0 rfl rfl 12 (by decide) (hts (.fieldLink RX5 72 "PlateModesModel" "made" "Z") (by decide +kernel)) (fun _ h9 => h9) rfl (by decide +kernel) rfl rfl (Nat.le_of_ble_eq_true rfl) dX5_wood_103 (fun H locs hP hD hS => ?_)
              have hP : va_P (dC, dI) vwCl (w5 a0 aT aE aG aR aN aS aQ aW aX cD cI (nI 0) iw ih fa fb fd ib false im iq (zu tT (6 * yn + xn) v) tE tG tR tN tS tQ tW tX) H := hP
              have hD : va_D A (w5 a0 aT aE aG aR aN aS aQ aW aX cD cI (nI 0) iw ih fa fb fd ib false im iq (zu tT (6 * yn + xn) v) tE tG tR tN tS tQ tW tX) := hD
              refine lv_iload hx hb dX5_wood_106 (lv_at hl 0 rfl) ?_
              exact W.zret (v := (nI 0)) hx hb hr rfl (fun t ht hW => ⟨⟨(nI 0), ((nI 0), zu tT (6 * yn + xn) v, false), rfl, ⟨congrArg nI ((if_neg c_7).trans (if_pos (by first | (rw [c_16]; rfl) | (rw [c_16, c_30]; rfl)))).symm, fun _ => by rw [zn_nI (by omega), zn_nI (by omega), c_62]; exact ⟨by first | rfl | (rw [c_90]; rfl), rfl, by first | rfl | (rw [c_90]; rfl)⟩, fun h => absurd ((if_neg c_7).trans (if_pos (by first | (rw [c_16]; rfl) | (rw [c_16, c_30]; rfl)))) h⟩, by rw [ht]; exact hP, va_K.moved hW.alike hK, hD⟩, hS.F ht⟩) hS.2.2 dX5_wood_108
            · skip
              have c_90 := c28
              refine lv_iload hx hb dX5_wood_93 (lv_at hl 0 rfl) ?_
              refine z_if_ne (tgt := 102) hx hb (by omega) dX5_wood_95 (by decide) (fun c29 => ?_) (fun c30 => ?_)
              · skip
                exact absurd c29 (by decide)
              · skip
                have c_95 := c30
                refine lv_iconst (v := (nI 1)) hx hb dX5_wood_98 (by decide) ?_
                refine lv_goto (tgt := 103) hx hb dX5_wood_99 (by decide) ?_
                refine va_put (D := (dC, dI)) (ci := 5) (v := .int (zb true)) (ty := .boolean) (C := RX5) (T := TX5) (N := 19) hx hb hts (in_X5_wood_X5) tyX5 tyX5_ok nmX5 hown hK hP hD hS 0 rfl rfl 12 (by decide) (hts (.fieldLink RX5 72 "PlateModesModel" "made" "Z") (by decide +kernel)) (fun _ h9 => h9) rfl (by decide +kernel) rfl rfl (Nat.le_of_ble_eq_true rfl) dX5_wood_103 (fun H locs hP hD hS => ?_)
                have hP : va_P (dC, dI) vwCl (w5 a0 aT aE aG aR aN aS aQ aW aX cD cI (nI 0) iw ih fa fb fd ib true im iq (zu tT (6 * yn + xn) v) tE tG tR tN tS tQ tW tX) H := hP
                have hD : va_D A (w5 a0 aT aE aG aR aN aS aQ aW aX cD cI (nI 0) iw ih fa fb fd ib true im iq (zu tT (6 * yn + xn) v) tE tG tR tN tS tQ tW tX) := hD
                refine lv_iload hx hb dX5_wood_106 (lv_at hl 0 rfl) ?_
                exact W.zret (v := (nI 0)) hx hb hr rfl (fun t ht hW => ⟨⟨(nI 0), ((nI 0), zu tT (6 * yn + xn) v, true), rfl, ⟨congrArg nI ((if_neg c_7).trans (if_pos (by first | (rw [c_16]; rfl) | (rw [c_16, c_30]; rfl)))).symm, fun _ => by rw [zn_nI (by omega), zn_nI (by omega), c_62]; exact ⟨by first | rfl | (rw [c_90]; rfl), rfl, by first | rfl | (rw [c_90]; rfl)⟩, fun h => absurd ((if_neg c_7).trans (if_pos (by first | (rw [c_16]; rfl) | (rw [c_16, c_30]; rfl)))) h⟩, by rw [ht]; exact hP, va_K.moved hW.alike hK, hD⟩, hS.F ht⟩) hS.2.2 dX5_wood_108
          · skip
            have c_62 := c26
            refine lv_iconst (v := (nI 1)) hx hb dX5_wood_66 (by decide) ?_
            refine lv_goto (tgt := 71) hx hb dX5_wood_67 (by decide) ?_
            refine lv_istore (lv' := [(5, .int (nI 1)), (0, .ref a0), (1, .int (nI xn)), (2, .int (nI yn)), (3, .double v)]) hx hb dX5_wood_71 hl (by decide) rfl (fun ls hl => ?_)
            refine lv_aload_n hx hb dX5_wood_73 rfl (lv_at hl 1 rfl) ?_
            refine va_get (D := (dC, dI)) (ci := 5) (v := .ref aT) (C := RX5) (T := TX5) (N := 19) hx hb hts (in_X5_wood_X5) hown hK hP 0 rfl rfl 3 (by decide) (hts (.fieldLink RX5 7 "PlateModesModel" "thicks" "[D") (by decide +kernel)) (fun _ h9 => h9) rfl dX5_wood_74 ?_
            refine lv_bipush (v := (nI 6)) hx hb dX5_wood_77 (by decide) ?_
            refine lv_iload_n hx hb dX5_wood_79 rfl (lv_at hl 3 rfl) ?_
            refine t_imul hx hb dX5_wood_80 (v := nI (6 * yn)) (zi_mul rfl) ?_
            refine lv_iload_n hx hb dX5_wood_81 rfl (lv_at hl 2 rfl) ?_
            refine t_iadd hx hb dX5_wood_82 (v := nI (6 * yn + xn)) (zi_add (by omega)) ?_
            refine lv_dload_n hx hb dX5_wood_83 rfl (lv_at hl 4 rfl) ?_
            refine z_dast (n := 36) (i := 6 * yn + xn) hx hb hK hP hD hS 1 0 rfl rfl (by omega) (by decide) dX5_wood_84 (fun H locs hP hD hS => ?_)
            have hP : va_P (dC, dI) vwCl (w5 a0 aT aE aG aR aN aS aQ aW aX cD cI (nI 0) iw ih fa fb fd ib mk im iq (zu tT (6 * yn + xn) v) tE tG tR tN tS tQ tW tX) H := hP
            have hD : va_D A (w5 a0 aT aE aG aR aN aS aQ aW aX cD cI (nI 0) iw ih fa fb fd ib mk im iq (zu tT (6 * yn + xn) v) tE tG tR tN tS tQ tW tX) := hD
            refine lv_aload_n hx hb dX5_wood_85 rfl (lv_at hl 1 rfl) ?_
            refine lv_aload_n hx hb dX5_wood_86 rfl (lv_at hl 1 rfl) ?_
            refine va_get (D := (dC, dI)) (ci := 5) (v := .int (zb mk)) (C := RX5) (T := TX5) (N := 19) hx hb hts (in_X5_wood_X5) hown hK hP 0 rfl rfl 12 (by decide) (hts (.fieldLink RX5 72 "PlateModesModel" "made" "Z") (by decide +kernel)) (fun _ h9 => h9) rfl dX5_wood_87 ?_
            refine z_if_eq_b (tgt := 102) hx hb dX5_wood_90 (by decide) (fun c31 => ?_) (fun c32 => ?_)
            · skip
              have c_90 := c31
              refine lv_iconst (v := (nI 0)) hx hb dX5_wood_102 (by decide) ?_
              refine va_put (D := (dC, dI)) (ci := 5) (v := .int (zb false)) (ty := .boolean) (C := RX5) (T := TX5) (N := 19) hx hb hts (in_X5_wood_X5) tyX5 tyX5_ok nmX5 hown hK hP hD hS 0 rfl rfl 12 (by decide) (hts (.fieldLink RX5 72 "PlateModesModel" "made" "Z") (by decide +kernel)) (fun _ h9 => h9) rfl (by decide +kernel) rfl rfl (Nat.le_of_ble_eq_true rfl) dX5_wood_103 (fun H locs hP hD hS => ?_)
              have hP : va_P (dC, dI) vwCl (w5 a0 aT aE aG aR aN aS aQ aW aX cD cI (nI 0) iw ih fa fb fd ib false im iq (zu tT (6 * yn + xn) v) tE tG tR tN tS tQ tW tX) H := hP
              have hD : va_D A (w5 a0 aT aE aG aR aN aS aQ aW aX cD cI (nI 0) iw ih fa fb fd ib false im iq (zu tT (6 * yn + xn) v) tE tG tR tN tS tQ tW tX) := hD
              refine lv_iload hx hb dX5_wood_106 (lv_at hl 0 rfl) ?_
              exact W.zret (v := (nI 1)) hx hb hr rfl (fun t ht hW => ⟨⟨(nI 1), ((nI 0), zu tT (6 * yn + xn) v, false), rfl, ⟨congrArg nI ((if_neg c_7).trans (if_pos (by first | (rw [c_16]; rfl) | (rw [c_16, c_30]; rfl)))).symm, fun _ => by rw [zn_nI (by omega), zn_nI (by omega), c_62]; exact ⟨by first | rfl | (rw [c_90]; rfl), rfl, by first | rfl | (rw [c_90]; rfl)⟩, fun h => absurd ((if_neg c_7).trans (if_pos (by first | (rw [c_16]; rfl) | (rw [c_16, c_30]; rfl)))) h⟩, by rw [ht]; exact hP, va_K.moved hW.alike hK, hD⟩, hS.F ht⟩) hS.2.2 dX5_wood_108
            · skip
              have c_90 := c32
              refine lv_iload hx hb dX5_wood_93 (lv_at hl 0 rfl) ?_
              refine z_if_ne (tgt := 102) hx hb (by omega) dX5_wood_95 (by decide) (fun c33 => ?_) (fun c34 => ?_)
              · skip
                have c_95 := c33
                refine lv_iconst (v := (nI 0)) hx hb dX5_wood_102 (by decide) ?_
                refine va_put (D := (dC, dI)) (ci := 5) (v := .int (zb false)) (ty := .boolean) (C := RX5) (T := TX5) (N := 19) hx hb hts (in_X5_wood_X5) tyX5 tyX5_ok nmX5 hown hK hP hD hS 0 rfl rfl 12 (by decide) (hts (.fieldLink RX5 72 "PlateModesModel" "made" "Z") (by decide +kernel)) (fun _ h9 => h9) rfl (by decide +kernel) rfl rfl (Nat.le_of_ble_eq_true rfl) dX5_wood_103 (fun H locs hP hD hS => ?_)
                have hP : va_P (dC, dI) vwCl (w5 a0 aT aE aG aR aN aS aQ aW aX cD cI (nI 0) iw ih fa fb fd ib false im iq (zu tT (6 * yn + xn) v) tE tG tR tN tS tQ tW tX) H := hP
                have hD : va_D A (w5 a0 aT aE aG aR aN aS aQ aW aX cD cI (nI 0) iw ih fa fb fd ib false im iq (zu tT (6 * yn + xn) v) tE tG tR tN tS tQ tW tX) := hD
                refine lv_iload hx hb dX5_wood_106 (lv_at hl 0 rfl) ?_
                exact W.zret (v := (nI 1)) hx hb hr rfl (fun t ht hW => ⟨⟨(nI 1), ((nI 0), zu tT (6 * yn + xn) v, false), rfl, ⟨congrArg nI ((if_neg c_7).trans (if_pos (by first | (rw [c_16]; rfl) | (rw [c_16, c_30]; rfl)))).symm, fun _ => by rw [zn_nI (by omega), zn_nI (by omega), c_62]; exact ⟨by first | rfl | (rw [c_90]; rfl), rfl, by first | rfl | (rw [c_90]; rfl)⟩, fun h => absurd ((if_neg c_7).trans (if_pos (by first | (rw [c_16]; rfl) | (rw [c_16, c_30]; rfl)))) h⟩, by rw [ht]; exact hP, va_K.moved hW.alike hK, hD⟩, hS.F ht⟩) hS.2.2 dX5_wood_108
              · skip
                exact absurd c34 (by decide)
        · skip
          exact absurd c24 (by decide)
  · skip
    have c_7 := c3
    refine lv_iconst (v := (nI 1)) hx hb dX5_wood_10 (by decide) ?_
    refine lv_goto (tgt := 38) hx hb dX5_wood_11 (by decide) ?_
    refine va_put (D := (dC, dI)) (ci := 5) (v := .int (nI 1)) (ty := .int) (C := RX5) (T := TX5) (N := 19) hx hb hts (in_X5_wood_X5) tyX5 tyX5_ok nmX5 hown hK hP hD hS 0 rfl rfl 0 (by decide) (hts (.fieldLink RX5 55 "PlateModesModel" "thrown" "I") (by decide +kernel)) (fun _ h9 => h9) rfl (by decide +kernel) rfl rfl (Nat.le_of_ble_eq_true rfl) dX5_wood_38 (fun H locs hP hD hS => ?_)
    have hP : va_P (dC, dI) vwCl (w5 a0 aT aE aG aR aN aS aQ aW aX cD cI (nI 1) iw ih fa fb fd ib mk im iq tT tE tG tR tN tS tQ tW tX) H := hP
    have hD : va_D A (w5 a0 aT aE aG aR aN aS aQ aW aX cD cI (nI 1) iw ih fa fb fd ib mk im iq tT tE tG tR tN tS tQ tW tX) := hD
    refine lv_aload_n hx hb dX5_wood_41 rfl (lv_at hl 0 rfl) ?_
    refine va_get (D := (dC, dI)) (ci := 5) (v := .int (nI 1)) (C := RX5) (T := TX5) (N := 19) hx hb hts (in_X5_wood_X5) hown hK hP 0 rfl rfl 0 (by decide) (hts (.fieldLink RX5 55 "PlateModesModel" "thrown" "I") (by decide +kernel)) (fun _ h9 => h9) rfl dX5_wood_42 ?_
    refine z_if_le (tgt := 50) hx hb (by omega) dX5_wood_45 (by decide) (fun c35 => ?_) (fun c36 => ?_)
    · skip
      exact absurd c35 (by decide)
    · skip
      refine lv_iconst (v := (nI 0)) hx hb dX5_wood_48 (by decide) ?_
      exact W.zret (v := (nI 0)) hx hb hr rfl (fun t ht hW => ⟨⟨(nI 0), ((nI 1), tT, mk), rfl, ⟨congrArg nI (if_pos c_7).symm, fun h => absurd ((if_pos c_7).symm.trans h) (by decide), fun _ => ⟨rfl, rfl⟩⟩, by rw [ht]; exact hP, va_K.moved hW.alike hK, hD⟩, hS.F ht⟩) hS.2.2 dX5_wood_49
theorem in_X5_rates_X5 : ∀ w ∈ wsX50, w ∈ wsX5_rates := fun w h => List.mem_cons_of_mem _ (List.mem_append_right _ h)
set_option maxHeartbeats 4000000 in
set_option maxRecDepth 100000 in
/-- rates -/
theorem c5_rates (l : Launch) (dC : Nat → ClassId) (dI : Nat → Nat → Nat) (a0 aT aE aG aR aN aS aQ aW aX : Nat) (cD cI : ClassId) (th : Int32) (iw ih : Nat) (fa fb fd : UInt64) (ib : Nat) (mk : Bool) (im iq : Nat) (tT : Nat → UInt64) (tE : Nat → Int32) (tG tR tN tS tQ : Nat → UInt64) (tW : Nat → Int32) (tX : Nat → UInt64) (va vb vd : UInt64) (sz : Nat) : Met l yX5_rates wsX5_rates ({ frames := 1, cells := 0, slots := 0, locals := 25 } : Room) (va_Pc [.ref a0, .double va, .double vb, .double vd] (fun U => U.heap.size = sz ∧ va_P (dC, dI) vwCl (w5 a0 aT aE aG aR aN aS aQ aW aX cD cI th iw ih fa fb fd ib mk im iq tT tE tG tR tN tS tQ tW tX) U.heap ∧ va_K (dC, dI) vwCl [(cD, .double), (cI, .int)] U ∧ va_D (fun _ => True) (w5 a0 aT aE aG aR aN aS aQ aW aX cD cI th iw ih fa fb fd ib mk im iq tT tE tG tR tN tS tQ tW tX))) (va_Qv (fun u : Int32 × UInt64 × UInt64 × UInt64 × Bool => u.1 = nI (zcR (zv va) (zv vb) (zv vd)) ∧ (zcR (zv va) (zv vb) (zv vd) = 0 → u.2.1 = va ∧ u.2.2.1 = vb ∧ u.2.2.2.1 = vd ∧ u.2.2.2.2 = false) ∧ (¬ zcR (zv va) (zv vb) (zv vd) = 0 → u.2.1 = fa ∧ u.2.2.1 = fb ∧ u.2.2.2.1 = fd ∧ u.2.2.2.2 = mk)) (fun u t => (va_P (dC, dI) vwCl (w5 a0 aT aE aG aR aN aS aQ aW aX cD cI u.1 iw ih u.2.1 u.2.2.1 u.2.2.2.1 ib u.2.2.2.2 im iq tT tE tG tR tN tS tQ tW tX) t.heap ∧ va_K (dC, dI) vwCl [(cD, .double), (cI, .int)] t ∧ va_D (va_A (w5 a0 aT aE aG aR aN aS aQ aW aX cD cI th iw ih fa fb fd ib mk im iq tT tE tG tR tN tS tQ tW tX) sz) (w5 a0 aT aE aG aR aN aS aQ aW aX cD cI u.1 iw ih u.2.1 u.2.2.1 u.2.2.2.1 ib u.2.2.2.2 im iq tT tE tG tR tN tS tQ tW tX))) (va_A (w5 a0 aT aE aG aR aN aS aQ aW aX cD cI th iw ih fa fb fd ib mk im iq tT tE tG tR tN tS tQ tW tX) sz)) 0 0 (va_A (w5 a0 aT aE aG aR aN aS aQ aW aX cD cI th iw ih fa fb fd ib mk im iq tT tE tG tR tN tS tQ tW tX) sz) := by
  refine Met.ofW (cc := cX5_rates) (maxL := 7) (ret := none) (by decide) rfl ?_
  intro p e s m args below meth c s₁ B hml hv
  obtain ⟨rfl, hsz, hP, hK, hD0⟩ := hv
  have hx := B.exec
  have hb := B.bytes
  have hr := B.returns
  have hts := atoms_spec (ws := wsX5_rates) B.pre
  have hown : s.vm.findClass RX5 = some m.cls := findClass_of_methodNamed B.named
  have hlocks := B.notSynchronized
  subst hsz
  have hD := hD0.self (sz := s.heap.size)
  generalize hAe : va_A (w5 a0 aT aE aG aR aN aS aQ aW aX cD cI th iw ih fa fb fd ib mk im iq tT tE tG tR tN tS tQ tW tX) s.heap.size = A at hD ⊢
  have hA : ∀ q : Nat, s.heap.size ≤ q → A q := fun q h => by rw [← hAe]; exact Or.inr h
  have hS : va_S A s.heap s.heap [] := va_S.rf
  have hl := lv_entry ([.ref a0, .double va, .double vb, .double vd]) (n := 7) (Nat.le_of_ble_eq_true rfl)
  rw [lg_entry_eq]
  generalize (lg_sl ([.ref a0, .double va, .double vb, .double vd]) ++ List.replicate (7 - (lg_sl ([.ref a0, .double va, .double vb, .double vd])).length) Slot.unset).toArray = ls at hl ⊢
  have hl : lv_has ls 7 [(0, .ref a0), (1, .double va), (3, .double vb), (5, .double vd)] := hl
  refine lv_aload_n hx hb dX5_rates_0 rfl (lv_at hl 0 rfl) ?_
  refine lv_dload_n hx hb dX5_rates_1 rfl (lv_at hl 1 rfl) ?_
  refine lv_ldc2d (v := 4593671619917905920) hx hb hown (hts (.constantDouble RX5 64 (4593671619917905920)) (by decide +kernel)) dX5_rates_2 ?_
  refine lv_ldc2d (v := 4620693217682128896) hx hb hown (hts (.constantDouble RX5 66 (4620693217682128896)) (by decide +kernel)) dX5_rates_5 ?_
  refine va_calli (va_runS (As := [.double va, .double 4593671619917905920, .double 4620693217682128896]) (rest := [.ref a0]) ⟨hx, hb, hml, hown, hts⟩ (c5_between l va 4593671619917905920 4620693217682128896) (va_cwS 3 hts gX5_rates_X5_between rfl rfl rfl (by decide +kernel) ⟨Nat.le_of_ble_eq_true rfl, Nat.le_of_ble_eq_true rfl⟩) ⟨zfb0, zpre0⟩ rfl rfl hl.1 rfl (lv_room (Nat.le_of_ble_eq_true rfl)) dX5_rates_8 ⟨Nat.le_of_ble_eq_true rfl, Nat.le_of_ble_eq_true rfl⟩) hS (fun q _ h => h.elim) (fun q h => h.elim) (fun r1 u9 t9 H locs ht9 hvm9 hr1 hB9 hz9 hk1 hS => ?_)
  have hP := zro1 hP hk1
  have hr1 : r1 = zb (zbt (zv va) (zv 4593671619917905920) (zv 4620693217682128896)) := hr1
  subst hr1
  refine z_if_eq_b (tgt := 45) hx hb dX5_rates_11 (by decide) (fun c2 => ?_) (fun c3 => ?_)
  · skip
    have c_11 := c2
    refine lv_iconst (v := (nI 1)) hx hb dX5_rates_45 (by decide) ?_
    refine va_put (D := (dC, dI)) (ci := 5) (v := .int (nI 1)) (ty := .int) (C := RX5) (T := TX5) (N := 19) hx hb hts (in_X5_rates_X5) tyX5 tyX5_ok nmX5 hown hK hP hD hS 0 rfl rfl 0 (by decide) (hts (.fieldLink RX5 55 "PlateModesModel" "thrown" "I") (by decide +kernel)) (fun _ h9 => h9) rfl (by decide +kernel) rfl rfl (Nat.le_of_ble_eq_true rfl) dX5_rates_46 (fun H locs hP hD hS => ?_)
    have hP : va_P (dC, dI) vwCl (w5 a0 aT aE aG aR aN aS aQ aW aX cD cI (nI 1) iw ih fa fb fd ib mk im iq tT tE tG tR tN tS tQ tW tX) H := hP
    have hD : va_D A (w5 a0 aT aE aG aR aN aS aQ aW aX cD cI (nI 1) iw ih fa fb fd ib mk im iq tT tE tG tR tN tS tQ tW tX) := hD
    refine lv_aload_n hx hb dX5_rates_49 rfl (lv_at hl 0 rfl) ?_
    refine va_get (D := (dC, dI)) (ci := 5) (v := .int (nI 1)) (C := RX5) (T := TX5) (N := 19) hx hb hts (in_X5_rates_X5) hown hK hP 0 rfl rfl 0 (by decide) (hts (.fieldLink RX5 55 "PlateModesModel" "thrown" "I") (by decide +kernel)) (fun _ h9 => h9) rfl dX5_rates_50 ?_
    refine z_if_ne (tgt := 77) hx hb (by omega) dX5_rates_53 (by decide) (fun c4 => ?_) (fun c5 => ?_)
    · skip
      exact W.vret hx hb hr (fun t ht hW => ⟨⟨((nI 1), fa, fb, fd, mk), rfl, ⟨congrArg nI (if_neg (by first | (rw [c_11]; simp; done) | (rw [c_11, c_24]; simp; done) | (rw [c_11, c_24, c_38]; simp; done))).symm, fun h => absurd ((if_neg (by first | (rw [c_11]; simp; done) | (rw [c_11, c_24]; simp; done) | (rw [c_11, c_24, c_38]; simp; done))).symm.trans h) (by decide), fun _ => ⟨rfl, rfl, rfl, rfl⟩⟩, by rw [ht]; exact hP, va_K.moved hW.alike hK, hD⟩, hS.F ht⟩) hS.2.2 dX5_rates_77
    · skip
      exact absurd c5 (by decide)
  · skip
    have c_11 := c3
    refine lv_dload_n hx hb dX5_rates_14 rfl (lv_at hl 2 rfl) ?_
    refine lv_ldc2d (v := 4593671619917905920) hx hb hown (hts (.constantDouble RX5 64 (4593671619917905920)) (by decide +kernel)) dX5_rates_15 ?_
    refine lv_ldc2d (v := 4620693217682128896) hx hb hown (hts (.constantDouble RX5 66 (4620693217682128896)) (by decide +kernel)) dX5_rates_18 ?_
    refine va_calli (va_runS (As := [.double vb, .double 4593671619917905920, .double 4620693217682128896]) (rest := [.ref a0]) ⟨hx, hb, hml, hown, hts⟩ (c5_between l vb 4593671619917905920 4620693217682128896) (va_cwS 3 hts gX5_rates_X5_between rfl rfl rfl (by decide +kernel) ⟨Nat.le_of_ble_eq_true rfl, Nat.le_of_ble_eq_true rfl⟩) ⟨zfb0, zpre0⟩ rfl rfl hl.1 rfl (lv_room (Nat.le_of_ble_eq_true rfl)) dX5_rates_21 ⟨Nat.le_of_ble_eq_true rfl, Nat.le_of_ble_eq_true rfl⟩) hS (fun q _ h => h.elim) (fun q h => h.elim) (fun r6 u9 t9 H locs ht9 hvm9 hr6 hB9 hz9 hk1 hS => ?_)
    have hP := zro1 hP hk1
    have hr6 : r6 = zb (zbt (zv vb) (zv 4593671619917905920) (zv 4620693217682128896)) := hr6
    subst hr6
    refine z_if_eq_b (tgt := 45) hx hb dX5_rates_24 (by decide) (fun c7 => ?_) (fun c8 => ?_)
    · skip
      have c_24 := c7
      refine lv_iconst (v := (nI 1)) hx hb dX5_rates_45 (by decide) ?_
      refine va_put (D := (dC, dI)) (ci := 5) (v := .int (nI 1)) (ty := .int) (C := RX5) (T := TX5) (N := 19) hx hb hts (in_X5_rates_X5) tyX5 tyX5_ok nmX5 hown hK hP hD hS 0 rfl rfl 0 (by decide) (hts (.fieldLink RX5 55 "PlateModesModel" "thrown" "I") (by decide +kernel)) (fun _ h9 => h9) rfl (by decide +kernel) rfl rfl (Nat.le_of_ble_eq_true rfl) dX5_rates_46 (fun H locs hP hD hS => ?_)
      have hP : va_P (dC, dI) vwCl (w5 a0 aT aE aG aR aN aS aQ aW aX cD cI (nI 1) iw ih fa fb fd ib mk im iq tT tE tG tR tN tS tQ tW tX) H := hP
      have hD : va_D A (w5 a0 aT aE aG aR aN aS aQ aW aX cD cI (nI 1) iw ih fa fb fd ib mk im iq tT tE tG tR tN tS tQ tW tX) := hD
      refine lv_aload_n hx hb dX5_rates_49 rfl (lv_at hl 0 rfl) ?_
      refine va_get (D := (dC, dI)) (ci := 5) (v := .int (nI 1)) (C := RX5) (T := TX5) (N := 19) hx hb hts (in_X5_rates_X5) hown hK hP 0 rfl rfl 0 (by decide) (hts (.fieldLink RX5 55 "PlateModesModel" "thrown" "I") (by decide +kernel)) (fun _ h9 => h9) rfl dX5_rates_50 ?_
      refine z_if_ne (tgt := 77) hx hb (by omega) dX5_rates_53 (by decide) (fun c9 => ?_) (fun c10 => ?_)
      · skip
        exact W.vret hx hb hr (fun t ht hW => ⟨⟨((nI 1), fa, fb, fd, mk), rfl, ⟨congrArg nI (if_neg (by first | (rw [c_11]; simp; done) | (rw [c_11, c_24]; simp; done) | (rw [c_11, c_24, c_38]; simp; done))).symm, fun h => absurd ((if_neg (by first | (rw [c_11]; simp; done) | (rw [c_11, c_24]; simp; done) | (rw [c_11, c_24, c_38]; simp; done))).symm.trans h) (by decide), fun _ => ⟨rfl, rfl, rfl, rfl⟩⟩, by rw [ht]; exact hP, va_K.moved hW.alike hK, hD⟩, hS.F ht⟩) hS.2.2 dX5_rates_77
      · skip
        exact absurd c10 (by decide)
    · skip
      have c_24 := c8
      refine lv_dload hx hb dX5_rates_27 (lv_at hl 3 rfl) ?_
      refine lv_ldc2d (v := 4593671619917905920) hx hb hown (hts (.constantDouble RX5 64 (4593671619917905920)) (by decide +kernel)) dX5_rates_29 ?_
      refine lv_ldc2d (v := 4620693217682128896) hx hb hown (hts (.constantDouble RX5 66 (4620693217682128896)) (by decide +kernel)) dX5_rates_32 ?_
      refine va_calli (va_runS (As := [.double vd, .double 4593671619917905920, .double 4620693217682128896]) (rest := [.ref a0]) ⟨hx, hb, hml, hown, hts⟩ (c5_between l vd 4593671619917905920 4620693217682128896) (va_cwS 3 hts gX5_rates_X5_between rfl rfl rfl (by decide +kernel) ⟨Nat.le_of_ble_eq_true rfl, Nat.le_of_ble_eq_true rfl⟩) ⟨zfb0, zpre0⟩ rfl rfl hl.1 rfl (lv_room (Nat.le_of_ble_eq_true rfl)) dX5_rates_35 ⟨Nat.le_of_ble_eq_true rfl, Nat.le_of_ble_eq_true rfl⟩) hS (fun q _ h => h.elim) (fun q h => h.elim) (fun r11 u9 t9 H locs ht9 hvm9 hr11 hB9 hz9 hk1 hS => ?_)
      have hP := zro1 hP hk1
      have hr11 : r11 = zb (zbt (zv vd) (zv 4593671619917905920) (zv 4620693217682128896)) := hr11
      subst hr11
      refine z_if_eq_b (tgt := 45) hx hb dX5_rates_38 (by decide) (fun c12 => ?_) (fun c13 => ?_)
      · skip
        have c_38 := c12
        refine lv_iconst (v := (nI 1)) hx hb dX5_rates_45 (by decide) ?_
        refine va_put (D := (dC, dI)) (ci := 5) (v := .int (nI 1)) (ty := .int) (C := RX5) (T := TX5) (N := 19) hx hb hts (in_X5_rates_X5) tyX5 tyX5_ok nmX5 hown hK hP hD hS 0 rfl rfl 0 (by decide) (hts (.fieldLink RX5 55 "PlateModesModel" "thrown" "I") (by decide +kernel)) (fun _ h9 => h9) rfl (by decide +kernel) rfl rfl (Nat.le_of_ble_eq_true rfl) dX5_rates_46 (fun H locs hP hD hS => ?_)
        have hP : va_P (dC, dI) vwCl (w5 a0 aT aE aG aR aN aS aQ aW aX cD cI (nI 1) iw ih fa fb fd ib mk im iq tT tE tG tR tN tS tQ tW tX) H := hP
        have hD : va_D A (w5 a0 aT aE aG aR aN aS aQ aW aX cD cI (nI 1) iw ih fa fb fd ib mk im iq tT tE tG tR tN tS tQ tW tX) := hD
        refine lv_aload_n hx hb dX5_rates_49 rfl (lv_at hl 0 rfl) ?_
        refine va_get (D := (dC, dI)) (ci := 5) (v := .int (nI 1)) (C := RX5) (T := TX5) (N := 19) hx hb hts (in_X5_rates_X5) hown hK hP 0 rfl rfl 0 (by decide) (hts (.fieldLink RX5 55 "PlateModesModel" "thrown" "I") (by decide +kernel)) (fun _ h9 => h9) rfl dX5_rates_50 ?_
        refine z_if_ne (tgt := 77) hx hb (by omega) dX5_rates_53 (by decide) (fun c14 => ?_) (fun c15 => ?_)
        · skip
          exact W.vret hx hb hr (fun t ht hW => ⟨⟨((nI 1), fa, fb, fd, mk), rfl, ⟨congrArg nI (if_neg (by first | (rw [c_11]; simp; done) | (rw [c_11, c_24]; simp; done) | (rw [c_11, c_24, c_38]; simp; done))).symm, fun h => absurd ((if_neg (by first | (rw [c_11]; simp; done) | (rw [c_11, c_24]; simp; done) | (rw [c_11, c_24, c_38]; simp; done))).symm.trans h) (by decide), fun _ => ⟨rfl, rfl, rfl, rfl⟩⟩, by rw [ht]; exact hP, va_K.moved hW.alike hK, hD⟩, hS.F ht⟩) hS.2.2 dX5_rates_77
        · skip
          exact absurd c15 (by decide)
      · skip
        have c_38 := c13
        refine lv_iconst (v := (nI 0)) hx hb dX5_rates_41 (by decide) ?_
        refine lv_goto (tgt := 46) hx hb dX5_rates_42 (by decide) ?_
        refine va_put (D := (dC, dI)) (ci := 5) (v := .int (nI 0)) (ty := .int) (C := RX5) (T := TX5) (N := 19) hx hb hts (in_X5_rates_X5) tyX5 tyX5_ok nmX5 hown hK hP hD hS 0 rfl rfl 0 (by decide) (hts (.fieldLink RX5 55 "PlateModesModel" "thrown" "I") (by decide +kernel)) (fun _ h9 => h9) rfl (by decide +kernel) rfl rfl (Nat.le_of_ble_eq_true rfl) dX5_rates_46 (fun H locs hP hD hS => ?_)
        have hP : va_P (dC, dI) vwCl (w5 a0 aT aE aG aR aN aS aQ aW aX cD cI (nI 0) iw ih fa fb fd ib mk im iq tT tE tG tR tN tS tQ tW tX) H := hP
        have hD : va_D A (w5 a0 aT aE aG aR aN aS aQ aW aX cD cI (nI 0) iw ih fa fb fd ib mk im iq tT tE tG tR tN tS tQ tW tX) := hD
        refine lv_aload_n hx hb dX5_rates_49 rfl (lv_at hl 0 rfl) ?_
        refine va_get (D := (dC, dI)) (ci := 5) (v := .int (nI 0)) (C := RX5) (T := TX5) (N := 19) hx hb hts (in_X5_rates_X5) hown hK hP 0 rfl rfl 0 (by decide) (hts (.fieldLink RX5 55 "PlateModesModel" "thrown" "I") (by decide +kernel)) (fun _ h9 => h9) rfl dX5_rates_50 ?_
        refine z_if_ne (tgt := 77) hx hb (by omega) dX5_rates_53 (by decide) (fun c16 => ?_) (fun c17 => ?_)
        · skip
          exact absurd c16 (by decide)
        · skip
          refine lv_aload_n hx hb dX5_rates_56 rfl (lv_at hl 0 rfl) ?_
          refine lv_dload_n hx hb dX5_rates_57 rfl (lv_at hl 1 rfl) ?_
          refine va_put (D := (dC, dI)) (ci := 5) (v := .double va) (ty := .double) (C := RX5) (T := TX5) (N := 19) hx hb hts (in_X5_rates_X5) tyX5 tyX5_ok nmX5 hown hK hP hD hS 0 rfl rfl 4 (by decide) (hts (.fieldLink RX5 13 "PlateModesModel" "a" "D") (by decide +kernel)) (fun _ h9 => h9) rfl (by decide +kernel) rfl rfl (Nat.le_of_ble_eq_true rfl) dX5_rates_58 (fun H locs hP hD hS => ?_)
          have hP : va_P (dC, dI) vwCl (w5 a0 aT aE aG aR aN aS aQ aW aX cD cI (nI 0) iw ih va fb fd ib mk im iq tT tE tG tR tN tS tQ tW tX) H := hP
          have hD : va_D A (w5 a0 aT aE aG aR aN aS aQ aW aX cD cI (nI 0) iw ih va fb fd ib mk im iq tT tE tG tR tN tS tQ tW tX) := hD
          refine lv_aload_n hx hb dX5_rates_61 rfl (lv_at hl 0 rfl) ?_
          refine lv_dload_n hx hb dX5_rates_62 rfl (lv_at hl 2 rfl) ?_
          refine va_put (D := (dC, dI)) (ci := 5) (v := .double vb) (ty := .double) (C := RX5) (T := TX5) (N := 19) hx hb hts (in_X5_rates_X5) tyX5 tyX5_ok nmX5 hown hK hP hD hS 0 rfl rfl 5 (by decide) (hts (.fieldLink RX5 17 "PlateModesModel" "b" "D") (by decide +kernel)) (fun _ h9 => h9) rfl (by decide +kernel) rfl rfl (Nat.le_of_ble_eq_true rfl) dX5_rates_63 (fun H locs hP hD hS => ?_)
          have hP : va_P (dC, dI) vwCl (w5 a0 aT aE aG aR aN aS aQ aW aX cD cI (nI 0) iw ih va vb fd ib mk im iq tT tE tG tR tN tS tQ tW tX) H := hP
          have hD : va_D A (w5 a0 aT aE aG aR aN aS aQ aW aX cD cI (nI 0) iw ih va vb fd ib mk im iq tT tE tG tR tN tS tQ tW tX) := hD
          refine lv_aload_n hx hb dX5_rates_66 rfl (lv_at hl 0 rfl) ?_
          refine lv_dload hx hb dX5_rates_67 (lv_at hl 3 rfl) ?_
          refine va_put (D := (dC, dI)) (ci := 5) (v := .double vd) (ty := .double) (C := RX5) (T := TX5) (N := 19) hx hb hts (in_X5_rates_X5) tyX5 tyX5_ok nmX5 hown hK hP hD hS 0 rfl rfl 6 (by decide) (hts (.fieldLink RX5 20 "PlateModesModel" "density" "D") (by decide +kernel)) (fun _ h9 => h9) rfl (by decide +kernel) rfl rfl (Nat.le_of_ble_eq_true rfl) dX5_rates_69 (fun H locs hP hD hS => ?_)
          have hP : va_P (dC, dI) vwCl (w5 a0 aT aE aG aR aN aS aQ aW aX cD cI (nI 0) iw ih va vb vd ib mk im iq tT tE tG tR tN tS tQ tW tX) H := hP
          have hD : va_D A (w5 a0 aT aE aG aR aN aS aQ aW aX cD cI (nI 0) iw ih va vb vd ib mk im iq tT tE tG tR tN tS tQ tW tX) := hD
          refine lv_aload_n hx hb dX5_rates_72 rfl (lv_at hl 0 rfl) ?_
          refine lv_iconst (v := (nI 0)) hx hb dX5_rates_73 (by decide) ?_
          refine va_put (D := (dC, dI)) (ci := 5) (v := .int (zb false)) (ty := .boolean) (C := RX5) (T := TX5) (N := 19) hx hb hts (in_X5_rates_X5) tyX5 tyX5_ok nmX5 hown hK hP hD hS 0 rfl rfl 12 (by decide) (hts (.fieldLink RX5 72 "PlateModesModel" "made" "Z") (by decide +kernel)) (fun _ h9 => h9) rfl (by decide +kernel) rfl rfl (Nat.le_of_ble_eq_true rfl) dX5_rates_74 (fun H locs hP hD hS => ?_)
          have hP : va_P (dC, dI) vwCl (w5 a0 aT aE aG aR aN aS aQ aW aX cD cI (nI 0) iw ih va vb vd ib false im iq tT tE tG tR tN tS tQ tW tX) H := hP
          have hD : va_D A (w5 a0 aT aE aG aR aN aS aQ aW aX cD cI (nI 0) iw ih va vb vd ib false im iq tT tE tG tR tN tS tQ tW tX) := hD
          exact W.vret hx hb hr (fun t ht hW => ⟨⟨((nI 0), va, vb, vd, false), rfl, ⟨congrArg nI (if_pos (by rw [c_11, c_24, c_38]; rfl)).symm, fun _ => ⟨rfl, rfl, rfl, rfl⟩, fun h => absurd (if_pos (by rw [c_11, c_24, c_38]; rfl)) h⟩, by rw [ht]; exact hP, va_K.moved hW.alike hK, hD⟩, hS.F ht⟩) hS.2.2 dX5_rates_77
theorem in_X5_brace_X5 : ∀ w ∈ wsX50, w ∈ wsX5_brace := fun w h => List.mem_cons_of_mem _ (List.mem_append_right _ h)
set_option maxHeartbeats 4000000 in
set_option maxRecDepth 100000 in
/-- brace -/
theorem c5_brace (l : Launch) (dC : Nat → ClassId) (dI : Nat → Nat → Nat) (a0 aT aE aG aR aN aS aQ aW aX : Nat) (cD cI : ClassId) (th : Int32) (iw ih : Nat) (fa fb fd : UInt64) (ib : Nat) (mk : Bool) (im iq : Nat) (tT : Nat → UInt64) (tE : Nat → Int32) (tG tR tN tS tQ : Nat → UInt64) (tW : Nat → Int32) (tX : Nat → UInt64) (x0 y0 x1 y1 : Int32) (v : UInt64) (hw6 : iw ≤ 6) (hh6 : ih ≤ 6) (hb12 : ib ≤ 12) (sz : Nat) : Met l yX5_brace wsX5_brace ({ frames := 1, cells := 0, slots := 0, locals := 25 } : Room) (va_Pc [.ref a0, .int x0, .int y0, .int x1, .int y1, .double v] (fun U => U.heap.size = sz ∧ va_P (dC, dI) vwCl (w5 a0 aT aE aG aR aN aS aQ aW aX cD cI th iw ih fa fb fd ib mk im iq tT tE tG tR tN tS tQ tW tX) U.heap ∧ va_K (dC, dI) vwCl [(cD, .double), (cI, .int)] U ∧ va_D (fun _ => True) (w5 a0 aT aE aG aR aN aS aQ aW aX cD cI th iw ih fa fb fd ib mk im iq tT tE tG tR tN tS tQ tW tX))) (va_Qi (fun (r : Int32) (u : Int32 × Nat × Bool × (Nat → Int32) × (Nat → UInt64)) => u.1 = nI (zcB iw ih ib x0 y0 x1 y1 (zv v)) ∧ (zcB iw ih ib x0 y0 x1 y1 (zv v) = 0 → r = nI (ib + 1) ∧ u.2.1 = ib + 1 ∧ u.2.2.1 = false ∧ u.2.2.2.1 = zu (zu (zu (zu tE (4 * ib) (nI (zmin (zn x0) (zn x1)))) (4 * ib + 1) (nI (zmin (zn y0) (zn y1)))) (4 * ib + 2) (nI (zmax (zn x0) (zn x1)))) (4 * ib + 3) (nI (zmax (zn y0) (zn y1))) ∧ u.2.2.2.2 = zu tG ib v) ∧ (¬ zcB iw ih ib x0 y0 x1 y1 (zv v) = 0 → u.2.1 = ib ∧ u.2.2.1 = mk ∧ u.2.2.2.1 = tE ∧ u.2.2.2.2 = tG)) (fun u t => (va_P (dC, dI) vwCl (w5 a0 aT aE aG aR aN aS aQ aW aX cD cI u.1 iw ih fa fb fd u.2.1 u.2.2.1 im iq tT u.2.2.2.1 u.2.2.2.2 tR tN tS tQ tW tX) t.heap ∧ va_K (dC, dI) vwCl [(cD, .double), (cI, .int)] t ∧ va_D (va_A (w5 a0 aT aE aG aR aN aS aQ aW aX cD cI th iw ih fa fb fd ib mk im iq tT tE tG tR tN tS tQ tW tX) sz) (w5 a0 aT aE aG aR aN aS aQ aW aX cD cI u.1 iw ih fa fb fd u.2.1 u.2.2.1 im iq tT u.2.2.2.1 u.2.2.2.2 tR tN tS tQ tW tX))) (va_A (w5 a0 aT aE aG aR aN aS aQ aW aX cD cI th iw ih fa fb fd ib mk im iq tT tE tG tR tN tS tQ tW tX) sz)) 0 0 (va_A (w5 a0 aT aE aG aR aN aS aQ aW aX cD cI th iw ih fa fb fd ib mk im iq tT tE tG tR tN tS tQ tW tX) sz) := by
  refine Met.ofW (cc := cX5_brace) (maxL := 8) (ret := (some .int)) (by decide) rfl ?_
  intro p e s m args below meth c s₁ B hml hv
  obtain ⟨rfl, hsz, hP, hK, hD0⟩ := hv
  have hx := B.exec
  have hb := B.bytes
  have hr := B.returns
  have hts := atoms_spec (ws := wsX5_brace) B.pre
  have hown : s.vm.findClass RX5 = some m.cls := findClass_of_methodNamed B.named
  have hlocks := B.notSynchronized
  subst hsz
  have hD := hD0.self (sz := s.heap.size)
  generalize hAe : va_A (w5 a0 aT aE aG aR aN aS aQ aW aX cD cI th iw ih fa fb fd ib mk im iq tT tE tG tR tN tS tQ tW tX) s.heap.size = A at hD ⊢
  have hA : ∀ q : Nat, s.heap.size ≤ q → A q := fun q h => by rw [← hAe]; exact Or.inr h
  have hS : va_S A s.heap s.heap [] := va_S.rf
  have hl := lv_entry ([.ref a0, .int x0, .int y0, .int x1, .int y1, .double v]) (n := 8) (Nat.le_of_ble_eq_true rfl)
  rw [lg_entry_eq]
  generalize (lg_sl ([.ref a0, .int x0, .int y0, .int x1, .int y1, .double v]) ++ List.replicate (8 - (lg_sl ([.ref a0, .int x0, .int y0, .int x1, .int y1, .double v])).length) Slot.unset).toArray = ls at hl ⊢
  have hl : lv_has ls 8 [(0, .ref a0), (1, .int x0), (2, .int y0), (3, .int x1), (4, .int y1), (5, .double v)] := hl
  have J_29 : ∀ (ln : Bool) (H : Heap) (locs : List Loc) (ls : Array Slot), (ln = decide (zline2 x0 y0 x1 y1)) → va_P (dC, dI) vwCl (w5 a0 aT aE aG aR aN aS aQ aW aX cD cI th iw ih fa fb fd ib mk im iq tT tE tG tR tN tS tQ tW tX) H → va_D A (w5 a0 aT aE aG aR aN aS aQ aW aX cD cI th iw ih fa fb fd ib mk im iq tT tE tG tR tN tS tQ tW tX) → va_S A s.heap H locs → lv_has ls 8 [(0, .ref a0), (1, .int x0), (2, .int y0), (3, .int x1), (4, .int y1), (5, .double v)] → W p l e (headSpec wsX5_brace ({ frames := 1, cells := 0, slots := 0, locals := 25 } : Room)).room s m ([.ref a0, .int x0, .int y0, .int x1, .int y1, .double v] : List Value).toArray below meth c H locs 0 0 (MQ below (va_Qi (fun (r : Int32) (u : Int32 × Nat × Bool × (Nat → Int32) × (Nat → UInt64)) => u.1 = nI (zcB iw ih ib x0 y0 x1 y1 (zv v)) ∧ (zcB iw ih ib x0 y0 x1 y1 (zv v) = 0 → r = nI (ib + 1) ∧ u.2.1 = ib + 1 ∧ u.2.2.1 = false ∧ u.2.2.2.1 = zu (zu (zu (zu tE (4 * ib) (nI (zmin (zn x0) (zn x1)))) (4 * ib + 1) (nI (zmin (zn y0) (zn y1)))) (4 * ib + 2) (nI (zmax (zn x0) (zn x1)))) (4 * ib + 3) (nI (zmax (zn y0) (zn y1))) ∧ u.2.2.2.2 = zu tG ib v) ∧ (¬ zcB iw ih ib x0 y0 x1 y1 (zv v) = 0 → u.2.1 = ib ∧ u.2.2.1 = mk ∧ u.2.2.2.1 = tE ∧ u.2.2.2.2 = tG)) (fun u t => (va_P (dC, dI) vwCl (w5 a0 aT aE aG aR aN aS aQ aW aX cD cI u.1 iw ih fa fb fd u.2.1 u.2.2.1 im iq tT u.2.2.2.1 u.2.2.2.2 tR tN tS tQ tW tX) t.heap ∧ va_K (dC, dI) vwCl [(cD, .double), (cI, .int)] t ∧ va_D A (w5 a0 aT aE aG aR aN aS aQ aW aX cD cI u.1 iw ih fa fb fd u.2.1 u.2.2.1 im iq tT u.2.2.2.1 u.2.2.2.2 tR tN tS tQ tW tX))) A) ([.ref a0, .int x0, .int y0, .int x1, .int y1, .double v] : List Value).toArray s 0 0 A) (F0 m 29 ls [.int (zb ln)]) := by
    intro ln H locs ls hln hP hD hS hl
    refine lv_istore (lv' := [(7, .int (zb ln)), (0, .ref a0), (1, .int x0), (2, .int y0), (3, .int x1), (4, .int y1), (5, .double v)]) hx hb dX5_brace_29 hl (by decide) rfl (fun ls hl => ?_)
    refine lv_aload_n hx hb dX5_brace_31 rfl (lv_at hl 1 rfl) ?_
    refine lv_aload_n hx hb dX5_brace_32 rfl (lv_at hl 1 rfl) ?_
    refine lv_iload_n hx hb dX5_brace_33 rfl (lv_at hl 2 rfl) ?_
    refine lv_iload_n hx hb dX5_brace_34 rfl (lv_at hl 3 rfl) ?_
    have hPc := hP
    refine va_calli (va_runV (As := [.int x0, .int y0]) (rest := [.ref a0]) ⟨hx, hb, hml, hown, hts⟩ (c5_noCell l dC dI a0 aT aE aG aR aN aS aQ aW aX cD cI th iw ih fa fb fd ib mk im iq tT tE tG tR tN tS tQ tW tX x0 y0) (cwV 2 hts gX5_brace_X5_noCell rfl rfl rfl (by decide +kernel) ⟨Nat.le_of_ble_eq_true rfl, Nat.le_of_ble_eq_true rfl⟩) ⟨zfb, va_recv hK hP (ci := 5) (q0 := 0) rfl rfl, zpre hPc hK⟩ rfl rfl hl.1 rfl (lv_room (Nat.le_of_ble_eq_true rfl)) dX5_brace_35 ⟨Nat.le_of_ble_eq_true rfl, Nat.le_of_ble_eq_true rfl⟩) hS (fun q _ h => h.elim) (fun q h => h.elim) (fun r1 u9 t9 H locs ht9 hvm9 hr1 hB9 hz9 hk1 hS => ?_)
    have hP := zro1 hP hk1
    subst hr1
    refine z_if_ne_p (tgt := 51) hx hb (zncl iw ih x0 y0) dX5_brace_38 (by decide) (fun c2 => ?_) (fun c3 => ?_)
    · skip
      have c_38 := c2
      refine lv_iconst (v := (nI 1)) hx hb dX5_brace_51 (by decide) ?_
      refine lv_goto (tgt := 92) hx hb dX5_brace_52 (by decide) ?_
      refine va_put (D := (dC, dI)) (ci := 5) (v := .int (nI 1)) (ty := .int) (C := RX5) (T := TX5) (N := 19) hx hb hts (in_X5_brace_X5) tyX5 tyX5_ok nmX5 hown hK hP hD hS 0 rfl rfl 0 (by decide) (hts (.fieldLink RX5 55 "PlateModesModel" "thrown" "I") (by decide +kernel)) (fun _ h9 => h9) rfl (by decide +kernel) rfl rfl (Nat.le_of_ble_eq_true rfl) dX5_brace_92 (fun H locs hP hD hS => ?_)
      have hP : va_P (dC, dI) vwCl (w5 a0 aT aE aG aR aN aS aQ aW aX cD cI (nI 1) iw ih fa fb fd ib mk im iq tT tE tG tR tN tS tQ tW tX) H := hP
      have hD : va_D A (w5 a0 aT aE aG aR aN aS aQ aW aX cD cI (nI 1) iw ih fa fb fd ib mk im iq tT tE tG tR tN tS tQ tW tX) := hD
      refine lv_aload_n hx hb dX5_brace_95 rfl (lv_at hl 1 rfl) ?_
      refine va_get (D := (dC, dI)) (ci := 5) (v := .int (nI 1)) (C := RX5) (T := TX5) (N := 19) hx hb hts (in_X5_brace_X5) hown hK hP 0 rfl rfl 0 (by decide) (hts (.fieldLink RX5 55 "PlateModesModel" "thrown" "I") (by decide +kernel)) (fun _ h9 => h9) rfl dX5_brace_96 ?_
      refine z_if_le (tgt := 104) hx hb (by omega) dX5_brace_99 (by decide) (fun c4 => ?_) (fun c5 => ?_)
      · skip
        exact absurd c4 (by decide)
      · skip
        refine lv_iconst (v := (nI 0)) hx hb dX5_brace_102 (by decide) ?_
        exact W.iret (v := (nI 0)) hx hb hr (fun t ht hW => ⟨⟨(nI 0), ((nI 1), ib, mk, tE, tG), rfl, ⟨congrArg nI (if_pos (by first | exact Or.inl c_38 | exact Or.inr c_48)).symm, fun h => absurd ((if_pos (by first | exact Or.inl c_38 | exact Or.inr c_48)).symm.trans h) (by decide), fun _ => ⟨rfl, rfl, rfl, rfl⟩⟩, by rw [ht]; exact hP, va_K.moved hW.alike hK, hD⟩, hS.F ht⟩) hS.2.2 dX5_brace_103
    · skip
      have c_38 := c3
      refine lv_aload_n hx hb dX5_brace_41 rfl (lv_at hl 1 rfl) ?_
      refine lv_iload_n hx hb dX5_brace_42 rfl (lv_at hl 4 rfl) ?_
      refine lv_iload hx hb dX5_brace_43 (lv_at hl 5 rfl) ?_
      have hPc := hP
      refine va_calli (va_runV (As := [.int x1, .int y1]) (rest := [.ref a0]) ⟨hx, hb, hml, hown, hts⟩ (c5_noCell l dC dI a0 aT aE aG aR aN aS aQ aW aX cD cI th iw ih fa fb fd ib mk im iq tT tE tG tR tN tS tQ tW tX x1 y1) (cwV 2 hts gX5_brace_X5_noCell rfl rfl rfl (by decide +kernel) ⟨Nat.le_of_ble_eq_true rfl, Nat.le_of_ble_eq_true rfl⟩) ⟨zfb, va_recv hK hP (ci := 5) (q0 := 0) rfl rfl, zpre hPc hK⟩ rfl rfl hl.1 rfl (lv_room (Nat.le_of_ble_eq_true rfl)) dX5_brace_45 ⟨Nat.le_of_ble_eq_true rfl, Nat.le_of_ble_eq_true rfl⟩) hS (fun q _ h => h.elim) (fun q h => h.elim) (fun r6 u9 t9 H locs ht9 hvm9 hr6 hB9 hz9 hk1 hS => ?_)
      have hP := zro1 hP hk1
      subst hr6
      refine z_if_eq_p (tgt := 55) hx hb (zncl iw ih x1 y1) dX5_brace_48 (by decide) (fun c7 => ?_) (fun c8 => ?_)
      · skip
        have c_48 := c7
        refine lv_iload hx hb dX5_brace_55 (lv_at hl 0 rfl) ?_
        refine z_if_eq_b (tgt := 74) hx hb dX5_brace_57 (by decide) (fun c9 => ?_) (fun c10 => ?_)
        · skip
          have c_57 := c9
          refine lv_iconst (v := (nI 2)) hx hb dX5_brace_74 (by decide) ?_
          refine lv_goto (tgt := 92) hx hb dX5_brace_75 (by decide) ?_
          refine va_put (D := (dC, dI)) (ci := 5) (v := .int (nI 2)) (ty := .int) (C := RX5) (T := TX5) (N := 19) hx hb hts (in_X5_brace_X5) tyX5 tyX5_ok nmX5 hown hK hP hD hS 0 rfl rfl 0 (by decide) (hts (.fieldLink RX5 55 "PlateModesModel" "thrown" "I") (by decide +kernel)) (fun _ h9 => h9) rfl (by decide +kernel) rfl rfl (Nat.le_of_ble_eq_true rfl) dX5_brace_92 (fun H locs hP hD hS => ?_)
          have hP : va_P (dC, dI) vwCl (w5 a0 aT aE aG aR aN aS aQ aW aX cD cI (nI 2) iw ih fa fb fd ib mk im iq tT tE tG tR tN tS tQ tW tX) H := hP
          have hD : va_D A (w5 a0 aT aE aG aR aN aS aQ aW aX cD cI (nI 2) iw ih fa fb fd ib mk im iq tT tE tG tR tN tS tQ tW tX) := hD
          refine lv_aload_n hx hb dX5_brace_95 rfl (lv_at hl 1 rfl) ?_
          refine va_get (D := (dC, dI)) (ci := 5) (v := .int (nI 2)) (C := RX5) (T := TX5) (N := 19) hx hb hts (in_X5_brace_X5) hown hK hP 0 rfl rfl 0 (by decide) (hts (.fieldLink RX5 55 "PlateModesModel" "thrown" "I") (by decide +kernel)) (fun _ h9 => h9) rfl dX5_brace_96 ?_
          refine z_if_le (tgt := 104) hx hb (by omega) dX5_brace_99 (by decide) (fun c11 => ?_) (fun c12 => ?_)
          · skip
            exact absurd c11 (by decide)
          · skip
            refine lv_iconst (v := (nI 0)) hx hb dX5_brace_102 (by decide) ?_
            exact W.iret (v := (nI 0)) hx hb hr (fun t ht hW => ⟨⟨(nI 0), ((nI 2), ib, mk, tE, tG), rfl, ⟨congrArg nI ((if_neg (fun q => q.elim c_38 c_48)).trans (if_pos (by first | exact Or.inl (of_decide_eq_false (hln.symm.trans c_57)) | exact Or.inr c_71))).symm, fun h => absurd (((if_neg (fun q => q.elim c_38 c_48)).trans (if_pos (by first | exact Or.inl (of_decide_eq_false (hln.symm.trans c_57)) | exact Or.inr c_71))).symm.trans h) (by decide), fun _ => ⟨rfl, rfl, rfl, rfl⟩⟩, by rw [ht]; exact hP, va_K.moved hW.alike hK, hD⟩, hS.F ht⟩) hS.2.2 dX5_brace_103
        · skip
          have c_57 := c10
          refine lv_dload hx hb dX5_brace_60 (lv_at hl 6 rfl) ?_
          refine lv_ldc2d (v := 4593671619917905920) hx hb hown (hts (.constantDouble RX5 64 (4593671619917905920)) (by decide +kernel)) dX5_brace_62 ?_
          refine lv_ldc2d (v := 4620693217682128896) hx hb hown (hts (.constantDouble RX5 66 (4620693217682128896)) (by decide +kernel)) dX5_brace_65 ?_
          refine va_calli (va_runS (As := [.double v, .double 4593671619917905920, .double 4620693217682128896]) (rest := [.ref a0]) ⟨hx, hb, hml, hown, hts⟩ (c5_between l v 4593671619917905920 4620693217682128896) (va_cwS 3 hts gX5_brace_X5_between rfl rfl rfl (by decide +kernel) ⟨Nat.le_of_ble_eq_true rfl, Nat.le_of_ble_eq_true rfl⟩) ⟨zfb0, zpre0⟩ rfl rfl hl.1 rfl (lv_room (Nat.le_of_ble_eq_true rfl)) dX5_brace_68 ⟨Nat.le_of_ble_eq_true rfl, Nat.le_of_ble_eq_true rfl⟩) hS (fun q _ h => h.elim) (fun q h => h.elim) (fun r13 u9 t9 H locs ht9 hvm9 hr13 hB9 hz9 hk1 hS => ?_)
          have hP := zro1 hP hk1
          have hr13 : r13 = zb (zbt (zv v) (zv 4593671619917905920) (zv 4620693217682128896)) := hr13
          subst hr13
          refine z_if_ne_b (tgt := 78) hx hb dX5_brace_71 (by decide) (fun c14 => ?_) (fun c15 => ?_)
          · skip
            have c_71 := c14
            refine lv_aload_n hx hb dX5_brace_78 rfl (lv_at hl 1 rfl) ?_
            refine va_get (D := (dC, dI)) (ci := 5) (v := .int (nI ib)) (C := RX5) (T := TX5) (N := 19) hx hb hts (in_X5_brace_X5) hown hK hP 0 rfl rfl 7 (by decide) (hts (.fieldLink RX5 76 "PlateModesModel" "braces" "I") (by decide +kernel)) (fun _ h9 => h9) rfl dX5_brace_79 ?_
            refine lv_bipush (v := (nI 12)) hx hb dX5_brace_82 (by decide) ?_
            refine z_icmp_ne (a := ib) (b := 12) (tgt := 91) hx hb (by omega) (by omega) dX5_brace_84 (by decide) (fun c16 => ?_) (fun c17 => ?_)
            · skip
              have c_84 := c16
              obtain ⟨x0n, y0n, hx0, hy0, rfl, rfl⟩ := zcl_of hw6 hh6 c_38
              obtain ⟨x1n, y1n, hx1, hy1, rfl, rfl⟩ := zcl_of hw6 hh6 c_48
              refine lv_iconst (v := (nI 0)) hx hb dX5_brace_91 (by decide) ?_
              refine va_put (D := (dC, dI)) (ci := 5) (v := .int (nI 0)) (ty := .int) (C := RX5) (T := TX5) (N := 19) hx hb hts (in_X5_brace_X5) tyX5 tyX5_ok nmX5 hown hK hP hD hS 0 rfl rfl 0 (by decide) (hts (.fieldLink RX5 55 "PlateModesModel" "thrown" "I") (by decide +kernel)) (fun _ h9 => h9) rfl (by decide +kernel) rfl rfl (Nat.le_of_ble_eq_true rfl) dX5_brace_92 (fun H locs hP hD hS => ?_)
              have hP : va_P (dC, dI) vwCl (w5 a0 aT aE aG aR aN aS aQ aW aX cD cI (nI 0) iw ih fa fb fd ib mk im iq tT tE tG tR tN tS tQ tW tX) H := hP
              have hD : va_D A (w5 a0 aT aE aG aR aN aS aQ aW aX cD cI (nI 0) iw ih fa fb fd ib mk im iq tT tE tG tR tN tS tQ tW tX) := hD
              refine lv_aload_n hx hb dX5_brace_95 rfl (lv_at hl 1 rfl) ?_
              refine va_get (D := (dC, dI)) (ci := 5) (v := .int (nI 0)) (C := RX5) (T := TX5) (N := 19) hx hb hts (in_X5_brace_X5) hown hK hP 0 rfl rfl 0 (by decide) (hts (.fieldLink RX5 55 "PlateModesModel" "thrown" "I") (by decide +kernel)) (fun _ h9 => h9) rfl dX5_brace_96 ?_
              refine z_if_le (tgt := 104) hx hb (by omega) dX5_brace_99 (by decide) (fun c18 => ?_) (fun c19 => ?_)
              · skip
                have J_124 : ∀ (m0 : Nat) (H : Heap) (locs : List Loc) (ls : Array Slot), (m0 = zmin x0n x1n) → va_P (dC, dI) vwCl (w5 a0 aT aE aG aR aN aS aQ aW aX cD cI (nI 0) iw ih fa fb fd ib mk im iq tT tE tG tR tN tS tQ tW tX) H → va_D A (w5 a0 aT aE aG aR aN aS aQ aW aX cD cI (nI 0) iw ih fa fb fd ib mk im iq tT tE tG tR tN tS tQ tW tX) → va_S A s.heap H locs → lv_has ls 8 [(0, .ref a0), (1, .int (nI x0n)), (2, .int (nI y0n)), (3, .int (nI x1n)), (4, .int (nI y1n)), (5, .double v)] → W p l e (headSpec wsX5_brace ({ frames := 1, cells := 0, slots := 0, locals := 25 } : Room)).room s m ([.ref a0, .int (nI x0n), .int (nI y0n), .int (nI x1n), .int (nI y1n), .double v] : List Value).toArray below meth c H locs 0 0 (MQ below (va_Qi (fun (r : Int32) (u : Int32 × Nat × Bool × (Nat → Int32) × (Nat → UInt64)) => u.1 = nI (zcB iw ih ib (nI x0n) (nI y0n) (nI x1n) (nI y1n) (zv v)) ∧ (zcB iw ih ib (nI x0n) (nI y0n) (nI x1n) (nI y1n) (zv v) = 0 → r = nI (ib + 1) ∧ u.2.1 = ib + 1 ∧ u.2.2.1 = false ∧ u.2.2.2.1 = zu (zu (zu (zu tE (4 * ib) (nI (zmin (zn (nI x0n)) (zn (nI x1n))))) (4 * ib + 1) (nI (zmin (zn (nI y0n)) (zn (nI y1n))))) (4 * ib + 2) (nI (zmax (zn (nI x0n)) (zn (nI x1n))))) (4 * ib + 3) (nI (zmax (zn (nI y0n)) (zn (nI y1n)))) ∧ u.2.2.2.2 = zu tG ib v) ∧ (¬ zcB iw ih ib (nI x0n) (nI y0n) (nI x1n) (nI y1n) (zv v) = 0 → u.2.1 = ib ∧ u.2.2.1 = mk ∧ u.2.2.2.1 = tE ∧ u.2.2.2.2 = tG)) (fun u t => (va_P (dC, dI) vwCl (w5 a0 aT aE aG aR aN aS aQ aW aX cD cI u.1 iw ih fa fb fd u.2.1 u.2.2.1 im iq tT u.2.2.2.1 u.2.2.2.2 tR tN tS tQ tW tX) t.heap ∧ va_K (dC, dI) vwCl [(cD, .double), (cI, .int)] t ∧ va_D A (w5 a0 aT aE aG aR aN aS aQ aW aX cD cI u.1 iw ih fa fb fd u.2.1 u.2.2.1 im iq tT u.2.2.2.1 u.2.2.2.2 tR tN tS tQ tW tX))) A) ([.ref a0, .int (nI x0n), .int (nI y0n), .int (nI x1n), .int (nI y1n), .double v] : List Value).toArray s 0 0 A) (F0 m 124 ls [.int (nI m0), .int (nI (4 * ib)), .ref aE]) := by
                  intro m0 H locs ls hm0 hP hD hS hl
                  refine z_iast (n := 48) (i := 4 * ib) hx hb hK hP hD hS 2 1 rfl rfl (by omega) (by decide) dX5_brace_124 (fun H locs hP hD hS => ?_)
                  have hP : va_P (dC, dI) vwCl (w5 a0 aT aE aG aR aN aS aQ aW aX cD cI (nI 0) iw ih fa fb fd ib mk im iq tT (zu tE (4 * ib) (nI m0)) tG tR tN tS tQ tW tX) H := hP
                  have hD : va_D A (w5 a0 aT aE aG aR aN aS aQ aW aX cD cI (nI 0) iw ih fa fb fd ib mk im iq tT (zu tE (4 * ib) (nI m0)) tG tR tN tS tQ tW tX) := hD
                  have J_149 : ∀ (m1 : Nat) (H : Heap) (locs : List Loc) (ls : Array Slot), (m1 = zmin y0n y1n) → va_P (dC, dI) vwCl (w5 a0 aT aE aG aR aN aS aQ aW aX cD cI (nI 0) iw ih fa fb fd ib mk im iq tT (zu tE (4 * ib) (nI m0)) tG tR tN tS tQ tW tX) H → va_D A (w5 a0 aT aE aG aR aN aS aQ aW aX cD cI (nI 0) iw ih fa fb fd ib mk im iq tT (zu tE (4 * ib) (nI m0)) tG tR tN tS tQ tW tX) → va_S A s.heap H locs → lv_has ls 8 [(0, .ref a0), (1, .int (nI x0n)), (2, .int (nI y0n)), (3, .int (nI x1n)), (4, .int (nI y1n)), (5, .double v)] → W p l e (headSpec wsX5_brace ({ frames := 1, cells := 0, slots := 0, locals := 25 } : Room)).room s m ([.ref a0, .int (nI x0n), .int (nI y0n), .int (nI x1n), .int (nI y1n), .double v] : List Value).toArray below meth c H locs 0 0 (MQ below (va_Qi (fun (r : Int32) (u : Int32 × Nat × Bool × (Nat → Int32) × (Nat → UInt64)) => u.1 = nI (zcB iw ih ib (nI x0n) (nI y0n) (nI x1n) (nI y1n) (zv v)) ∧ (zcB iw ih ib (nI x0n) (nI y0n) (nI x1n) (nI y1n) (zv v) = 0 → r = nI (ib + 1) ∧ u.2.1 = ib + 1 ∧ u.2.2.1 = false ∧ u.2.2.2.1 = zu (zu (zu (zu tE (4 * ib) (nI (zmin (zn (nI x0n)) (zn (nI x1n))))) (4 * ib + 1) (nI (zmin (zn (nI y0n)) (zn (nI y1n))))) (4 * ib + 2) (nI (zmax (zn (nI x0n)) (zn (nI x1n))))) (4 * ib + 3) (nI (zmax (zn (nI y0n)) (zn (nI y1n)))) ∧ u.2.2.2.2 = zu tG ib v) ∧ (¬ zcB iw ih ib (nI x0n) (nI y0n) (nI x1n) (nI y1n) (zv v) = 0 → u.2.1 = ib ∧ u.2.2.1 = mk ∧ u.2.2.2.1 = tE ∧ u.2.2.2.2 = tG)) (fun u t => (va_P (dC, dI) vwCl (w5 a0 aT aE aG aR aN aS aQ aW aX cD cI u.1 iw ih fa fb fd u.2.1 u.2.2.1 im iq tT u.2.2.2.1 u.2.2.2.2 tR tN tS tQ tW tX) t.heap ∧ va_K (dC, dI) vwCl [(cD, .double), (cI, .int)] t ∧ va_D A (w5 a0 aT aE aG aR aN aS aQ aW aX cD cI u.1 iw ih fa fb fd u.2.1 u.2.2.1 im iq tT u.2.2.2.1 u.2.2.2.2 tR tN tS tQ tW tX))) A) ([.ref a0, .int (nI x0n), .int (nI y0n), .int (nI x1n), .int (nI y1n), .double v] : List Value).toArray s 0 0 A) (F0 m 149 ls [.int (nI m1), .int (nI (4 * ib + 1)), .ref aE]) := by
                    intro m1 H locs ls hm1 hP hD hS hl
                    refine z_iast (n := 48) (i := 4 * ib + 1) hx hb hK hP hD hS 2 1 rfl rfl (by omega) (by decide) dX5_brace_149 (fun H locs hP hD hS => ?_)
                    have hP : va_P (dC, dI) vwCl (w5 a0 aT aE aG aR aN aS aQ aW aX cD cI (nI 0) iw ih fa fb fd ib mk im iq tT (zu (zu tE (4 * ib) (nI m0)) (4 * ib + 1) (nI m1)) tG tR tN tS tQ tW tX) H := hP
                    have hD : va_D A (w5 a0 aT aE aG aR aN aS aQ aW aX cD cI (nI 0) iw ih fa fb fd ib mk im iq tT (zu (zu tE (4 * ib) (nI m0)) (4 * ib + 1) (nI m1)) tG tR tN tS tQ tW tX) := hD
                    have J_172 : ∀ (m2 : Nat) (H : Heap) (locs : List Loc) (ls : Array Slot), (m2 = zmax x0n x1n) → va_P (dC, dI) vwCl (w5 a0 aT aE aG aR aN aS aQ aW aX cD cI (nI 0) iw ih fa fb fd ib mk im iq tT (zu (zu tE (4 * ib) (nI m0)) (4 * ib + 1) (nI m1)) tG tR tN tS tQ tW tX) H → va_D A (w5 a0 aT aE aG aR aN aS aQ aW aX cD cI (nI 0) iw ih fa fb fd ib mk im iq tT (zu (zu tE (4 * ib) (nI m0)) (4 * ib + 1) (nI m1)) tG tR tN tS tQ tW tX) → va_S A s.heap H locs → lv_has ls 8 [(0, .ref a0), (1, .int (nI x0n)), (2, .int (nI y0n)), (3, .int (nI x1n)), (4, .int (nI y1n)), (5, .double v)] → W p l e (headSpec wsX5_brace ({ frames := 1, cells := 0, slots := 0, locals := 25 } : Room)).room s m ([.ref a0, .int (nI x0n), .int (nI y0n), .int (nI x1n), .int (nI y1n), .double v] : List Value).toArray below meth c H locs 0 0 (MQ below (va_Qi (fun (r : Int32) (u : Int32 × Nat × Bool × (Nat → Int32) × (Nat → UInt64)) => u.1 = nI (zcB iw ih ib (nI x0n) (nI y0n) (nI x1n) (nI y1n) (zv v)) ∧ (zcB iw ih ib (nI x0n) (nI y0n) (nI x1n) (nI y1n) (zv v) = 0 → r = nI (ib + 1) ∧ u.2.1 = ib + 1 ∧ u.2.2.1 = false ∧ u.2.2.2.1 = zu (zu (zu (zu tE (4 * ib) (nI (zmin (zn (nI x0n)) (zn (nI x1n))))) (4 * ib + 1) (nI (zmin (zn (nI y0n)) (zn (nI y1n))))) (4 * ib + 2) (nI (zmax (zn (nI x0n)) (zn (nI x1n))))) (4 * ib + 3) (nI (zmax (zn (nI y0n)) (zn (nI y1n)))) ∧ u.2.2.2.2 = zu tG ib v) ∧ (¬ zcB iw ih ib (nI x0n) (nI y0n) (nI x1n) (nI y1n) (zv v) = 0 → u.2.1 = ib ∧ u.2.2.1 = mk ∧ u.2.2.2.1 = tE ∧ u.2.2.2.2 = tG)) (fun u t => (va_P (dC, dI) vwCl (w5 a0 aT aE aG aR aN aS aQ aW aX cD cI u.1 iw ih fa fb fd u.2.1 u.2.2.1 im iq tT u.2.2.2.1 u.2.2.2.2 tR tN tS tQ tW tX) t.heap ∧ va_K (dC, dI) vwCl [(cD, .double), (cI, .int)] t ∧ va_D A (w5 a0 aT aE aG aR aN aS aQ aW aX cD cI u.1 iw ih fa fb fd u.2.1 u.2.2.1 im iq tT u.2.2.2.1 u.2.2.2.2 tR tN tS tQ tW tX))) A) ([.ref a0, .int (nI x0n), .int (nI y0n), .int (nI x1n), .int (nI y1n), .double v] : List Value).toArray s 0 0 A) (F0 m 172 ls [.int (nI m2), .int (nI (4 * ib + 2)), .ref aE]) := by
                      intro m2 H locs ls hm2 hP hD hS hl
                      refine z_iast (n := 48) (i := 4 * ib + 2) hx hb hK hP hD hS 2 1 rfl rfl (by omega) (by decide) dX5_brace_172 (fun H locs hP hD hS => ?_)
                      have hP : va_P (dC, dI) vwCl (w5 a0 aT aE aG aR aN aS aQ aW aX cD cI (nI 0) iw ih fa fb fd ib mk im iq tT (zu (zu (zu tE (4 * ib) (nI m0)) (4 * ib + 1) (nI m1)) (4 * ib + 2) (nI m2)) tG tR tN tS tQ tW tX) H := hP
                      have hD : va_D A (w5 a0 aT aE aG aR aN aS aQ aW aX cD cI (nI 0) iw ih fa fb fd ib mk im iq tT (zu (zu (zu tE (4 * ib) (nI m0)) (4 * ib + 1) (nI m1)) (4 * ib + 2) (nI m2)) tG tR tN tS tQ tW tX) := hD
                      have J_197 : ∀ (m3 : Nat) (H : Heap) (locs : List Loc) (ls : Array Slot), (m3 = zmax y0n y1n) → va_P (dC, dI) vwCl (w5 a0 aT aE aG aR aN aS aQ aW aX cD cI (nI 0) iw ih fa fb fd ib mk im iq tT (zu (zu (zu tE (4 * ib) (nI m0)) (4 * ib + 1) (nI m1)) (4 * ib + 2) (nI m2)) tG tR tN tS tQ tW tX) H → va_D A (w5 a0 aT aE aG aR aN aS aQ aW aX cD cI (nI 0) iw ih fa fb fd ib mk im iq tT (zu (zu (zu tE (4 * ib) (nI m0)) (4 * ib + 1) (nI m1)) (4 * ib + 2) (nI m2)) tG tR tN tS tQ tW tX) → va_S A s.heap H locs → lv_has ls 8 [(0, .ref a0), (1, .int (nI x0n)), (2, .int (nI y0n)), (3, .int (nI x1n)), (4, .int (nI y1n)), (5, .double v)] → W p l e (headSpec wsX5_brace ({ frames := 1, cells := 0, slots := 0, locals := 25 } : Room)).room s m ([.ref a0, .int (nI x0n), .int (nI y0n), .int (nI x1n), .int (nI y1n), .double v] : List Value).toArray below meth c H locs 0 0 (MQ below (va_Qi (fun (r : Int32) (u : Int32 × Nat × Bool × (Nat → Int32) × (Nat → UInt64)) => u.1 = nI (zcB iw ih ib (nI x0n) (nI y0n) (nI x1n) (nI y1n) (zv v)) ∧ (zcB iw ih ib (nI x0n) (nI y0n) (nI x1n) (nI y1n) (zv v) = 0 → r = nI (ib + 1) ∧ u.2.1 = ib + 1 ∧ u.2.2.1 = false ∧ u.2.2.2.1 = zu (zu (zu (zu tE (4 * ib) (nI (zmin (zn (nI x0n)) (zn (nI x1n))))) (4 * ib + 1) (nI (zmin (zn (nI y0n)) (zn (nI y1n))))) (4 * ib + 2) (nI (zmax (zn (nI x0n)) (zn (nI x1n))))) (4 * ib + 3) (nI (zmax (zn (nI y0n)) (zn (nI y1n)))) ∧ u.2.2.2.2 = zu tG ib v) ∧ (¬ zcB iw ih ib (nI x0n) (nI y0n) (nI x1n) (nI y1n) (zv v) = 0 → u.2.1 = ib ∧ u.2.2.1 = mk ∧ u.2.2.2.1 = tE ∧ u.2.2.2.2 = tG)) (fun u t => (va_P (dC, dI) vwCl (w5 a0 aT aE aG aR aN aS aQ aW aX cD cI u.1 iw ih fa fb fd u.2.1 u.2.2.1 im iq tT u.2.2.2.1 u.2.2.2.2 tR tN tS tQ tW tX) t.heap ∧ va_K (dC, dI) vwCl [(cD, .double), (cI, .int)] t ∧ va_D A (w5 a0 aT aE aG aR aN aS aQ aW aX cD cI u.1 iw ih fa fb fd u.2.1 u.2.2.1 im iq tT u.2.2.2.1 u.2.2.2.2 tR tN tS tQ tW tX))) A) ([.ref a0, .int (nI x0n), .int (nI y0n), .int (nI x1n), .int (nI y1n), .double v] : List Value).toArray s 0 0 A) (F0 m 197 ls [.int (nI m3), .int (nI (4 * ib + 3)), .ref aE]) := by
                        intro m3 H locs ls hm3 hP hD hS hl
                        refine z_iast (n := 48) (i := 4 * ib + 3) hx hb hK hP hD hS 2 1 rfl rfl (by omega) (by decide) dX5_brace_197 (fun H locs hP hD hS => ?_)
                        have hP : va_P (dC, dI) vwCl (w5 a0 aT aE aG aR aN aS aQ aW aX cD cI (nI 0) iw ih fa fb fd ib mk im iq tT (zu (zu (zu (zu tE (4 * ib) (nI m0)) (4 * ib + 1) (nI m1)) (4 * ib + 2) (nI m2)) (4 * ib + 3) (nI m3)) tG tR tN tS tQ tW tX) H := hP
                        have hD : va_D A (w5 a0 aT aE aG aR aN aS aQ aW aX cD cI (nI 0) iw ih fa fb fd ib mk im iq tT (zu (zu (zu (zu tE (4 * ib) (nI m0)) (4 * ib + 1) (nI m1)) (4 * ib + 2) (nI m2)) (4 * ib + 3) (nI m3)) tG tR tN tS tQ tW tX) := hD
                        refine lv_aload_n hx hb dX5_brace_198 rfl (lv_at hl 0 rfl) ?_
                        refine va_get (D := (dC, dI)) (ci := 5) (v := .ref aG) (C := RX5) (T := TX5) (N := 19) hx hb hts (in_X5_brace_X5) hown hK hP 0 rfl rfl 9 (by decide) (hts (.fieldLink RX5 27 "PlateModesModel" "heights" "[D") (by decide +kernel)) (fun _ h9 => h9) rfl dX5_brace_199 ?_
                        refine lv_aload_n hx hb dX5_brace_202 rfl (lv_at hl 0 rfl) ?_
                        refine va_get (D := (dC, dI)) (ci := 5) (v := .int (nI ib)) (C := RX5) (T := TX5) (N := 19) hx hb hts (in_X5_brace_X5) hown hK hP 0 rfl rfl 7 (by decide) (hts (.fieldLink RX5 76 "PlateModesModel" "braces" "I") (by decide +kernel)) (fun _ h9 => h9) rfl dX5_brace_203 ?_
                        refine lv_dload hx hb dX5_brace_206 (lv_at hl 5 rfl) ?_
                        refine z_dast (n := 12) (i := ib) hx hb hK hP hD hS 3 0 rfl rfl (by omega) (by decide) dX5_brace_208 (fun H locs hP hD hS => ?_)
                        have hP : va_P (dC, dI) vwCl (w5 a0 aT aE aG aR aN aS aQ aW aX cD cI (nI 0) iw ih fa fb fd ib mk im iq tT (zu (zu (zu (zu tE (4 * ib) (nI m0)) (4 * ib + 1) (nI m1)) (4 * ib + 2) (nI m2)) (4 * ib + 3) (nI m3)) (zu tG ib v) tR tN tS tQ tW tX) H := hP
                        have hD : va_D A (w5 a0 aT aE aG aR aN aS aQ aW aX cD cI (nI 0) iw ih fa fb fd ib mk im iq tT (zu (zu (zu (zu tE (4 * ib) (nI m0)) (4 * ib + 1) (nI m1)) (4 * ib + 2) (nI m2)) (4 * ib + 3) (nI m3)) (zu tG ib v) tR tN tS tQ tW tX) := hD
                        refine lv_aload_n hx hb dX5_brace_209 rfl (lv_at hl 0 rfl) ?_
                        refine lv_dup hx hb dX5_brace_210 rfl ?_
                        refine va_get (D := (dC, dI)) (ci := 5) (v := .int (nI ib)) (C := RX5) (T := TX5) (N := 19) hx hb hts (in_X5_brace_X5) hown hK hP 0 rfl rfl 7 (by decide) (hts (.fieldLink RX5 76 "PlateModesModel" "braces" "I") (by decide +kernel)) (fun _ h9 => h9) rfl dX5_brace_211 ?_
                        refine lv_iconst (v := (nI 1)) hx hb dX5_brace_214 (by decide) ?_
                        refine t_iadd hx hb dX5_brace_215 (v := nI (ib + 1)) (zi_add (by omega)) ?_
                        refine va_put (D := (dC, dI)) (ci := 5) (v := .int (nI (ib + 1))) (ty := .int) (C := RX5) (T := TX5) (N := 19) hx hb hts (in_X5_brace_X5) tyX5 tyX5_ok nmX5 hown hK hP hD hS 0 rfl rfl 7 (by decide) (hts (.fieldLink RX5 76 "PlateModesModel" "braces" "I") (by decide +kernel)) (fun _ h9 => h9) rfl (by decide +kernel) rfl rfl (Nat.le_of_ble_eq_true rfl) dX5_brace_216 (fun H locs hP hD hS => ?_)
                        have hP : va_P (dC, dI) vwCl (w5 a0 aT aE aG aR aN aS aQ aW aX cD cI (nI 0) iw ih fa fb fd (ib + 1) mk im iq tT (zu (zu (zu (zu tE (4 * ib) (nI m0)) (4 * ib + 1) (nI m1)) (4 * ib + 2) (nI m2)) (4 * ib + 3) (nI m3)) (zu tG ib v) tR tN tS tQ tW tX) H := hP
                        have hD : va_D A (w5 a0 aT aE aG aR aN aS aQ aW aX cD cI (nI 0) iw ih fa fb fd (ib + 1) mk im iq tT (zu (zu (zu (zu tE (4 * ib) (nI m0)) (4 * ib + 1) (nI m1)) (4 * ib + 2) (nI m2)) (4 * ib + 3) (nI m3)) (zu tG ib v) tR tN tS tQ tW tX) := hD
                        refine lv_aload_n hx hb dX5_brace_219 rfl (lv_at hl 0 rfl) ?_
                        refine lv_iconst (v := (nI 0)) hx hb dX5_brace_220 (by decide) ?_
                        refine va_put (D := (dC, dI)) (ci := 5) (v := .int (zb false)) (ty := .boolean) (C := RX5) (T := TX5) (N := 19) hx hb hts (in_X5_brace_X5) tyX5 tyX5_ok nmX5 hown hK hP hD hS 0 rfl rfl 12 (by decide) (hts (.fieldLink RX5 72 "PlateModesModel" "made" "Z") (by decide +kernel)) (fun _ h9 => h9) rfl (by decide +kernel) rfl rfl (Nat.le_of_ble_eq_true rfl) dX5_brace_221 (fun H locs hP hD hS => ?_)
                        have hP : va_P (dC, dI) vwCl (w5 a0 aT aE aG aR aN aS aQ aW aX cD cI (nI 0) iw ih fa fb fd (ib + 1) false im iq tT (zu (zu (zu (zu tE (4 * ib) (nI m0)) (4 * ib + 1) (nI m1)) (4 * ib + 2) (nI m2)) (4 * ib + 3) (nI m3)) (zu tG ib v) tR tN tS tQ tW tX) H := hP
                        have hD : va_D A (w5 a0 aT aE aG aR aN aS aQ aW aX cD cI (nI 0) iw ih fa fb fd (ib + 1) false im iq tT (zu (zu (zu (zu tE (4 * ib) (nI m0)) (4 * ib + 1) (nI m1)) (4 * ib + 2) (nI m2)) (4 * ib + 3) (nI m3)) (zu tG ib v) tR tN tS tQ tW tX) := hD
                        refine lv_aload_n hx hb dX5_brace_224 rfl (lv_at hl 0 rfl) ?_
                        refine va_get (D := (dC, dI)) (ci := 5) (v := .int (nI (ib + 1))) (C := RX5) (T := TX5) (N := 19) hx hb hts (in_X5_brace_X5) hown hK hP 0 rfl rfl 7 (by decide) (hts (.fieldLink RX5 76 "PlateModesModel" "braces" "I") (by decide +kernel)) (fun _ h9 => h9) rfl dX5_brace_225 ?_
                        exact W.iret (v := (nI (ib + 1))) hx hb hr (fun t ht hW => ⟨⟨(nI (ib + 1)), ((nI 0), ib + 1, false, zu (zu (zu (zu tE (4 * ib) (nI m0)) (4 * ib + 1) (nI m1)) (4 * ib + 2) (nI m2)) (4 * ib + 3) (nI m3), zu tG ib v), rfl, ⟨congrArg nI ((if_neg (fun q => q.elim c_38 c_48)).trans ((if_neg (fun q => q.elim (fun z => z (of_decide_eq_true (hln.symm.trans c_57))) (fun z => absurd (z.symm.trans c_71) (by decide)))).trans (if_neg c_84))).symm, fun _ => by rw [zn_nI (by omega), zn_nI (by omega), zn_nI (by omega), zn_nI (by omega), ← hm0, ← hm1, ← hm2, ← hm3]; exact ⟨rfl, rfl, rfl, rfl, rfl⟩, fun h => absurd ((if_neg (fun q => q.elim c_38 c_48)).trans ((if_neg (fun q => q.elim (fun z => z (of_decide_eq_true (hln.symm.trans c_57))) (fun z => absurd (z.symm.trans c_71) (by decide)))).trans (if_neg c_84))) h⟩, by rw [ht]; exact hP, va_K.moved hW.alike hK, hD⟩, hS.F ht⟩) hS.2.2 dX5_brace_228
                      refine lv_aload_n hx hb dX5_brace_173 rfl (lv_at hl 0 rfl) ?_
                      refine va_get (D := (dC, dI)) (ci := 5) (v := .ref aE) (C := RX5) (T := TX5) (N := 19) hx hb hts (in_X5_brace_X5) hown hK hP 0 rfl rfl 8 (by decide) (hts (.fieldLink RX5 23 "PlateModesModel" "ends" "[I") (by decide +kernel)) (fun _ h9 => h9) rfl dX5_brace_174 ?_
                      refine lv_iconst (v := (nI 4)) hx hb dX5_brace_177 (by decide) ?_
                      refine lv_aload_n hx hb dX5_brace_178 rfl (lv_at hl 0 rfl) ?_
                      refine va_get (D := (dC, dI)) (ci := 5) (v := .int (nI ib)) (C := RX5) (T := TX5) (N := 19) hx hb hts (in_X5_brace_X5) hown hK hP 0 rfl rfl 7 (by decide) (hts (.fieldLink RX5 76 "PlateModesModel" "braces" "I") (by decide +kernel)) (fun _ h9 => h9) rfl dX5_brace_179 ?_
                      refine t_imul hx hb dX5_brace_182 (v := nI (4 * ib)) (zi_mul rfl) ?_
                      refine lv_iconst (v := (nI 3)) hx hb dX5_brace_183 (by decide) ?_
                      refine t_iadd hx hb dX5_brace_184 (v := nI (4 * ib + 3)) (zi_add (by omega)) ?_
                      refine lv_iload_n hx hb dX5_brace_185 rfl (lv_at hl 2 rfl) ?_
                      refine lv_iload hx hb dX5_brace_186 (lv_at hl 4 rfl) ?_
                      refine z_icmp_ge (a := y0n) (b := y1n) (tgt := 196) hx hb (by omega) (by omega) dX5_brace_188 (by decide) (fun c20 => ?_) (fun c21 => ?_)
                      · skip
                        refine lv_iload_n hx hb dX5_brace_196 rfl (lv_at hl 2 rfl) ?_
                        exact J_197 y0n _ _ _ ((if_neg (show ¬ y0n < y1n from by omega)).symm) hP hD hS hl
                      · skip
                        refine lv_iload hx hb dX5_brace_191 (lv_at hl 4 rfl) ?_
                        refine lv_goto (tgt := 197) hx hb dX5_brace_193 (by decide) ?_
                        exact J_197 y1n _ _ _ ((if_pos (show y0n < y1n from by omega)).symm) hP hD hS hl
                    refine lv_aload_n hx hb dX5_brace_150 rfl (lv_at hl 0 rfl) ?_
                    refine va_get (D := (dC, dI)) (ci := 5) (v := .ref aE) (C := RX5) (T := TX5) (N := 19) hx hb hts (in_X5_brace_X5) hown hK hP 0 rfl rfl 8 (by decide) (hts (.fieldLink RX5 23 "PlateModesModel" "ends" "[I") (by decide +kernel)) (fun _ h9 => h9) rfl dX5_brace_151 ?_
                    refine lv_iconst (v := (nI 4)) hx hb dX5_brace_154 (by decide) ?_
                    refine lv_aload_n hx hb dX5_brace_155 rfl (lv_at hl 0 rfl) ?_
                    refine va_get (D := (dC, dI)) (ci := 5) (v := .int (nI ib)) (C := RX5) (T := TX5) (N := 19) hx hb hts (in_X5_brace_X5) hown hK hP 0 rfl rfl 7 (by decide) (hts (.fieldLink RX5 76 "PlateModesModel" "braces" "I") (by decide +kernel)) (fun _ h9 => h9) rfl dX5_brace_156 ?_
                    refine t_imul hx hb dX5_brace_159 (v := nI (4 * ib)) (zi_mul rfl) ?_
                    refine lv_iconst (v := (nI 2)) hx hb dX5_brace_160 (by decide) ?_
                    refine t_iadd hx hb dX5_brace_161 (v := nI (4 * ib + 2)) (zi_add (by omega)) ?_
                    refine lv_iload_n hx hb dX5_brace_162 rfl (lv_at hl 1 rfl) ?_
                    refine lv_iload_n hx hb dX5_brace_163 rfl (lv_at hl 3 rfl) ?_
                    refine z_icmp_ge (a := x0n) (b := x1n) (tgt := 171) hx hb (by omega) (by omega) dX5_brace_164 (by decide) (fun c22 => ?_) (fun c23 => ?_)
                    · skip
                      refine lv_iload_n hx hb dX5_brace_171 rfl (lv_at hl 1 rfl) ?_
                      exact J_172 x0n _ _ _ ((if_neg (show ¬ x0n < x1n from by omega)).symm) hP hD hS hl
                    · skip
                      refine lv_iload_n hx hb dX5_brace_167 rfl (lv_at hl 3 rfl) ?_
                      refine lv_goto (tgt := 172) hx hb dX5_brace_168 (by decide) ?_
                      exact J_172 x1n _ _ _ ((if_pos (show x0n < x1n from by omega)).symm) hP hD hS hl
                  refine lv_aload_n hx hb dX5_brace_125 rfl (lv_at hl 0 rfl) ?_
                  refine va_get (D := (dC, dI)) (ci := 5) (v := .ref aE) (C := RX5) (T := TX5) (N := 19) hx hb hts (in_X5_brace_X5) hown hK hP 0 rfl rfl 8 (by decide) (hts (.fieldLink RX5 23 "PlateModesModel" "ends" "[I") (by decide +kernel)) (fun _ h9 => h9) rfl dX5_brace_126 ?_
                  refine lv_iconst (v := (nI 4)) hx hb dX5_brace_129 (by decide) ?_
                  refine lv_aload_n hx hb dX5_brace_130 rfl (lv_at hl 0 rfl) ?_
                  refine va_get (D := (dC, dI)) (ci := 5) (v := .int (nI ib)) (C := RX5) (T := TX5) (N := 19) hx hb hts (in_X5_brace_X5) hown hK hP 0 rfl rfl 7 (by decide) (hts (.fieldLink RX5 76 "PlateModesModel" "braces" "I") (by decide +kernel)) (fun _ h9 => h9) rfl dX5_brace_131 ?_
                  refine t_imul hx hb dX5_brace_134 (v := nI (4 * ib)) (zi_mul rfl) ?_
                  refine lv_iconst (v := (nI 1)) hx hb dX5_brace_135 (by decide) ?_
                  refine t_iadd hx hb dX5_brace_136 (v := nI (4 * ib + 1)) (zi_add (by omega)) ?_
                  refine lv_iload_n hx hb dX5_brace_137 rfl (lv_at hl 2 rfl) ?_
                  refine lv_iload hx hb dX5_brace_138 (lv_at hl 4 rfl) ?_
                  refine z_icmp_ge (a := y0n) (b := y1n) (tgt := 147) hx hb (by omega) (by omega) dX5_brace_140 (by decide) (fun c24 => ?_) (fun c25 => ?_)
                  · skip
                    refine lv_iload hx hb dX5_brace_147 (lv_at hl 4 rfl) ?_
                    exact J_149 y1n _ _ _ ((if_neg (show ¬ y0n < y1n from by omega)).symm) hP hD hS hl
                  · skip
                    refine lv_iload_n hx hb dX5_brace_143 rfl (lv_at hl 2 rfl) ?_
                    refine lv_goto (tgt := 149) hx hb dX5_brace_144 (by decide) ?_
                    exact J_149 y0n _ _ _ ((if_pos (show y0n < y1n from by omega)).symm) hP hD hS hl
                refine lv_aload_n hx hb dX5_brace_104 rfl (lv_at hl 1 rfl) ?_
                refine va_get (D := (dC, dI)) (ci := 5) (v := .ref aE) (C := RX5) (T := TX5) (N := 19) hx hb hts (in_X5_brace_X5) hown hK hP 0 rfl rfl 8 (by decide) (hts (.fieldLink RX5 23 "PlateModesModel" "ends" "[I") (by decide +kernel)) (fun _ h9 => h9) rfl dX5_brace_105 ?_
                refine lv_iconst (v := (nI 4)) hx hb dX5_brace_108 (by decide) ?_
                refine lv_aload_n hx hb dX5_brace_109 rfl (lv_at hl 1 rfl) ?_
                refine va_get (D := (dC, dI)) (ci := 5) (v := .int (nI ib)) (C := RX5) (T := TX5) (N := 19) hx hb hts (in_X5_brace_X5) hown hK hP 0 rfl rfl 7 (by decide) (hts (.fieldLink RX5 76 "PlateModesModel" "braces" "I") (by decide +kernel)) (fun _ h9 => h9) rfl dX5_brace_110 ?_
                refine t_imul hx hb dX5_brace_113 (v := nI (4 * ib)) (zi_mul rfl) ?_
                refine lv_iload_n hx hb dX5_brace_114 rfl (lv_at hl 2 rfl) ?_
                refine lv_iload_n hx hb dX5_brace_115 rfl (lv_at hl 4 rfl) ?_
                refine z_icmp_ge (a := x0n) (b := x1n) (tgt := 123) hx hb (by omega) (by omega) dX5_brace_116 (by decide) (fun c26 => ?_) (fun c27 => ?_)
                · skip
                  refine lv_iload_n hx hb dX5_brace_123 rfl (lv_at hl 4 rfl) ?_
                  exact J_124 x1n _ _ _ ((if_neg (show ¬ x0n < x1n from by omega)).symm) hP hD hS (lv_sub hl [1, 2, 3, 4, 5, 6] rfl)
                · skip
                  refine lv_iload_n hx hb dX5_brace_119 rfl (lv_at hl 2 rfl) ?_
                  refine lv_goto (tgt := 124) hx hb dX5_brace_120 (by decide) ?_
                  exact J_124 x0n _ _ _ ((if_pos (show x0n < x1n from by omega)).symm) hP hD hS (lv_sub hl [1, 2, 3, 4, 5, 6] rfl)
              · skip
                exact absurd c19 (by decide)
            · skip
              have c_84 := c17
              refine lv_iconst (v := (nI 3)) hx hb dX5_brace_87 (by decide) ?_
              refine lv_goto (tgt := 92) hx hb dX5_brace_88 (by decide) ?_
              refine va_put (D := (dC, dI)) (ci := 5) (v := .int (nI 3)) (ty := .int) (C := RX5) (T := TX5) (N := 19) hx hb hts (in_X5_brace_X5) tyX5 tyX5_ok nmX5 hown hK hP hD hS 0 rfl rfl 0 (by decide) (hts (.fieldLink RX5 55 "PlateModesModel" "thrown" "I") (by decide +kernel)) (fun _ h9 => h9) rfl (by decide +kernel) rfl rfl (Nat.le_of_ble_eq_true rfl) dX5_brace_92 (fun H locs hP hD hS => ?_)
              have hP : va_P (dC, dI) vwCl (w5 a0 aT aE aG aR aN aS aQ aW aX cD cI (nI 3) iw ih fa fb fd ib mk im iq tT tE tG tR tN tS tQ tW tX) H := hP
              have hD : va_D A (w5 a0 aT aE aG aR aN aS aQ aW aX cD cI (nI 3) iw ih fa fb fd ib mk im iq tT tE tG tR tN tS tQ tW tX) := hD
              refine lv_aload_n hx hb dX5_brace_95 rfl (lv_at hl 1 rfl) ?_
              refine va_get (D := (dC, dI)) (ci := 5) (v := .int (nI 3)) (C := RX5) (T := TX5) (N := 19) hx hb hts (in_X5_brace_X5) hown hK hP 0 rfl rfl 0 (by decide) (hts (.fieldLink RX5 55 "PlateModesModel" "thrown" "I") (by decide +kernel)) (fun _ h9 => h9) rfl dX5_brace_96 ?_
              refine z_if_le (tgt := 104) hx hb (by omega) dX5_brace_99 (by decide) (fun c28 => ?_) (fun c29 => ?_)
              · skip
                exact absurd c28 (by decide)
              · skip
                refine lv_iconst (v := (nI 0)) hx hb dX5_brace_102 (by decide) ?_
                exact W.iret (v := (nI 0)) hx hb hr (fun t ht hW => ⟨⟨(nI 0), ((nI 3), ib, mk, tE, tG), rfl, ⟨congrArg nI ((if_neg (fun q => q.elim c_38 c_48)).trans ((if_neg (fun q => q.elim (fun z => z (of_decide_eq_true (hln.symm.trans c_57))) (fun z => absurd (z.symm.trans c_71) (by decide)))).trans (if_pos c_84))).symm, fun h => absurd (((if_neg (fun q => q.elim c_38 c_48)).trans ((if_neg (fun q => q.elim (fun z => z (of_decide_eq_true (hln.symm.trans c_57))) (fun z => absurd (z.symm.trans c_71) (by decide)))).trans (if_pos c_84))).symm.trans h) (by decide), fun _ => ⟨rfl, rfl, rfl, rfl⟩⟩, by rw [ht]; exact hP, va_K.moved hW.alike hK, hD⟩, hS.F ht⟩) hS.2.2 dX5_brace_103
          · skip
            have c_71 := c15
            refine lv_iconst (v := (nI 2)) hx hb dX5_brace_74 (by decide) ?_
            refine lv_goto (tgt := 92) hx hb dX5_brace_75 (by decide) ?_
            refine va_put (D := (dC, dI)) (ci := 5) (v := .int (nI 2)) (ty := .int) (C := RX5) (T := TX5) (N := 19) hx hb hts (in_X5_brace_X5) tyX5 tyX5_ok nmX5 hown hK hP hD hS 0 rfl rfl 0 (by decide) (hts (.fieldLink RX5 55 "PlateModesModel" "thrown" "I") (by decide +kernel)) (fun _ h9 => h9) rfl (by decide +kernel) rfl rfl (Nat.le_of_ble_eq_true rfl) dX5_brace_92 (fun H locs hP hD hS => ?_)
            have hP : va_P (dC, dI) vwCl (w5 a0 aT aE aG aR aN aS aQ aW aX cD cI (nI 2) iw ih fa fb fd ib mk im iq tT tE tG tR tN tS tQ tW tX) H := hP
            have hD : va_D A (w5 a0 aT aE aG aR aN aS aQ aW aX cD cI (nI 2) iw ih fa fb fd ib mk im iq tT tE tG tR tN tS tQ tW tX) := hD
            refine lv_aload_n hx hb dX5_brace_95 rfl (lv_at hl 1 rfl) ?_
            refine va_get (D := (dC, dI)) (ci := 5) (v := .int (nI 2)) (C := RX5) (T := TX5) (N := 19) hx hb hts (in_X5_brace_X5) hown hK hP 0 rfl rfl 0 (by decide) (hts (.fieldLink RX5 55 "PlateModesModel" "thrown" "I") (by decide +kernel)) (fun _ h9 => h9) rfl dX5_brace_96 ?_
            refine z_if_le (tgt := 104) hx hb (by omega) dX5_brace_99 (by decide) (fun c30 => ?_) (fun c31 => ?_)
            · skip
              exact absurd c30 (by decide)
            · skip
              refine lv_iconst (v := (nI 0)) hx hb dX5_brace_102 (by decide) ?_
              exact W.iret (v := (nI 0)) hx hb hr (fun t ht hW => ⟨⟨(nI 0), ((nI 2), ib, mk, tE, tG), rfl, ⟨congrArg nI ((if_neg (fun q => q.elim c_38 c_48)).trans (if_pos (by first | exact Or.inl (of_decide_eq_false (hln.symm.trans c_57)) | exact Or.inr c_71))).symm, fun h => absurd (((if_neg (fun q => q.elim c_38 c_48)).trans (if_pos (by first | exact Or.inl (of_decide_eq_false (hln.symm.trans c_57)) | exact Or.inr c_71))).symm.trans h) (by decide), fun _ => ⟨rfl, rfl, rfl, rfl⟩⟩, by rw [ht]; exact hP, va_K.moved hW.alike hK, hD⟩, hS.F ht⟩) hS.2.2 dX5_brace_103
      · skip
        have c_48 := c8
        refine lv_iconst (v := (nI 1)) hx hb dX5_brace_51 (by decide) ?_
        refine lv_goto (tgt := 92) hx hb dX5_brace_52 (by decide) ?_
        refine va_put (D := (dC, dI)) (ci := 5) (v := .int (nI 1)) (ty := .int) (C := RX5) (T := TX5) (N := 19) hx hb hts (in_X5_brace_X5) tyX5 tyX5_ok nmX5 hown hK hP hD hS 0 rfl rfl 0 (by decide) (hts (.fieldLink RX5 55 "PlateModesModel" "thrown" "I") (by decide +kernel)) (fun _ h9 => h9) rfl (by decide +kernel) rfl rfl (Nat.le_of_ble_eq_true rfl) dX5_brace_92 (fun H locs hP hD hS => ?_)
        have hP : va_P (dC, dI) vwCl (w5 a0 aT aE aG aR aN aS aQ aW aX cD cI (nI 1) iw ih fa fb fd ib mk im iq tT tE tG tR tN tS tQ tW tX) H := hP
        have hD : va_D A (w5 a0 aT aE aG aR aN aS aQ aW aX cD cI (nI 1) iw ih fa fb fd ib mk im iq tT tE tG tR tN tS tQ tW tX) := hD
        refine lv_aload_n hx hb dX5_brace_95 rfl (lv_at hl 1 rfl) ?_
        refine va_get (D := (dC, dI)) (ci := 5) (v := .int (nI 1)) (C := RX5) (T := TX5) (N := 19) hx hb hts (in_X5_brace_X5) hown hK hP 0 rfl rfl 0 (by decide) (hts (.fieldLink RX5 55 "PlateModesModel" "thrown" "I") (by decide +kernel)) (fun _ h9 => h9) rfl dX5_brace_96 ?_
        refine z_if_le (tgt := 104) hx hb (by omega) dX5_brace_99 (by decide) (fun c32 => ?_) (fun c33 => ?_)
        · skip
          exact absurd c32 (by decide)
        · skip
          refine lv_iconst (v := (nI 0)) hx hb dX5_brace_102 (by decide) ?_
          exact W.iret (v := (nI 0)) hx hb hr (fun t ht hW => ⟨⟨(nI 0), ((nI 1), ib, mk, tE, tG), rfl, ⟨congrArg nI (if_pos (by first | exact Or.inl c_38 | exact Or.inr c_48)).symm, fun h => absurd ((if_pos (by first | exact Or.inl c_38 | exact Or.inr c_48)).symm.trans h) (by decide), fun _ => ⟨rfl, rfl, rfl, rfl⟩⟩, by rw [ht]; exact hP, va_K.moved hW.alike hK, hD⟩, hS.F ht⟩) hS.2.2 dX5_brace_103
  refine lv_iload_n hx hb dX5_brace_0 rfl (lv_at hl 1 rfl) ?_
  refine lv_iload_n hx hb dX5_brace_1 rfl (lv_at hl 3 rfl) ?_
  refine lv_icmp_ne (tgt := 9) hx hb dX5_brace_2 (by decide) (fun c34 => ?_) (fun c35 => ?_)
  · skip
    have c_2 := c34
    refine lv_iconst (v := (nI 0)) hx hb dX5_brace_9 (by decide) ?_
    refine lv_iload_n hx hb dX5_brace_10 rfl (lv_at hl 2 rfl) ?_
    refine lv_iload hx hb dX5_brace_11 (lv_at hl 4 rfl) ?_
    refine lv_icmp_ne (tgt := 20) hx hb dX5_brace_13 (by decide) (fun c36 => ?_) (fun c37 => ?_)
    · skip
      have c_13 := c36
      refine lv_iconst (v := (nI 0)) hx hb dX5_brace_20 (by decide) ?_
      refine z_icmp_eq (a := 0) (b := 0) (tgt := 28) hx hb (by omega) (by omega) dX5_brace_21 (by decide) (fun c38 => ?_) (fun c39 => ?_)
      · skip
        have c_21 := c38
        refine lv_iconst (v := (nI 0)) hx hb dX5_brace_28 (by decide) ?_
        exact J_29 false _ _ _ ((decide_eq_false (fun hh => by obtain ⟨h1, h2⟩ | ⟨h1, h2⟩ := hh <;> first | exact c_2 h1 | exact c_13 h2 | exact h2 c_13 | exact h1 c_2)).symm) hP hD hS hl
      · skip
        exact absurd c39 (by decide)
    · skip
      have c_13 := c37
      refine lv_iconst (v := (nI 1)) hx hb dX5_brace_16 (by decide) ?_
      refine lv_goto (tgt := 21) hx hb dX5_brace_17 (by decide) ?_
      refine z_icmp_eq (a := 0) (b := 1) (tgt := 28) hx hb (by omega) (by omega) dX5_brace_21 (by decide) (fun c40 => ?_) (fun c41 => ?_)
      · skip
        exact absurd c40 (by decide)
      · skip
        have c_21 := c41
        refine lv_iconst (v := (nI 1)) hx hb dX5_brace_24 (by decide) ?_
        refine lv_goto (tgt := 29) hx hb dX5_brace_25 (by decide) ?_
        exact J_29 true _ _ _ ((decide_eq_true (by first | exact Or.inl ⟨c_2, c_13⟩ | exact Or.inr ⟨c_2, c_13⟩)).symm) hP hD hS hl
  · skip
    have c_2 := c35
    refine lv_iconst (v := (nI 1)) hx hb dX5_brace_5 (by decide) ?_
    refine lv_goto (tgt := 10) hx hb dX5_brace_6 (by decide) ?_
    refine lv_iload_n hx hb dX5_brace_10 rfl (lv_at hl 2 rfl) ?_
    refine lv_iload hx hb dX5_brace_11 (lv_at hl 4 rfl) ?_
    refine lv_icmp_ne (tgt := 20) hx hb dX5_brace_13 (by decide) (fun c42 => ?_) (fun c43 => ?_)
    · skip
      have c_13 := c42
      refine lv_iconst (v := (nI 0)) hx hb dX5_brace_20 (by decide) ?_
      refine z_icmp_eq (a := 1) (b := 0) (tgt := 28) hx hb (by omega) (by omega) dX5_brace_21 (by decide) (fun c44 => ?_) (fun c45 => ?_)
      · skip
        exact absurd c44 (by decide)
      · skip
        have c_21 := c45
        refine lv_iconst (v := (nI 1)) hx hb dX5_brace_24 (by decide) ?_
        refine lv_goto (tgt := 29) hx hb dX5_brace_25 (by decide) ?_
        exact J_29 true _ _ _ ((decide_eq_true (by first | exact Or.inl ⟨c_2, c_13⟩ | exact Or.inr ⟨c_2, c_13⟩)).symm) hP hD hS hl
    · skip
      have c_13 := c43
      refine lv_iconst (v := (nI 1)) hx hb dX5_brace_16 (by decide) ?_
      refine lv_goto (tgt := 21) hx hb dX5_brace_17 (by decide) ?_
      refine z_icmp_eq (a := 1) (b := 1) (tgt := 28) hx hb (by omega) (by omega) dX5_brace_21 (by decide) (fun c46 => ?_) (fun c47 => ?_)
      · skip
        have c_21 := c46
        refine lv_iconst (v := (nI 0)) hx hb dX5_brace_28 (by decide) ?_
        exact J_29 false _ _ _ ((decide_eq_false (fun hh => by obtain ⟨h1, h2⟩ | ⟨h1, h2⟩ := hh <;> first | exact c_2 h1 | exact c_13 h2 | exact h2 c_13 | exact h1 c_2)).symm) hP hD hS hl
      · skip
        exact absurd c47 (by decide)
theorem in_X5_want_X5 : ∀ w ∈ wsX50, w ∈ wsX5_want := fun w h => List.mem_cons_of_mem _ (List.mem_append_right _ h)
set_option maxHeartbeats 4000000 in
set_option maxRecDepth 100000 in
/-- want -/
theorem c5_want (l : Launch) (dC : Nat → ClassId) (dI : Nat → Nat → Nat) (a0 aT aE aG aR aN aS aQ aW aX : Nat) (cD cI : ClassId) (th : Int32) (iw ih : Nat) (fa fb fd : UInt64) (ib : Nat) (mk : Bool) (im iq : Nat) (tT : Nat → UInt64) (tE : Nat → Int32) (tG tR tN tS tQ : Nat → UInt64) (tW : Nat → Int32) (tX : Nat → UInt64) (k : Int32) (v : UInt64) (hq4 : iq ≤ 4) (sz : Nat) : Met l yX5_want wsX5_want ({ frames := 1, cells := 0, slots := 0, locals := 25 } : Room) (va_Pc [.ref a0, .int k, .double v] (fun U => U.heap.size = sz ∧ va_P (dC, dI) vwCl (w5 a0 aT aE aG aR aN aS aQ aW aX cD cI th iw ih fa fb fd ib mk im iq tT tE tG tR tN tS tQ tW tX) U.heap ∧ va_K (dC, dI) vwCl [(cD, .double), (cI, .int)] U ∧ va_D (fun _ => True) (w5 a0 aT aE aG aR aN aS aQ aW aX cD cI th iw ih fa fb fd ib mk im iq tT tE tG tR tN tS tQ tW tX))) (va_Qi (fun (r : Int32) (u : Int32 × Nat × (Nat → Int32) × (Nat → UInt64)) => u.1 = nI (zcWt iq k (zv v)) ∧ (zcWt iq k (zv v) = 0 → r = nI (iq + 1) ∧ u.2.1 = iq + 1 ∧ u.2.2.1 = zu tW iq k ∧ u.2.2.2 = zu tX iq v) ∧ (¬ zcWt iq k (zv v) = 0 → u.2.1 = iq ∧ u.2.2.1 = tW ∧ u.2.2.2 = tX)) (fun u t => (va_P (dC, dI) vwCl (w5 a0 aT aE aG aR aN aS aQ aW aX cD cI u.1 iw ih fa fb fd ib mk im u.2.1 tT tE tG tR tN tS tQ u.2.2.1 u.2.2.2) t.heap ∧ va_K (dC, dI) vwCl [(cD, .double), (cI, .int)] t ∧ va_D (va_A (w5 a0 aT aE aG aR aN aS aQ aW aX cD cI th iw ih fa fb fd ib mk im iq tT tE tG tR tN tS tQ tW tX) sz) (w5 a0 aT aE aG aR aN aS aQ aW aX cD cI u.1 iw ih fa fb fd ib mk im u.2.1 tT tE tG tR tN tS tQ u.2.2.1 u.2.2.2))) (va_A (w5 a0 aT aE aG aR aN aS aQ aW aX cD cI th iw ih fa fb fd ib mk im iq tT tE tG tR tN tS tQ tW tX) sz)) 0 0 (va_A (w5 a0 aT aE aG aR aN aS aQ aW aX cD cI th iw ih fa fb fd ib mk im iq tT tE tG tR tN tS tQ tW tX) sz) := by
  refine Met.ofW (cc := cX5_want) (maxL := 4) (ret := (some .int)) (by decide) rfl ?_
  intro p e s m args below meth c s₁ B hml hv
  obtain ⟨rfl, hsz, hP, hK, hD0⟩ := hv
  have hx := B.exec
  have hb := B.bytes
  have hr := B.returns
  have hts := atoms_spec (ws := wsX5_want) B.pre
  have hown : s.vm.findClass RX5 = some m.cls := findClass_of_methodNamed B.named
  have hlocks := B.notSynchronized
  subst hsz
  have hD := hD0.self (sz := s.heap.size)
  generalize hAe : va_A (w5 a0 aT aE aG aR aN aS aQ aW aX cD cI th iw ih fa fb fd ib mk im iq tT tE tG tR tN tS tQ tW tX) s.heap.size = A at hD ⊢
  have hA : ∀ q : Nat, s.heap.size ≤ q → A q := fun q h => by rw [← hAe]; exact Or.inr h
  have hS : va_S A s.heap s.heap [] := va_S.rf
  have hl := lv_entry ([.ref a0, .int k, .double v]) (n := 4) (Nat.le_of_ble_eq_true rfl)
  rw [lg_entry_eq]
  generalize (lg_sl ([.ref a0, .int k, .double v]) ++ List.replicate (4 - (lg_sl ([.ref a0, .int k, .double v])).length) Slot.unset).toArray = ls at hl ⊢
  have hl : lv_has ls 4 [(0, .ref a0), (1, .int k), (2, .double v)] := hl
  refine lv_aload_n hx hb dX5_want_0 rfl (lv_at hl 0 rfl) ?_
  refine lv_iload_n hx hb dX5_want_1 rfl (lv_at hl 1 rfl) ?_
  refine lv_if_lt (tgt := 10) hx hb dX5_want_2 (by decide) (fun c1 => ?_) (fun c2 => ?_)
  · skip
    have c_2 := c1
    refine lv_iconst (v := (nI 1)) hx hb dX5_want_10 (by decide) ?_
    refine lv_goto (tgt := 42) hx hb dX5_want_11 (by decide) ?_
    refine va_put (D := (dC, dI)) (ci := 5) (v := .int (nI 1)) (ty := .int) (C := RX5) (T := TX5) (N := 19) hx hb hts (in_X5_want_X5) tyX5 tyX5_ok nmX5 hown hK hP hD hS 0 rfl rfl 0 (by decide) (hts (.fieldLink RX5 55 "PlateModesModel" "thrown" "I") (by decide +kernel)) (fun _ h9 => h9) rfl (by decide +kernel) rfl rfl (Nat.le_of_ble_eq_true rfl) dX5_want_42 (fun H locs hP hD hS => ?_)
    have hP : va_P (dC, dI) vwCl (w5 a0 aT aE aG aR aN aS aQ aW aX cD cI (nI 1) iw ih fa fb fd ib mk im iq tT tE tG tR tN tS tQ tW tX) H := hP
    have hD : va_D A (w5 a0 aT aE aG aR aN aS aQ aW aX cD cI (nI 1) iw ih fa fb fd ib mk im iq tT tE tG tR tN tS tQ tW tX) := hD
    refine lv_aload_n hx hb dX5_want_45 rfl (lv_at hl 0 rfl) ?_
    refine va_get (D := (dC, dI)) (ci := 5) (v := .int (nI 1)) (C := RX5) (T := TX5) (N := 19) hx hb hts (in_X5_want_X5) hown hK hP 0 rfl rfl 0 (by decide) (hts (.fieldLink RX5 55 "PlateModesModel" "thrown" "I") (by decide +kernel)) (fun _ h9 => h9) rfl dX5_want_46 ?_
    refine z_if_le (tgt := 54) hx hb (by omega) dX5_want_49 (by decide) (fun c3 => ?_) (fun c4 => ?_)
    · skip
      exact absurd c3 (by decide)
    · skip
      refine lv_iconst (v := (nI 0)) hx hb dX5_want_52 (by decide) ?_
      exact W.iret (v := (nI 0)) hx hb hr (fun t ht hW => ⟨⟨(nI 0), ((nI 1), iq, tW, tX), rfl, ⟨congrArg nI (if_pos (by first | exact Or.inl c_2 | exact Or.inr (Int32.not_lt.mp c_7))).symm, fun h => absurd ((if_pos (by first | exact Or.inl c_2 | exact Or.inr (Int32.not_lt.mp c_7))).symm.trans h) (by decide), fun _ => ⟨rfl, rfl, rfl⟩⟩, by rw [ht]; exact hP, va_K.moved hW.alike hK, hD⟩, hS.F ht⟩) hS.2.2 dX5_want_53
  · skip
    have c_2 := c2
    refine lv_iload_n hx hb dX5_want_5 rfl (lv_at hl 1 rfl) ?_
    refine lv_iconst (v := (nI 4)) hx hb dX5_want_6 (by decide) ?_
    refine lv_icmp_lt (tgt := 14) hx hb dX5_want_7 (by decide) (fun c5 => ?_) (fun c6 => ?_)
    · skip
      have c_7 := c5
      refine lv_dload_n hx hb dX5_want_14 rfl (lv_at hl 2 rfl) ?_
      refine lv_dconst0 hx hb dX5_want_15 ?_
      refine lv_ldc2d (v := 4634204016564240384) hx hb hown (hts (.constantDouble RX5 141 (4634204016564240384)) (by decide +kernel)) dX5_want_16 ?_
      refine va_calli (va_runS (As := [.double v, .double FP.dconst0, .double 4634204016564240384]) (rest := [.ref a0]) ⟨hx, hb, hml, hown, hts⟩ (c5_between l v FP.dconst0 4634204016564240384) (va_cwS 3 hts gX5_want_X5_between rfl rfl rfl (by decide +kernel) ⟨Nat.le_of_ble_eq_true rfl, Nat.le_of_ble_eq_true rfl⟩) ⟨zfb0, zpre0⟩ rfl rfl hl.1 rfl (lv_room (Nat.le_of_ble_eq_true rfl)) dX5_want_19 ⟨Nat.le_of_ble_eq_true rfl, Nat.le_of_ble_eq_true rfl⟩) hS (fun q _ h => h.elim) (fun q h => h.elim) (fun r7 u9 t9 H locs ht9 hvm9 hr7 hB9 hz9 hk1 hS => ?_)
      have hP := zro1 hP hk1
      have hr7 : r7 = zb (zbt (zv v) z0 (zv 4634204016564240384)) := hr7
      subst hr7
      refine z_if_ne_b (tgt := 29) hx hb dX5_want_22 (by decide) (fun c8 => ?_) (fun c9 => ?_)
      · skip
        have c_22 := c8
        refine lv_aload_n hx hb dX5_want_29 rfl (lv_at hl 0 rfl) ?_
        refine va_get (D := (dC, dI)) (ci := 5) (v := .int (nI iq)) (C := RX5) (T := TX5) (N := 19) hx hb hts (in_X5_want_X5) hown hK hP 0 rfl rfl 16 (by decide) (hts (.fieldLink RX5 143 "PlateModesModel" "wants" "I") (by decide +kernel)) (fun _ h9 => h9) rfl dX5_want_30 ?_
        refine lv_iconst (v := (nI 4)) hx hb dX5_want_33 (by decide) ?_
        refine z_icmp_ne (a := iq) (b := 4) (tgt := 41) hx hb (by omega) (by omega) dX5_want_34 (by decide) (fun c10 => ?_) (fun c11 => ?_)
        · skip
          have c_34 := c10
          have c_m : ¬ znmd k := fun q => q.elim c_2 (fun z => absurd c_7 (Int32.not_lt.mpr z))
          obtain ⟨kn, hk4, rfl⟩ := zmd_of c_m
          refine lv_iconst (v := (nI 0)) hx hb dX5_want_41 (by decide) ?_
          refine va_put (D := (dC, dI)) (ci := 5) (v := .int (nI 0)) (ty := .int) (C := RX5) (T := TX5) (N := 19) hx hb hts (in_X5_want_X5) tyX5 tyX5_ok nmX5 hown hK hP hD hS 0 rfl rfl 0 (by decide) (hts (.fieldLink RX5 55 "PlateModesModel" "thrown" "I") (by decide +kernel)) (fun _ h9 => h9) rfl (by decide +kernel) rfl rfl (Nat.le_of_ble_eq_true rfl) dX5_want_42 (fun H locs hP hD hS => ?_)
          have hP : va_P (dC, dI) vwCl (w5 a0 aT aE aG aR aN aS aQ aW aX cD cI (nI 0) iw ih fa fb fd ib mk im iq tT tE tG tR tN tS tQ tW tX) H := hP
          have hD : va_D A (w5 a0 aT aE aG aR aN aS aQ aW aX cD cI (nI 0) iw ih fa fb fd ib mk im iq tT tE tG tR tN tS tQ tW tX) := hD
          refine lv_aload_n hx hb dX5_want_45 rfl (lv_at hl 0 rfl) ?_
          refine va_get (D := (dC, dI)) (ci := 5) (v := .int (nI 0)) (C := RX5) (T := TX5) (N := 19) hx hb hts (in_X5_want_X5) hown hK hP 0 rfl rfl 0 (by decide) (hts (.fieldLink RX5 55 "PlateModesModel" "thrown" "I") (by decide +kernel)) (fun _ h9 => h9) rfl dX5_want_46 ?_
          refine z_if_le (tgt := 54) hx hb (by omega) dX5_want_49 (by decide) (fun c12 => ?_) (fun c13 => ?_)
          · skip
            refine lv_aload_n hx hb dX5_want_54 rfl (lv_at hl 0 rfl) ?_
            refine va_get (D := (dC, dI)) (ci := 5) (v := .ref aW) (C := RX5) (T := TX5) (N := 19) hx hb hts (in_X5_want_X5) hown hK hP 0 rfl rfl 17 (by decide) (hts (.fieldLink RX5 42 "PlateModesModel" "wanted" "[I") (by decide +kernel)) (fun _ h9 => h9) rfl dX5_want_55 ?_
            refine lv_aload_n hx hb dX5_want_58 rfl (lv_at hl 0 rfl) ?_
            refine va_get (D := (dC, dI)) (ci := 5) (v := .int (nI iq)) (C := RX5) (T := TX5) (N := 19) hx hb hts (in_X5_want_X5) hown hK hP 0 rfl rfl 16 (by decide) (hts (.fieldLink RX5 143 "PlateModesModel" "wants" "I") (by decide +kernel)) (fun _ h9 => h9) rfl dX5_want_59 ?_
            refine lv_iload_n hx hb dX5_want_62 rfl (lv_at hl 1 rfl) ?_
            refine z_iast (n := 4) (i := iq) hx hb hK hP hD hS 8 1 rfl rfl (by omega) (by decide) dX5_want_63 (fun H locs hP hD hS => ?_)
            have hP : va_P (dC, dI) vwCl (w5 a0 aT aE aG aR aN aS aQ aW aX cD cI (nI 0) iw ih fa fb fd ib mk im iq tT tE tG tR tN tS tQ (zu tW iq (nI kn)) tX) H := hP
            have hD : va_D A (w5 a0 aT aE aG aR aN aS aQ aW aX cD cI (nI 0) iw ih fa fb fd ib mk im iq tT tE tG tR tN tS tQ (zu tW iq (nI kn)) tX) := hD
            refine lv_aload_n hx hb dX5_want_64 rfl (lv_at hl 0 rfl) ?_
            refine va_get (D := (dC, dI)) (ci := 5) (v := .ref aX) (C := RX5) (T := TX5) (N := 19) hx hb hts (in_X5_want_X5) hown hK hP 0 rfl rfl 18 (by decide) (hts (.fieldLink RX5 45 "PlateModesModel" "wishes" "[D") (by decide +kernel)) (fun _ h9 => h9) rfl dX5_want_65 ?_
            refine lv_aload_n hx hb dX5_want_68 rfl (lv_at hl 0 rfl) ?_
            refine va_get (D := (dC, dI)) (ci := 5) (v := .int (nI iq)) (C := RX5) (T := TX5) (N := 19) hx hb hts (in_X5_want_X5) hown hK hP 0 rfl rfl 16 (by decide) (hts (.fieldLink RX5 143 "PlateModesModel" "wants" "I") (by decide +kernel)) (fun _ h9 => h9) rfl dX5_want_69 ?_
            refine lv_dload_n hx hb dX5_want_72 rfl (lv_at hl 2 rfl) ?_
            refine z_dast (n := 4) (i := iq) hx hb hK hP hD hS 9 0 rfl rfl (by omega) (by decide) dX5_want_73 (fun H locs hP hD hS => ?_)
            have hP : va_P (dC, dI) vwCl (w5 a0 aT aE aG aR aN aS aQ aW aX cD cI (nI 0) iw ih fa fb fd ib mk im iq tT tE tG tR tN tS tQ (zu tW iq (nI kn)) (zu tX iq v)) H := hP
            have hD : va_D A (w5 a0 aT aE aG aR aN aS aQ aW aX cD cI (nI 0) iw ih fa fb fd ib mk im iq tT tE tG tR tN tS tQ (zu tW iq (nI kn)) (zu tX iq v)) := hD
            refine lv_aload_n hx hb dX5_want_74 rfl (lv_at hl 0 rfl) ?_
            refine lv_dup hx hb dX5_want_75 rfl ?_
            refine va_get (D := (dC, dI)) (ci := 5) (v := .int (nI iq)) (C := RX5) (T := TX5) (N := 19) hx hb hts (in_X5_want_X5) hown hK hP 0 rfl rfl 16 (by decide) (hts (.fieldLink RX5 143 "PlateModesModel" "wants" "I") (by decide +kernel)) (fun _ h9 => h9) rfl dX5_want_76 ?_
            refine lv_iconst (v := (nI 1)) hx hb dX5_want_79 (by decide) ?_
            refine t_iadd hx hb dX5_want_80 (v := nI (iq + 1)) (zi_add (by omega)) ?_
            refine va_put (D := (dC, dI)) (ci := 5) (v := .int (nI (iq + 1))) (ty := .int) (C := RX5) (T := TX5) (N := 19) hx hb hts (in_X5_want_X5) tyX5 tyX5_ok nmX5 hown hK hP hD hS 0 rfl rfl 16 (by decide) (hts (.fieldLink RX5 143 "PlateModesModel" "wants" "I") (by decide +kernel)) (fun _ h9 => h9) rfl (by decide +kernel) rfl rfl (Nat.le_of_ble_eq_true rfl) dX5_want_81 (fun H locs hP hD hS => ?_)
            have hP : va_P (dC, dI) vwCl (w5 a0 aT aE aG aR aN aS aQ aW aX cD cI (nI 0) iw ih fa fb fd ib mk im (iq + 1) tT tE tG tR tN tS tQ (zu tW iq (nI kn)) (zu tX iq v)) H := hP
            have hD : va_D A (w5 a0 aT aE aG aR aN aS aQ aW aX cD cI (nI 0) iw ih fa fb fd ib mk im (iq + 1) tT tE tG tR tN tS tQ (zu tW iq (nI kn)) (zu tX iq v)) := hD
            refine lv_aload_n hx hb dX5_want_84 rfl (lv_at hl 0 rfl) ?_
            refine va_get (D := (dC, dI)) (ci := 5) (v := .int (nI (iq + 1))) (C := RX5) (T := TX5) (N := 19) hx hb hts (in_X5_want_X5) hown hK hP 0 rfl rfl 16 (by decide) (hts (.fieldLink RX5 143 "PlateModesModel" "wants" "I") (by decide +kernel)) (fun _ h9 => h9) rfl dX5_want_85 ?_
            exact W.iret (v := (nI (iq + 1))) hx hb hr (fun t ht hW => ⟨⟨(nI (iq + 1)), ((nI 0), iq + 1, zu tW iq (nI kn), zu tX iq v), rfl, ⟨congrArg nI ((if_neg (fun q => q.elim c_2 (fun z => absurd c_7 (Int32.not_lt.mpr z)))).trans ((if_neg (by rw [c_22]; decide)).trans (if_neg c_34))).symm, fun _ => ⟨rfl, rfl, rfl, rfl⟩, fun h => absurd ((if_neg (fun q => q.elim c_2 (fun z => absurd c_7 (Int32.not_lt.mpr z)))).trans ((if_neg (by rw [c_22]; decide)).trans (if_neg c_34))) h⟩, by rw [ht]; exact hP, va_K.moved hW.alike hK, hD⟩, hS.F ht⟩) hS.2.2 dX5_want_88
          · skip
            exact absurd c13 (by decide)
        · skip
          have c_34 := c11
          refine lv_iconst (v := (nI 3)) hx hb dX5_want_37 (by decide) ?_
          refine lv_goto (tgt := 42) hx hb dX5_want_38 (by decide) ?_
          refine va_put (D := (dC, dI)) (ci := 5) (v := .int (nI 3)) (ty := .int) (C := RX5) (T := TX5) (N := 19) hx hb hts (in_X5_want_X5) tyX5 tyX5_ok nmX5 hown hK hP hD hS 0 rfl rfl 0 (by decide) (hts (.fieldLink RX5 55 "PlateModesModel" "thrown" "I") (by decide +kernel)) (fun _ h9 => h9) rfl (by decide +kernel) rfl rfl (Nat.le_of_ble_eq_true rfl) dX5_want_42 (fun H locs hP hD hS => ?_)
          have hP : va_P (dC, dI) vwCl (w5 a0 aT aE aG aR aN aS aQ aW aX cD cI (nI 3) iw ih fa fb fd ib mk im iq tT tE tG tR tN tS tQ tW tX) H := hP
          have hD : va_D A (w5 a0 aT aE aG aR aN aS aQ aW aX cD cI (nI 3) iw ih fa fb fd ib mk im iq tT tE tG tR tN tS tQ tW tX) := hD
          refine lv_aload_n hx hb dX5_want_45 rfl (lv_at hl 0 rfl) ?_
          refine va_get (D := (dC, dI)) (ci := 5) (v := .int (nI 3)) (C := RX5) (T := TX5) (N := 19) hx hb hts (in_X5_want_X5) hown hK hP 0 rfl rfl 0 (by decide) (hts (.fieldLink RX5 55 "PlateModesModel" "thrown" "I") (by decide +kernel)) (fun _ h9 => h9) rfl dX5_want_46 ?_
          refine z_if_le (tgt := 54) hx hb (by omega) dX5_want_49 (by decide) (fun c14 => ?_) (fun c15 => ?_)
          · skip
            exact absurd c14 (by decide)
          · skip
            refine lv_iconst (v := (nI 0)) hx hb dX5_want_52 (by decide) ?_
            exact W.iret (v := (nI 0)) hx hb hr (fun t ht hW => ⟨⟨(nI 0), ((nI 3), iq, tW, tX), rfl, ⟨congrArg nI ((if_neg (fun q => q.elim c_2 (fun z => absurd c_7 (Int32.not_lt.mpr z)))).trans ((if_neg (by rw [c_22]; decide)).trans (if_pos c_34))).symm, fun h => absurd (((if_neg (fun q => q.elim c_2 (fun z => absurd c_7 (Int32.not_lt.mpr z)))).trans ((if_neg (by rw [c_22]; decide)).trans (if_pos c_34))).symm.trans h) (by decide), fun _ => ⟨rfl, rfl, rfl⟩⟩, by rw [ht]; exact hP, va_K.moved hW.alike hK, hD⟩, hS.F ht⟩) hS.2.2 dX5_want_53
      · skip
        have c_22 := c9
        refine lv_iconst (v := (nI 2)) hx hb dX5_want_25 (by decide) ?_
        refine lv_goto (tgt := 42) hx hb dX5_want_26 (by decide) ?_
        refine va_put (D := (dC, dI)) (ci := 5) (v := .int (nI 2)) (ty := .int) (C := RX5) (T := TX5) (N := 19) hx hb hts (in_X5_want_X5) tyX5 tyX5_ok nmX5 hown hK hP hD hS 0 rfl rfl 0 (by decide) (hts (.fieldLink RX5 55 "PlateModesModel" "thrown" "I") (by decide +kernel)) (fun _ h9 => h9) rfl (by decide +kernel) rfl rfl (Nat.le_of_ble_eq_true rfl) dX5_want_42 (fun H locs hP hD hS => ?_)
        have hP : va_P (dC, dI) vwCl (w5 a0 aT aE aG aR aN aS aQ aW aX cD cI (nI 2) iw ih fa fb fd ib mk im iq tT tE tG tR tN tS tQ tW tX) H := hP
        have hD : va_D A (w5 a0 aT aE aG aR aN aS aQ aW aX cD cI (nI 2) iw ih fa fb fd ib mk im iq tT tE tG tR tN tS tQ tW tX) := hD
        refine lv_aload_n hx hb dX5_want_45 rfl (lv_at hl 0 rfl) ?_
        refine va_get (D := (dC, dI)) (ci := 5) (v := .int (nI 2)) (C := RX5) (T := TX5) (N := 19) hx hb hts (in_X5_want_X5) hown hK hP 0 rfl rfl 0 (by decide) (hts (.fieldLink RX5 55 "PlateModesModel" "thrown" "I") (by decide +kernel)) (fun _ h9 => h9) rfl dX5_want_46 ?_
        refine z_if_le (tgt := 54) hx hb (by omega) dX5_want_49 (by decide) (fun c16 => ?_) (fun c17 => ?_)
        · skip
          exact absurd c16 (by decide)
        · skip
          refine lv_iconst (v := (nI 0)) hx hb dX5_want_52 (by decide) ?_
          exact W.iret (v := (nI 0)) hx hb hr (fun t ht hW => ⟨⟨(nI 0), ((nI 2), iq, tW, tX), rfl, ⟨congrArg nI ((if_neg (fun q => q.elim c_2 (fun z => absurd c_7 (Int32.not_lt.mpr z)))).trans (if_pos c_22)).symm, fun h => absurd (((if_neg (fun q => q.elim c_2 (fun z => absurd c_7 (Int32.not_lt.mpr z)))).trans (if_pos c_22)).symm.trans h) (by decide), fun _ => ⟨rfl, rfl, rfl⟩⟩, by rw [ht]; exact hP, va_K.moved hW.alike hK, hD⟩, hS.F ht⟩) hS.2.2 dX5_want_53
    · skip
      have c_7 := c6
      refine lv_iconst (v := (nI 1)) hx hb dX5_want_10 (by decide) ?_
      refine lv_goto (tgt := 42) hx hb dX5_want_11 (by decide) ?_
      refine va_put (D := (dC, dI)) (ci := 5) (v := .int (nI 1)) (ty := .int) (C := RX5) (T := TX5) (N := 19) hx hb hts (in_X5_want_X5) tyX5 tyX5_ok nmX5 hown hK hP hD hS 0 rfl rfl 0 (by decide) (hts (.fieldLink RX5 55 "PlateModesModel" "thrown" "I") (by decide +kernel)) (fun _ h9 => h9) rfl (by decide +kernel) rfl rfl (Nat.le_of_ble_eq_true rfl) dX5_want_42 (fun H locs hP hD hS => ?_)
      have hP : va_P (dC, dI) vwCl (w5 a0 aT aE aG aR aN aS aQ aW aX cD cI (nI 1) iw ih fa fb fd ib mk im iq tT tE tG tR tN tS tQ tW tX) H := hP
      have hD : va_D A (w5 a0 aT aE aG aR aN aS aQ aW aX cD cI (nI 1) iw ih fa fb fd ib mk im iq tT tE tG tR tN tS tQ tW tX) := hD
      refine lv_aload_n hx hb dX5_want_45 rfl (lv_at hl 0 rfl) ?_
      refine va_get (D := (dC, dI)) (ci := 5) (v := .int (nI 1)) (C := RX5) (T := TX5) (N := 19) hx hb hts (in_X5_want_X5) hown hK hP 0 rfl rfl 0 (by decide) (hts (.fieldLink RX5 55 "PlateModesModel" "thrown" "I") (by decide +kernel)) (fun _ h9 => h9) rfl dX5_want_46 ?_
      refine z_if_le (tgt := 54) hx hb (by omega) dX5_want_49 (by decide) (fun c18 => ?_) (fun c19 => ?_)
      · skip
        exact absurd c18 (by decide)
      · skip
        refine lv_iconst (v := (nI 0)) hx hb dX5_want_52 (by decide) ?_
        exact W.iret (v := (nI 0)) hx hb hr (fun t ht hW => ⟨⟨(nI 0), ((nI 1), iq, tW, tX), rfl, ⟨congrArg nI (if_pos (by first | exact Or.inl c_2 | exact Or.inr (Int32.not_lt.mp c_7))).symm, fun h => absurd ((if_pos (by first | exact Or.inl c_2 | exact Or.inr (Int32.not_lt.mp c_7))).symm.trans h) (by decide), fun _ => ⟨rfl, rfl, rfl⟩⟩, by rw [ht]; exact hP, va_K.moved hW.alike hK, hD⟩, hS.F ht⟩) hS.2.2 dX5_want_53
