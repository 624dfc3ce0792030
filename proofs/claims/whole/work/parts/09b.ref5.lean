/-! 09b: the reference: its face, the rest but thin -/
theorem in_X5_modes_X5 : ∀ w ∈ wsX50, w ∈ wsX5_modes := fun w h => List.mem_cons_of_mem _ (List.mem_append_right _ h)
set_option maxHeartbeats 4000000 in
set_option maxRecDepth 100000 in
/-- modes -/
theorem c5_modes (l : Launch) (dC : Nat → ClassId) (dI : Nat → Nat → Nat) (a0 aT aE aG aR aN aS aQ aW aX : Nat) (cD cI : ClassId) (th : Int32) (iw ih : Nat) (fa fb fd : UInt64) (ib : Nat) (mk : Bool) (im iq : Nat) (tT : Nat → UInt64) (tE : Nat → Int32) (tG tR tN tS tQ : Nat → UInt64) (tW : Nat → Int32) (tX : Nat → UInt64) (n : Int32) (hw6 : iw ≤ 6) (hh6 : ih ≤ 6) (T : Nat → ZD) (gT : zgr tT iw ih T) (bx0 by0 bx1 by1 : Nat → Nat) (bg : Nat → ZD) (hb12 : ib ≤ 12) (gE : ∀ k, k < ib → tE (4 * k) = nI (bx0 k) ∧ tE (4 * k + 1) = nI (by0 k) ∧ tE (4 * k + 2) = nI (bx1 k) ∧ tE (4 * k + 3) = nI (by1 k)) (gB : ∀ k, k < ib → bx0 k ≤ bx1 k ∧ bx1 k < iw ∧ by0 k ≤ by1 k ∧ by1 k < ih) (gG : ∀ k, k < ib → zv (tG k) = bg k) (sz : Nat) : MetD lw_cs l yX5_modes wsX5_modes ({ frames := 5, cells := 0, slots := 0, locals := 120 } : Room) (va_Pc [.ref a0, .int n] (fun U => U.heap.size = sz ∧ va_P (dC, dI) vwCl (w5 a0 aT aE aG aR aN aS aQ aW aX cD cI th iw ih fa fb fd ib mk im iq tT tE tG tR tN tS tQ tW tX) U.heap ∧ va_K (dC, dI) vwCl [(cD, .double), (cI, .int)] U ∧ va_D (fun _ => True) (w5 a0 aT aE aG aR aN aS aQ aW aX cD cI th iw ih fa fb fd ib mk im iq tT tE tG tR tN tS tQ tW tX))) (va_Qi (fun (r : Int32) (u : Int32 × (Nat → UInt64) × (Nat → UInt64) × (Nat → UInt64) × (Nat → UInt64) × Bool × Nat) => u.1 = nI (zcMs n) ∧ (zcMs n = 0 → r = nI (zcnt iw ih T (zRB iw T (zv fa) bx0 by0 bx1 bg ib) (zNB iw ih T (zv fb) bx0 by0 by1 bg ib) (zv fd) (zn n)) ∧ u.2.2.2.2.2.2 = zcnt iw ih T (zRB iw T (zv fa) bx0 by0 bx1 bg ib) (zNB iw ih T (zv fb) bx0 by0 by1 bg ib) (zv fd) (zn n) ∧ u.2.2.2.2.2.1 = true ∧ q5m iw ih true u.2.2.2.2.2.2 u.2.1 u.2.2.1 u.2.2.2.1 u.2.2.2.2.1 T (zRB iw T (zv fa) bx0 by0 bx1 bg ib) (zNB iw ih T (zv fb) bx0 by0 by1 bg ib) (zv fd)) ∧ (¬ zcMs n = 0 → u.2.1 = tR ∧ u.2.2.1 = tN ∧ u.2.2.2.1 = tS ∧ u.2.2.2.2.1 = tQ ∧ u.2.2.2.2.2.1 = mk ∧ u.2.2.2.2.2.2 = im)) (fun u t => (va_P (dC, dI) vwCl (w5 a0 aT aE aG aR aN aS aQ aW aX cD cI u.1 iw ih fa fb fd ib u.2.2.2.2.2.1 u.2.2.2.2.2.2 iq tT tE tG u.2.1 u.2.2.1 u.2.2.2.1 u.2.2.2.2.1 tW tX) t.heap ∧ va_K (dC, dI) vwCl [(cD, .double), (cI, .int)] t ∧ va_D (va_A (w5 a0 aT aE aG aR aN aS aQ aW aX cD cI th iw ih fa fb fd ib mk im iq tT tE tG tR tN tS tQ tW tX) sz) (w5 a0 aT aE aG aR aN aS aQ aW aX cD cI u.1 iw ih fa fb fd ib u.2.2.2.2.2.1 u.2.2.2.2.2.2 iq tT tE tG u.2.1 u.2.2.1 u.2.2.2.1 u.2.2.2.2.1 tW tX))) (va_A (w5 a0 aT aE aG aR aN aS aQ aW aX cD cI th iw ih fa fb fd ib mk im iq tT tE tG tR tN tS tQ tW tX) sz)) 0 0 (va_A (w5 a0 aT aE aG aR aN aS aQ aW aX cD cI th iw ih fa fb fd ib mk im iq tT tE tG tR tN tS tQ tW tX) sz) := by
  refine MetD.ofW (cc := cX5_modes) (maxL := 2) (ret := (some .int)) (by decide) rfl ?_
  intro p e s m args below meth c s₁ B hml hv hd0
  obtain ⟨rfl, hsz, hP, hK, hD0⟩ := hv
  have hx := B.exec
  have hb := B.bytes
  have hr := B.returns
  have hts := atoms_spec (ws := wsX5_modes) B.pre
  have hown : s.vm.findClass RX5 = some m.cls := findClass_of_methodNamed B.named
  have hlocks := B.notSynchronized
  subst hsz
  have hD := hD0.self (sz := s.heap.size)
  generalize hAe : va_A (w5 a0 aT aE aG aR aN aS aQ aW aX cD cI th iw ih fa fb fd ib mk im iq tT tE tG tR tN tS tQ tW tX) s.heap.size = A at hD ⊢
  have hA : ∀ q : Nat, s.heap.size ≤ q → A q := fun q h => by rw [← hAe]; exact Or.inr h
  have hS : va_S A s.heap s.heap [] := va_S.rf
  have hl := lv_entry ([.ref a0, .int n]) (n := 2) (Nat.le_of_ble_eq_true rfl)
  rw [lg_entry_eq]
  generalize (lg_sl ([.ref a0, .int n]) ++ List.replicate (2 - (lg_sl ([.ref a0, .int n])).length) Slot.unset).toArray = ls at hl ⊢
  have hl : lv_has ls 2 [(0, .ref a0), (1, .int n)] := hl
  refine lv_aload_n hx hb dX5_modes_0 rfl (lv_at hl 0 rfl) ?_
  refine lv_iload_n hx hb dX5_modes_1 rfl (lv_at hl 1 rfl) ?_
  refine lv_iconst (v := (nI 1)) hx hb dX5_modes_2 (by decide) ?_
  refine lv_icmp_lt (tgt := 11) hx hb dX5_modes_3 (by decide) (fun c1 => ?_) (fun c2 => ?_)
  · skip
    have c_3 := c1
    refine lv_iconst (v := (nI 1)) hx hb dX5_modes_11 (by decide) ?_
    refine lv_goto (tgt := 16) hx hb dX5_modes_12 (by decide) ?_
    refine va_put (D := (dC, dI)) (ci := 5) (v := .int (nI 1)) (ty := .int) (C := RX5) (T := TX5) (N := 19) hx hb (dr_words hts s.drawn) (in_X5_modes_X5) tyX5 tyX5_ok nmX5 hown hK hP hD hS 0 rfl rfl 0 (by decide) (dr_words hts s.drawn (.fieldLink RX5 55 "PlateModesModel" "thrown" "I") (by decide +kernel)) (fun _ h9 => h9) rfl (by decide +kernel) rfl rfl (Nat.le_of_ble_eq_true rfl) dX5_modes_16 (fun H locs hP hD hS => ?_)
    have hP : va_P (dC, dI) vwCl (w5 a0 aT aE aG aR aN aS aQ aW aX cD cI (nI 1) iw ih fa fb fd ib mk im iq tT tE tG tR tN tS tQ tW tX) H := hP
    have hD : va_D A (w5 a0 aT aE aG aR aN aS aQ aW aX cD cI (nI 1) iw ih fa fb fd ib mk im iq tT tE tG tR tN tS tQ tW tX) := hD
    refine lv_aload_n hx hb dX5_modes_19 rfl (lv_at hl 0 rfl) ?_
    refine va_get (D := (dC, dI)) (ci := 5) (v := .int (nI 1)) (C := RX5) (T := TX5) (N := 19) hx hb (dr_words hts s.drawn) (in_X5_modes_X5) hown hK hP 0 rfl rfl 0 (by decide) (dr_words hts s.drawn (.fieldLink RX5 55 "PlateModesModel" "thrown" "I") (by decide +kernel)) (fun _ h9 => h9) rfl dX5_modes_20 ?_
    refine z_if_le (tgt := 28) hx hb (by omega) dX5_modes_23 (by decide) (fun c3 => ?_) (fun c4 => ?_)
    · skip
      exact absurd c3 (by decide)
    · skip
      refine lv_iconst (v := (nI 0)) hx hb dX5_modes_26 (by decide) ?_
      refine W.endD hd0 ?_
      exact W.iret (v := (nI 0)) hx hb hr (fun t ht hW => ⟨⟨(nI 0), ((nI 1), tR, tN, tS, tQ, mk, im), rfl, ⟨congrArg nI (if_pos (by first | exact Or.inl c_3 | exact Or.inr (Int32.not_le.mp c_8))).symm, fun h => absurd ((if_pos (by first | exact Or.inl c_3 | exact Or.inr (Int32.not_le.mp c_8))).symm.trans h) (by decide), fun _ => ⟨rfl, rfl, rfl, rfl, rfl, rfl⟩⟩, by rw [ht]; exact hP, va_K.moved hW.alike hK, hD⟩, hS.F ht⟩) hS.2.2 dX5_modes_27
  · skip
    have c_3 := c2
    refine lv_iload_n hx hb dX5_modes_6 rfl (lv_at hl 1 rfl) ?_
    refine lv_iconst (v := (nI 4)) hx hb dX5_modes_7 (by decide) ?_
    refine lv_icmp_le (tgt := 15) hx hb dX5_modes_8 (by decide) (fun c5 => ?_) (fun c6 => ?_)
    · skip
      have c_8 := c5
      obtain ⟨nn, hnn, rfl⟩ := nI_of (x := n) (fun q => c_3 (Int32.lt_trans q (by decide)))
      have hn4 : nn ≤ 4 := (nI_leI (by omega) (by omega)).mp c_8
      refine lv_iconst (v := (nI 0)) hx hb dX5_modes_15 (by decide) ?_
      refine va_put (D := (dC, dI)) (ci := 5) (v := .int (nI 0)) (ty := .int) (C := RX5) (T := TX5) (N := 19) hx hb (dr_words hts s.drawn) (in_X5_modes_X5) tyX5 tyX5_ok nmX5 hown hK hP hD hS 0 rfl rfl 0 (by decide) (dr_words hts s.drawn (.fieldLink RX5 55 "PlateModesModel" "thrown" "I") (by decide +kernel)) (fun _ h9 => h9) rfl (by decide +kernel) rfl rfl (Nat.le_of_ble_eq_true rfl) dX5_modes_16 (fun H locs hP hD hS => ?_)
      have hP : va_P (dC, dI) vwCl (w5 a0 aT aE aG aR aN aS aQ aW aX cD cI (nI 0) iw ih fa fb fd ib mk im iq tT tE tG tR tN tS tQ tW tX) H := hP
      have hD : va_D A (w5 a0 aT aE aG aR aN aS aQ aW aX cD cI (nI 0) iw ih fa fb fd ib mk im iq tT tE tG tR tN tS tQ tW tX) := hD
      refine lv_aload_n hx hb dX5_modes_19 rfl (lv_at hl 0 rfl) ?_
      refine va_get (D := (dC, dI)) (ci := 5) (v := .int (nI 0)) (C := RX5) (T := TX5) (N := 19) hx hb (dr_words hts s.drawn) (in_X5_modes_X5) hown hK hP 0 rfl rfl 0 (by decide) (dr_words hts s.drawn (.fieldLink RX5 55 "PlateModesModel" "thrown" "I") (by decide +kernel)) (fun _ h9 => h9) rfl dX5_modes_20 ?_
      refine z_if_le (tgt := 28) hx hb (by omega) dX5_modes_23 (by decide) (fun c7 => ?_) (fun c8 => ?_)
      · skip
        refine lv_aload_n hx hb dX5_modes_28 rfl (lv_at hl 0 rfl) ?_
        refine lv_iload_n hx hb dX5_modes_29 rfl (lv_at hl 1 rfl) ?_
        have hFc := zself hD hS hA
        refine va_callvD hd0 (va_runV_D (As := [.int (nI nn)]) (rest := []) ⟨hx, hb, hml, hown, (dr_words hts s.drawn)⟩ (c5_makeAll l dC dI a0 aT aE aG aR aN aS aQ aW aX cD cI (nI 0) iw ih fa fb fd ib mk im iq tT tE tG tR tN tS tQ tW tX nn (by omega) hw6 hh6 T gT bx0 by0 bx1 by1 bg hb12 gE gB gG _) (cwV 1 (dr_words hts s.drawn) gX5_modes_X5_makeAll rfl rfl rfl (by decide +kernel) ⟨Nat.le_of_ble_eq_true rfl, Nat.le_of_ble_eq_true rfl⟩) ⟨zfbw, va_recv hK hP (ci := 5) (q0 := 0) rfl rfl, zprew hP hK hD⟩ rfl rfl hl.1 rfl (lv_room (Nat.le_of_ble_eq_true rfl)) dX5_modes_30 ⟨Nat.le_of_ble_eq_true rfl, Nat.le_of_ble_eq_true rfl⟩) hS (fun q _ h => hFc q h) hFc (fun u10 t9 H1 locs ht9 hvm9 hr9 hB9 hz9 hk1 hS dhd11 hd11 => ?_)
        obtain ⟨hP1, hK1, hD1⟩ := hB9
        rw [ht9] at hP1
        have hD := hD1.weaken (fun k q _ h => hFc q.1 h)
        have hP := hP1
        generalize H1 = H at hP hS ⊢
        have hP : va_P (dC, dI) vwCl (w5 a0 aT aE aG aR aN aS aQ aW aX cD cI (nI 0) iw ih fa fb fd ib true ((zcnt iw ih T (zRB iw T (zv fa) bx0 by0 bx1 bg ib) (zNB iw ih T (zv fb) bx0 by0 by1 bg ib) (zv fd) nn)) iq tT tE tG u10.1 u10.2.1 u10.2.2.1 u10.2.2.2 tW tX) H := hP
        have hD : va_D A (w5 a0 aT aE aG aR aN aS aQ aW aX cD cI (nI 0) iw ih fa fb fd ib true ((zcnt iw ih T (zRB iw T (zv fa) bx0 by0 bx1 bg ib) (zNB iw ih T (zv fb) bx0 by0 by1 bg ib) (zv fd) nn)) iq tT tE tG u10.1 u10.2.1 u10.2.2.1 u10.2.2.2 tW tX) := hD
        obtain ⟨sR13, sN14, sS15, sQ16⟩ := u10
        obtain ⟨gRmc12, gNmc12, gMmc12⟩ := hr9
        dsimp only at gRmc12 gNmc12 gMmc12
        have hP : va_P (dC, dI) vwCl (w5 a0 aT aE aG aR aN aS aQ aW aX cD cI (nI 0) iw ih fa fb fd ib true ((zcnt iw ih T (zRB iw T (zv fa) bx0 by0 bx1 bg ib) (zNB iw ih T (zv fb) bx0 by0 by1 bg ib) (zv fd) nn)) iq tT tE tG sR13 sN14 sS15 sQ16 tW tX) H := hP
        have hD : va_D A (w5 a0 aT aE aG aR aN aS aQ aW aX cD cI (nI 0) iw ih fa fb fd ib true ((zcnt iw ih T (zRB iw T (zv fa) bx0 by0 bx1 bg ib) (zNB iw ih T (zv fb) bx0 by0 by1 bg ib) (zv fd) nn)) iq tT tE tG sR13 sN14 sS15 sQ16 tW tX) := hD
        obtain ⟨mc12, hmc12⟩ : ∃ q, (zcnt iw ih T (zRB iw T (zv fa) bx0 by0 bx1 bg ib) (zNB iw ih T (zv fb) bx0 by0 by1 bg ib) (zv fd) nn) = q := ⟨_, rfl⟩
        have hqmc12 : q5m iw ih true mc12 sR13 sN14 sS15 sQ16 T (zRB iw T (zv fa) bx0 by0 bx1 bg ib) (zNB iw ih T (zv fb) bx0 by0 by1 bg ib) (zv fd) := by rw [← hmc12]; exact ⟨Nat.le_trans (zcnt_le _) (by omega), fun _ => ⟨gRmc12, gNmc12, zcnt_idem _, gMmc12⟩⟩
        have hlemc12 : mc12 ≤ nn := by rw [← hmc12]; exact zcnt_le _
        rw [hmc12] at hP hD
        have hP : va_P (dC, dI) vwCl (w5 a0 aT aE aG aR aN aS aQ aW aX cD cI (nI 0) iw ih fa fb fd ib true mc12 iq tT tE tG sR13 sN14 sS15 sQ16 tW tX) H := hP
        have hD : va_D A (w5 a0 aT aE aG aR aN aS aQ aW aX cD cI (nI 0) iw ih fa fb fd ib true mc12 iq tT tE tG sR13 sN14 sS15 sQ16 tW tX) := hD
        refine lv_aload_n hx hb dX5_modes_33 rfl (lv_at hl 0 rfl) ?_
        refine va_get (D := (dC, dI)) (ci := 5) (v := .int (nI mc12)) (C := RX5) (T := TX5) (N := 19) hx hb (dr_words hts dhd11) (in_X5_modes_X5) hown hK hP 0 rfl rfl 13 (by decide) (dr_words hts dhd11 (.fieldLink RX5 116 "PlateModesModel" "many" "I") (by decide +kernel)) (fun _ h9 => h9) rfl dX5_modes_34 ?_
        refine W.endD hd11 ?_
        exact W.iret (v := (nI mc12)) hx hb hr (fun t ht hW => ⟨⟨(nI mc12), ((nI 0), sR13, sN14, sS15, sQ16, true, mc12), rfl, ⟨congrArg nI (if_neg (fun q => q.elim c_3 (fun z => absurd c_8 (Int32.not_le.mpr z)))).symm, fun _ => by rw [zn_nI (by omega)]; exact ⟨by rw [hmc12], hmc12.symm, rfl, hqmc12⟩, fun h => absurd (if_neg (fun q => q.elim c_3 (fun z => absurd c_8 (Int32.not_le.mpr z)))) h⟩, by rw [ht]; exact hP, va_K.moved hW.alike hK, hD⟩, hS.F ht⟩) hS.2.2 dX5_modes_37
      · skip
        exact absurd c8 (by decide)
    · skip
      have c_8 := c6
      refine lv_iconst (v := (nI 1)) hx hb dX5_modes_11 (by decide) ?_
      refine lv_goto (tgt := 16) hx hb dX5_modes_12 (by decide) ?_
      refine va_put (D := (dC, dI)) (ci := 5) (v := .int (nI 1)) (ty := .int) (C := RX5) (T := TX5) (N := 19) hx hb (dr_words hts s.drawn) (in_X5_modes_X5) tyX5 tyX5_ok nmX5 hown hK hP hD hS 0 rfl rfl 0 (by decide) (dr_words hts s.drawn (.fieldLink RX5 55 "PlateModesModel" "thrown" "I") (by decide +kernel)) (fun _ h9 => h9) rfl (by decide +kernel) rfl rfl (Nat.le_of_ble_eq_true rfl) dX5_modes_16 (fun H locs hP hD hS => ?_)
      have hP : va_P (dC, dI) vwCl (w5 a0 aT aE aG aR aN aS aQ aW aX cD cI (nI 1) iw ih fa fb fd ib mk im iq tT tE tG tR tN tS tQ tW tX) H := hP
      have hD : va_D A (w5 a0 aT aE aG aR aN aS aQ aW aX cD cI (nI 1) iw ih fa fb fd ib mk im iq tT tE tG tR tN tS tQ tW tX) := hD
      refine lv_aload_n hx hb dX5_modes_19 rfl (lv_at hl 0 rfl) ?_
      refine va_get (D := (dC, dI)) (ci := 5) (v := .int (nI 1)) (C := RX5) (T := TX5) (N := 19) hx hb (dr_words hts s.drawn) (in_X5_modes_X5) hown hK hP 0 rfl rfl 0 (by decide) (dr_words hts s.drawn (.fieldLink RX5 55 "PlateModesModel" "thrown" "I") (by decide +kernel)) (fun _ h9 => h9) rfl dX5_modes_20 ?_
      refine z_if_le (tgt := 28) hx hb (by omega) dX5_modes_23 (by decide) (fun c17 => ?_) (fun c18 => ?_)
      · skip
        exact absurd c17 (by decide)
      · skip
        refine lv_iconst (v := (nI 0)) hx hb dX5_modes_26 (by decide) ?_
        refine W.endD hd0 ?_
        exact W.iret (v := (nI 0)) hx hb hr (fun t ht hW => ⟨⟨(nI 0), ((nI 1), tR, tN, tS, tQ, mk, im), rfl, ⟨congrArg nI (if_pos (by first | exact Or.inl c_3 | exact Or.inr (Int32.not_le.mp c_8))).symm, fun h => absurd ((if_pos (by first | exact Or.inl c_3 | exact Or.inr (Int32.not_le.mp c_8))).symm.trans h) (by decide), fun _ => ⟨rfl, rfl, rfl, rfl, rfl, rfl⟩⟩, by rw [ht]; exact hP, va_K.moved hW.alike hK, hD⟩, hS.F ht⟩) hS.2.2 dX5_modes_27
theorem in_X5_mode_X5 : ∀ w ∈ wsX50, w ∈ wsX5_mode := fun w h => List.mem_cons_of_mem _ (List.mem_append_right _ h)
set_option maxHeartbeats 4000000 in
set_option maxRecDepth 100000 in
/-- mode -/
theorem c5_mode (l : Launch) (dC : Nat → ClassId) (dI : Nat → Nat → Nat) (a0 aT aE aG aR aN aS aQ aW aX : Nat) (cD cI : ClassId) (th : Int32) (iw ih : Nat) (fa fb fd : UInt64) (ib : Nat) (mk : Bool) (im iq : Nat) (tT : Nat → UInt64) (tE : Nat → Int32) (tG tR tN tS tQ : Nat → UInt64) (tW : Nat → Int32) (tX : Nat → UInt64) (T RX NX : Nat → ZD) (gT : zgr tT iw ih T) (hw6 : iw ≤ 6) (hh6 : ih ≤ 6) (hq : q5m iw ih mk im tR tN tS tQ T RX NX (zv fd)) (k what : Int32) (sz : Nat) : MetD lw_cs l yX5_mode wsX5_mode ({ frames := 2, cells := 0, slots := 0, locals := 55 } : Room) (va_Pc [.ref a0, .int k, .int what] (fun U => U.heap.size = sz ∧ va_P (dC, dI) vwCl (w5 a0 aT aE aG aR aN aS aQ aW aX cD cI th iw ih fa fb fd ib mk im iq tT tE tG tR tN tS tQ tW tX) U.heap ∧ va_K (dC, dI) vwCl [(cD, .double), (cI, .int)] U ∧ va_D (fun _ => True) (w5 a0 aT aE aG aR aN aS aQ aW aX cD cI th iw ih fa fb fd ib mk im iq tT tE tG tR tN tS tQ tW tX))) (va_Qd (fun (r : UInt64) (u : Int32) => u = nI (zckM (decide (¬ znmd k ∧ ¬ what < 0 ∧ ¬ nI 2 < what)) (zmks mk im) k) ∧ (zckM (decide (¬ znmd k ∧ ¬ what < 0 ∧ ¬ nI 2 < what)) (zmks mk im) k = 0 → zv r = zmodeV what (zSQ iw ih T RX NX (zv fd) (zn k)) (zres iw ih T RX NX (zshp iw ih T RX NX (zv fd) (zn k)) (zv fd) (zSQ iw ih T RX NX (zv fd) (zn k)) (iw * ih)) (zsum T (zshp iw ih T RX NX (zv fd) (zn k)) (iw * ih)))) (fun u t => (va_P (dC, dI) vwCl (w5 a0 aT aE aG aR aN aS aQ aW aX cD cI u iw ih fa fb fd ib mk im iq tT tE tG tR tN tS tQ tW tX) t.heap ∧ va_K (dC, dI) vwCl [(cD, .double), (cI, .int)] t ∧ va_D (va_A (w5 a0 aT aE aG aR aN aS aQ aW aX cD cI th iw ih fa fb fd ib mk im iq tT tE tG tR tN tS tQ tW tX) sz) (w5 a0 aT aE aG aR aN aS aQ aW aX cD cI u iw ih fa fb fd ib mk im iq tT tE tG tR tN tS tQ tW tX))) (va_A (w5 a0 aT aE aG aR aN aS aQ aW aX cD cI th iw ih fa fb fd ib mk im iq tT tE tG tR tN tS tQ tW tX) sz)) 0 0 (va_A (w5 a0 aT aE aG aR aN aS aQ aW aX cD cI th iw ih fa fb fd ib mk im iq tT tE tG tR tN tS tQ tW tX) sz) := by
  refine MetD.ofW (cc := cX5_mode) (maxL := 3) (ret := (some .double)) (by decide) rfl ?_
  intro p e s m args below meth c s₁ B hml hv hd0
  obtain ⟨rfl, hsz, hP, hK, hD0⟩ := hv
  have hx := B.exec
  have hb := B.bytes
  have hr := B.returns
  have hts := atoms_spec (ws := wsX5_mode) B.pre
  have hown : s.vm.findClass RX5 = some m.cls := findClass_of_methodNamed B.named
  have hlocks := B.notSynchronized
  subst hsz
  have hD := hD0.self (sz := s.heap.size)
  generalize hAe : va_A (w5 a0 aT aE aG aR aN aS aQ aW aX cD cI th iw ih fa fb fd ib mk im iq tT tE tG tR tN tS tQ tW tX) s.heap.size = A at hD ⊢
  have hA : ∀ q : Nat, s.heap.size ≤ q → A q := fun q h => by rw [← hAe]; exact Or.inr h
  have hS : va_S A s.heap s.heap [] := va_S.rf
  have hl := lv_entry ([.ref a0, .int k, .int what]) (n := 3) (Nat.le_of_ble_eq_true rfl)
  rw [lg_entry_eq]
  generalize (lg_sl ([.ref a0, .int k, .int what]) ++ List.replicate (3 - (lg_sl ([.ref a0, .int k, .int what])).length) Slot.unset).toArray = ls at hl ⊢
  have hl : lv_has ls 3 [(0, .ref a0), (1, .int k), (2, .int what)] := hl
  have J_24 : ∀ (bt : Bool) (d0 : Drawn) (H : Heap) (locs : List Loc) (ls : Array Slot), (bt = decide (¬ znmd k ∧ ¬ what < 0 ∧ ¬ nI 2 < what)) → s.drawn.sameBut d0 lw_cs → va_P (dC, dI) vwCl (w5 a0 aT aE aG aR aN aS aQ aW aX cD cI th iw ih fa fb fd ib mk im iq tT tE tG tR tN tS tQ tW tX) H → va_D A (w5 a0 aT aE aG aR aN aS aQ aW aX cD cI th iw ih fa fb fd ib mk im iq tT tE tG tR tN tS tQ tW tX) → va_S A s.heap H locs → lv_has ls 3 [(0, .ref a0), (1, .int k), (2, .int what)] → W p l e (headSpec wsX5_mode ({ frames := 2, cells := 0, slots := 0, locals := 55 } : Room)).room (s.setDrawn d0) m ([.ref a0, .int k, .int what] : List Value).toArray below meth c H locs 0 0 (MQD lw_cs below (va_Qd (fun (r : UInt64) (u : Int32) => u = nI (zckM (decide (¬ znmd k ∧ ¬ what < 0 ∧ ¬ nI 2 < what)) (zmks mk im) k) ∧ (zckM (decide (¬ znmd k ∧ ¬ what < 0 ∧ ¬ nI 2 < what)) (zmks mk im) k = 0 → zv r = zmodeV what (zSQ iw ih T RX NX (zv fd) (zn k)) (zres iw ih T RX NX (zshp iw ih T RX NX (zv fd) (zn k)) (zv fd) (zSQ iw ih T RX NX (zv fd) (zn k)) (iw * ih)) (zsum T (zshp iw ih T RX NX (zv fd) (zn k)) (iw * ih)))) (fun u t => (va_P (dC, dI) vwCl (w5 a0 aT aE aG aR aN aS aQ aW aX cD cI u iw ih fa fb fd ib mk im iq tT tE tG tR tN tS tQ tW tX) t.heap ∧ va_K (dC, dI) vwCl [(cD, .double), (cI, .int)] t ∧ va_D A (w5 a0 aT aE aG aR aN aS aQ aW aX cD cI u iw ih fa fb fd ib mk im iq tT tE tG tR tN tS tQ tW tX))) A) ([.ref a0, .int k, .int what] : List Value).toArray s 0 0 A) (F0 m 24 ls [.int (zb bt), .ref a0, .ref a0]) := by
    intro bt d0 H locs ls hbt hd0 hP hD hS hl
    refine lv_iload_n hx hb dX5_mode_24 rfl (lv_at hl 1 rfl) ?_
    have hPc := hP
    refine va_calli (va_runV (As := [.int (zb bt), .int k]) (rest := [.ref a0]) ⟨hx, hb, hml, hown, (dr_words hts d0)⟩ (c5_check l dC dI a0 aT aE aG aR aN aS aQ aW aX cD cI th iw ih fa fb fd ib mk im iq tT tE tG tR tN tS tQ tW tX bt k) (cwV 2 (dr_words hts d0) gX5_mode_X5_check rfl rfl rfl (by decide +kernel) ⟨Nat.le_of_ble_eq_true rfl, Nat.le_of_ble_eq_true rfl⟩) ⟨zfb, va_recv hK hP (ci := 5) (q0 := 0) rfl rfl, zpre hPc hK⟩ rfl rfl hl.1 rfl (lv_room (Nat.le_of_ble_eq_true rfl)) dX5_mode_25 ⟨Nat.le_of_ble_eq_true rfl, Nat.le_of_ble_eq_true rfl⟩) hS (fun q _ h => h.elim) (fun q h => h.elim) (fun r1 u9 t9 H locs ht9 hvm9 hr1 hB9 hz9 hk1 hS => ?_)
    have hP := zro1 hP hk1
    have hr1 : r1 = nI (zckM bt (zmks mk im) k) := hr1.trans (zchk_M (fun h => fun q => (of_decide_eq_true (hbt.symm.trans h)).1 (Or.inl q)))
    subst hr1
    have hckle := zckM_le bt (zmks mk im) k
    refine va_put (D := (dC, dI)) (ci := 5) (v := .int (nI ((zckM bt (zmks mk im) k)))) (ty := .int) (C := RX5) (T := TX5) (N := 19) hx hb (dr_words hts d0) (in_X5_mode_X5) tyX5 tyX5_ok nmX5 hown hK hP hD hS 0 rfl rfl 0 (by decide) (dr_words hts d0 (.fieldLink RX5 55 "PlateModesModel" "thrown" "I") (by decide +kernel)) (fun _ h9 => h9) rfl (by decide +kernel) rfl rfl (Nat.le_of_ble_eq_true rfl) dX5_mode_28 (fun H locs hP hD hS => ?_)
    have hP : va_P (dC, dI) vwCl (w5 a0 aT aE aG aR aN aS aQ aW aX cD cI (nI ((zckM bt (zmks mk im) k))) iw ih fa fb fd ib mk im iq tT tE tG tR tN tS tQ tW tX) H := hP
    have hD : va_D A (w5 a0 aT aE aG aR aN aS aQ aW aX cD cI (nI ((zckM bt (zmks mk im) k))) iw ih fa fb fd ib mk im iq tT tE tG tR tN tS tQ tW tX) := hD
    refine lv_aload_n hx hb dX5_mode_31 rfl (lv_at hl 0 rfl) ?_
    refine va_get (D := (dC, dI)) (ci := 5) (v := .int (nI ((zckM bt (zmks mk im) k)))) (C := RX5) (T := TX5) (N := 19) hx hb (dr_words hts d0) (in_X5_mode_X5) hown hK hP 0 rfl rfl 0 (by decide) (dr_words hts d0 (.fieldLink RX5 55 "PlateModesModel" "thrown" "I") (by decide +kernel)) (fun _ h9 => h9) rfl dX5_mode_32 ?_
    refine z_if_le (tgt := 42) hx hb (by omega) dX5_mode_35 (by decide) (fun c2 => ?_) (fun c3 => ?_)
    · skip
      have c_0 := c2
      obtain ⟨hb1, hkM⟩ := zckM_0 c_0
      have hall := of_decide_eq_true (hbt.symm.trans hb1)
      obtain ⟨kn, hk4, rfl⟩ := zmd_of hall.1
      obtain ⟨hmk, hki⟩ := zkM hk4 hq.1 hkM
      obtain ⟨gR, gN, hcn, hsh⟩ := hq.2 hmk
      obtain ⟨gS, gQ⟩ := hsh kn hki
      refine lv_iload_n hx hb dX5_mode_42 rfl (lv_at hl 2 rfl) ?_
      refine lv_if_ne (tgt := 55) hx hb dX5_mode_43 (by decide) (fun c4 => ?_) (fun c5 => ?_)
      · skip
        have c_43 := c4
        refine lv_iload_n hx hb dX5_mode_55 rfl (lv_at hl 2 rfl) ?_
        refine lv_iconst (v := (nI 1)) hx hb dX5_mode_56 (by decide) ?_
        refine lv_icmp_ne (tgt := 68) hx hb dX5_mode_57 (by decide) (fun c6 => ?_) (fun c7 => ?_)
        · skip
          have c_57 := c6
          refine lv_aload_n hx hb dX5_mode_68 rfl (lv_at hl 0 rfl) ?_
          refine lv_iload_n hx hb dX5_mode_69 rfl (lv_at hl 1 rfl) ?_
          have hPc := hP
          refine va_calldD hd0 (va_runV_D (As := [.int (nI kn)]) (rest := []) ⟨hx, hb, hml, hown, (dr_words hts d0)⟩ (c5_sumOf l dC dI a0 aT aE aG aR aN aS aQ aW aX cD cI (nI ((zckM bt (zmks mk im) (nI kn)))) iw ih fa fb fd ib mk im iq tT tE tG tR tN tS tQ tW tX kn (by omega) hw6 hh6 T (zshp iw ih T RX NX (zv fd) kn) gT gS) (cwV 1 (dr_words hts d0) gX5_mode_X5_sumOf rfl rfl rfl (by decide +kernel) ⟨Nat.le_of_ble_eq_true rfl, Nat.le_of_ble_eq_true rfl⟩) ⟨zfb, va_recv hK hP (ci := 5) (q0 := 0) rfl rfl, zpre hPc hK⟩ rfl rfl hl.1 rfl (lv_room (Nat.le_of_ble_eq_true rfl)) dX5_mode_70 ⟨Nat.le_of_ble_eq_true rfl, Nat.le_of_ble_eq_true rfl⟩) hS (fun q _ h => h.elim) (fun q h => h.elim) (fun r8 u9 t9 H locs ht9 hvm9 hr8 hB9 hz9 hk1 hS dhd9 hd9 => ?_)
          have hP := zro1 hP hk1
          refine W.endD hd9 ?_
          exact W.dret (v := r8) hx hb hr (fun t ht hW => ⟨⟨r8, (nI ((zckM bt (zmks mk im) (nI kn)))), rfl, ⟨by rw [hbt], fun _ => by rw [zn_nI (by omega)]; exact (hr8).trans ((if_neg c_43).trans (if_neg c_57)).symm⟩, by rw [ht]; exact hP, va_K.moved hW.alike hK, hD⟩, hS.F ht⟩) hS.2.2 dX5_mode_73
        · skip
          have c_57 := c7
          refine lv_aload_n hx hb dX5_mode_60 rfl (lv_at hl 0 rfl) ?_
          refine lv_iload_n hx hb dX5_mode_61 rfl (lv_at hl 1 rfl) ?_
          have hPc := hP
          refine va_calldD hd0 (va_runV_D (As := [.int (nI kn)]) (rest := []) ⟨hx, hb, hml, hown, (dr_words hts d0)⟩ (c5_residue l dC dI a0 aT aE aG aR aN aS aQ aW aX cD cI (nI ((zckM bt (zmks mk im) (nI kn)))) iw ih fa fb fd ib mk im iq tT tE tG tR tN tS tQ tW tX kn (by omega) hw6 hh6 T RX NX (zshp iw ih T RX NX (zv fd) kn) gT gR gN gS) (cwV 1 (dr_words hts d0) gX5_mode_X5_residue rfl rfl rfl (by decide +kernel) ⟨Nat.le_of_ble_eq_true rfl, Nat.le_of_ble_eq_true rfl⟩) ⟨zfb, va_recv hK hP (ci := 5) (q0 := 0) rfl rfl, zpre hPc hK⟩ rfl rfl hl.1 rfl (lv_room (Nat.le_of_ble_eq_true rfl)) dX5_mode_62 ⟨Nat.le_of_ble_eq_true rfl, Nat.le_of_ble_eq_true rfl⟩) hS (fun q _ h => h.elim) (fun q h => h.elim) (fun r10 u9 t9 H locs ht9 hvm9 hr10 hB9 hz9 hk1 hS dhd11 hd11 => ?_)
          have hP := zro1 hP hk1
          have hr10 : zv r10 = zres iw ih T RX NX (zshp iw ih T RX NX (zv fd) kn) (zv fd) (zSQ iw ih T RX NX (zv fd) kn) (iw * ih) := by rw [hr10, gQ]
          refine lv_goto (tgt := 73) hx hb dX5_mode_65 (by decide) ?_
          refine W.endD hd11 ?_
          exact W.dret (v := r10) hx hb hr (fun t ht hW => ⟨⟨r10, (nI ((zckM bt (zmks mk im) (nI kn)))), rfl, ⟨by rw [hbt], fun _ => by rw [zn_nI (by omega)]; exact (hr10).trans ((if_neg c_43).trans (if_pos c_57)).symm⟩, by rw [ht]; exact hP, va_K.moved hW.alike hK, hD⟩, hS.F ht⟩) hS.2.2 dX5_mode_73
      · skip
        have c_43 := c5
        refine lv_aload_n hx hb dX5_mode_46 rfl (lv_at hl 0 rfl) ?_
        refine va_get (D := (dC, dI)) (ci := 5) (v := .ref aQ) (C := RX5) (T := TX5) (N := 19) hx hb (dr_words hts d0) (in_X5_mode_X5) hown hK hP 0 rfl rfl 15 (by decide) (dr_words hts d0 (.fieldLink RX5 39 "PlateModesModel" "squares" "[D") (by decide +kernel)) (fun _ h9 => h9) rfl dX5_mode_47 ?_
        refine lv_iload_n hx hb dX5_mode_50 rfl (lv_at hl 1 rfl) ?_
        refine z_dald (s := s.setDrawn d0) (n := 4) (i := kn) hx hb hK hP 7 0 rfl rfl (by omega) (by decide) dX5_mode_51 ?_
        refine lv_goto (tgt := 73) hx hb dX5_mode_52 (by decide) ?_
        refine W.endD hd0 ?_
        exact W.dret (v := tQ kn) hx hb hr (fun t ht hW => ⟨⟨tQ kn, (nI ((zckM bt (zmks mk im) (nI kn)))), rfl, ⟨by rw [hbt], fun _ => by rw [zn_nI (by omega)]; exact (gQ).trans (if_pos c_43).symm⟩, by rw [ht]; exact hP, va_K.moved hW.alike hK, hD⟩, hS.F ht⟩) hS.2.2 dX5_mode_73
    · skip
      have c_0 := c3
      refine lv_dconst0 hx hb dX5_mode_38 ?_
      refine lv_goto (tgt := 73) hx hb dX5_mode_39 (by decide) ?_
      refine W.endD hd0 ?_
      exact W.dret (v := FP.dconst0) hx hb hr (fun t ht hW => ⟨⟨FP.dconst0, (nI ((zckM bt (zmks mk im) k))), rfl, ⟨by rw [hbt], fun h => absurd (by rw [hbt]; exact h) (Nat.ne_of_gt c_0)⟩, by rw [ht]; exact hP, va_K.moved hW.alike hK, hD⟩, hS.F ht⟩) hS.2.2 dX5_mode_73
  refine lv_aload_n hx hb dX5_mode_0 rfl (lv_at hl 0 rfl) ?_
  refine lv_aload_n hx hb dX5_mode_1 rfl (lv_at hl 0 rfl) ?_
  refine lv_aload_n hx hb dX5_mode_2 rfl (lv_at hl 0 rfl) ?_
  refine lv_iload_n hx hb dX5_mode_3 rfl (lv_at hl 1 rfl) ?_
  have hPc := hP
  refine va_calli (va_runV (As := [.int k]) (rest := [.ref a0, .ref a0]) ⟨hx, hb, hml, hown, (dr_words hts s.drawn)⟩ (c5_noMode l dC dI a0 aT aE aG aR aN aS aQ aW aX cD cI th iw ih fa fb fd ib mk im iq tT tE tG tR tN tS tQ tW tX k) (cwV 1 (dr_words hts s.drawn) gX5_mode_X5_noMode rfl rfl rfl (by decide +kernel) ⟨Nat.le_of_ble_eq_true rfl, Nat.le_of_ble_eq_true rfl⟩) ⟨zfb, va_recv hK hP (ci := 5) (q0 := 0) rfl rfl, zpre hPc hK⟩ rfl rfl hl.1 rfl (lv_room (Nat.le_of_ble_eq_true rfl)) dX5_mode_4 ⟨Nat.le_of_ble_eq_true rfl, Nat.le_of_ble_eq_true rfl⟩) hS (fun q _ h => h.elim) (fun q h => h.elim) (fun r12 u9 t9 H locs ht9 hvm9 hr12 hB9 hz9 hk1 hS => ?_)
  have hP := zro1 hP hk1
  subst hr12
  refine z_if_ne_p (tgt := 23) hx hb (znmd k) dX5_mode_7 (by decide) (fun c13 => ?_) (fun c14 => ?_)
  · skip
    have c_7 := c13
    refine lv_iconst (v := (nI 0)) hx hb dX5_mode_23 (by decide) ?_
    exact J_24 false _ _ _ _ ((decide_eq_false (fun hh => by obtain ⟨h1, h2, h3⟩ := hh; first | exact h1 c_7 | exact h2 c_11 | exact h3 c_16)).symm) hd0 hP hD hS hl
  · skip
    have c_7 := c14
    refine lv_iload_n hx hb dX5_mode_10 rfl (lv_at hl 2 rfl) ?_
    refine lv_if_lt (tgt := 23) hx hb dX5_mode_11 (by decide) (fun c15 => ?_) (fun c16 => ?_)
    · skip
      have c_11 := c15
      refine lv_iconst (v := (nI 0)) hx hb dX5_mode_23 (by decide) ?_
      exact J_24 false _ _ _ _ ((decide_eq_false (fun hh => by obtain ⟨h1, h2, h3⟩ := hh; first | exact h1 c_7 | exact h2 c_11 | exact h3 c_16)).symm) hd0 hP hD hS hl
    · skip
      have c_11 := c16
      refine lv_iload_n hx hb dX5_mode_14 rfl (lv_at hl 2 rfl) ?_
      refine lv_iconst (v := (nI 2)) hx hb dX5_mode_15 (by decide) ?_
      refine lv_icmp_gt (tgt := 23) hx hb dX5_mode_16 (by decide) (fun c17 => ?_) (fun c18 => ?_)
      · skip
        have c_16 := c17
        refine lv_iconst (v := (nI 0)) hx hb dX5_mode_23 (by decide) ?_
        exact J_24 false _ _ _ _ ((decide_eq_false (fun hh => by obtain ⟨h1, h2, h3⟩ := hh; first | exact h1 c_7 | exact h2 c_11 | exact h3 c_16)).symm) hd0 hP hD hS hl
      · skip
        have c_16 := c18
        refine lv_iconst (v := (nI 1)) hx hb dX5_mode_19 (by decide) ?_
        refine lv_goto (tgt := 24) hx hb dX5_mode_20 (by decide) ?_
        exact J_24 true _ _ _ _ ((decide_eq_true ⟨c_7, c_11, c_16⟩).symm) hd0 hP hD hS hl
theorem in_X5_shape_X5 : ∀ w ∈ wsX50, w ∈ wsX5_shape := fun w h => List.mem_cons_of_mem _ (List.mem_append_right _ h)
set_option maxHeartbeats 4000000 in
set_option maxRecDepth 100000 in
/-- shape -/
theorem c5_shape (l : Launch) (dC : Nat → ClassId) (dI : Nat → Nat → Nat) (a0 aT aE aG aR aN aS aQ aW aX : Nat) (cD cI : ClassId) (th : Int32) (iw ih : Nat) (fa fb fd : UInt64) (ib : Nat) (mk : Bool) (im iq : Nat) (tT : Nat → UInt64) (tE : Nat → Int32) (tG tR tN tS tQ : Nat → UInt64) (tW : Nat → Int32) (tX : Nat → UInt64) (T RX NX : Nat → ZD) (gT : zgr tT iw ih T) (hw6 : iw ≤ 6) (hh6 : ih ≤ 6) (hq : q5m iw ih mk im tR tN tS tQ T RX NX (zv fd)) (k x y : Int32) (sz : Nat) : MetD lw_cs l yX5_shape wsX5_shape ({ frames := 1, cells := 0, slots := 0, locals := 22 } : Room) (va_Pc [.ref a0, .int k, .int x, .int y] (fun U => U.heap.size = sz ∧ va_P (dC, dI) vwCl (w5 a0 aT aE aG aR aN aS aQ aW aX cD cI th iw ih fa fb fd ib mk im iq tT tE tG tR tN tS tQ tW tX) U.heap ∧ va_K (dC, dI) vwCl [(cD, .double), (cI, .int)] U ∧ va_D (fun _ => True) (w5 a0 aT aE aG aR aN aS aQ aW aX cD cI th iw ih fa fb fd ib mk im iq tT tE tG tR tN tS tQ tW tX))) (va_Qd (fun (r : UInt64) (u : Int32) => u = nI (zckM (decide (¬ znmd k ∧ ¬ zncl iw ih x y)) (zmks mk im) k) ∧ (zckM (decide (¬ znmd k ∧ ¬ zncl iw ih x y)) (zmks mk im) k = 0 → zv r = zshp iw ih T RX NX (zv fd) (zn k) (zn y * iw + zn x))) (fun u t => (va_P (dC, dI) vwCl (w5 a0 aT aE aG aR aN aS aQ aW aX cD cI u iw ih fa fb fd ib mk im iq tT tE tG tR tN tS tQ tW tX) t.heap ∧ va_K (dC, dI) vwCl [(cD, .double), (cI, .int)] t ∧ va_D (va_A (w5 a0 aT aE aG aR aN aS aQ aW aX cD cI th iw ih fa fb fd ib mk im iq tT tE tG tR tN tS tQ tW tX) sz) (w5 a0 aT aE aG aR aN aS aQ aW aX cD cI u iw ih fa fb fd ib mk im iq tT tE tG tR tN tS tQ tW tX))) (va_A (w5 a0 aT aE aG aR aN aS aQ aW aX cD cI th iw ih fa fb fd ib mk im iq tT tE tG tR tN tS tQ tW tX) sz)) 0 0 (va_A (w5 a0 aT aE aG aR aN aS aQ aW aX cD cI th iw ih fa fb fd ib mk im iq tT tE tG tR tN tS tQ tW tX) sz) := by
  refine MetD.ofW (cc := cX5_shape) (maxL := 4) (ret := (some .double)) (by decide) rfl ?_
  intro p e s m args below meth c s₁ B hml hv hd0
  obtain ⟨rfl, hsz, hP, hK, hD0⟩ := hv
  have hx := B.exec
  have hb := B.bytes
  have hr := B.returns
  have hts := atoms_spec (ws := wsX5_shape) B.pre
  have hown : s.vm.findClass RX5 = some m.cls := findClass_of_methodNamed B.named
  have hlocks := B.notSynchronized
  subst hsz
  have hD := hD0.self (sz := s.heap.size)
  generalize hAe : va_A (w5 a0 aT aE aG aR aN aS aQ aW aX cD cI th iw ih fa fb fd ib mk im iq tT tE tG tR tN tS tQ tW tX) s.heap.size = A at hD ⊢
  have hA : ∀ q : Nat, s.heap.size ≤ q → A q := fun q h => by rw [← hAe]; exact Or.inr h
  have hS : va_S A s.heap s.heap [] := va_S.rf
  have hl := lv_entry ([.ref a0, .int k, .int x, .int y]) (n := 4) (Nat.le_of_ble_eq_true rfl)
  rw [lg_entry_eq]
  generalize (lg_sl ([.ref a0, .int k, .int x, .int y]) ++ List.replicate (4 - (lg_sl ([.ref a0, .int k, .int x, .int y])).length) Slot.unset).toArray = ls at hl ⊢
  have hl : lv_has ls 4 [(0, .ref a0), (1, .int k), (2, .int x), (3, .int y)] := hl
  have J_24 : ∀ (bt : Bool) (d0 : Drawn) (H : Heap) (locs : List Loc) (ls : Array Slot), (bt = decide (¬ znmd k ∧ ¬ zncl iw ih x y)) → s.drawn.sameBut d0 lw_cs → va_P (dC, dI) vwCl (w5 a0 aT aE aG aR aN aS aQ aW aX cD cI th iw ih fa fb fd ib mk im iq tT tE tG tR tN tS tQ tW tX) H → va_D A (w5 a0 aT aE aG aR aN aS aQ aW aX cD cI th iw ih fa fb fd ib mk im iq tT tE tG tR tN tS tQ tW tX) → va_S A s.heap H locs → lv_has ls 4 [(0, .ref a0), (1, .int k), (2, .int x), (3, .int y)] → W p l e (headSpec wsX5_shape ({ frames := 1, cells := 0, slots := 0, locals := 22 } : Room)).room (s.setDrawn d0) m ([.ref a0, .int k, .int x, .int y] : List Value).toArray below meth c H locs 0 0 (MQD lw_cs below (va_Qd (fun (r : UInt64) (u : Int32) => u = nI (zckM (decide (¬ znmd k ∧ ¬ zncl iw ih x y)) (zmks mk im) k) ∧ (zckM (decide (¬ znmd k ∧ ¬ zncl iw ih x y)) (zmks mk im) k = 0 → zv r = zshp iw ih T RX NX (zv fd) (zn k) (zn y * iw + zn x))) (fun u t => (va_P (dC, dI) vwCl (w5 a0 aT aE aG aR aN aS aQ aW aX cD cI u iw ih fa fb fd ib mk im iq tT tE tG tR tN tS tQ tW tX) t.heap ∧ va_K (dC, dI) vwCl [(cD, .double), (cI, .int)] t ∧ va_D A (w5 a0 aT aE aG aR aN aS aQ aW aX cD cI u iw ih fa fb fd ib mk im iq tT tE tG tR tN tS tQ tW tX))) A) ([.ref a0, .int k, .int x, .int y] : List Value).toArray s 0 0 A) (F0 m 24 ls [.int (zb bt), .ref a0, .ref a0]) := by
    intro bt d0 H locs ls hbt hd0 hP hD hS hl
    refine lv_iload_n hx hb dX5_shape_24 rfl (lv_at hl 1 rfl) ?_
    have hPc := hP
    refine va_calli (va_runV (As := [.int (zb bt), .int k]) (rest := [.ref a0]) ⟨hx, hb, hml, hown, (dr_words hts d0)⟩ (c5_check l dC dI a0 aT aE aG aR aN aS aQ aW aX cD cI th iw ih fa fb fd ib mk im iq tT tE tG tR tN tS tQ tW tX bt k) (cwV 2 (dr_words hts d0) gX5_shape_X5_check rfl rfl rfl (by decide +kernel) ⟨Nat.le_of_ble_eq_true rfl, Nat.le_of_ble_eq_true rfl⟩) ⟨zfb, va_recv hK hP (ci := 5) (q0 := 0) rfl rfl, zpre hPc hK⟩ rfl rfl hl.1 rfl (lv_room (Nat.le_of_ble_eq_true rfl)) dX5_shape_25 ⟨Nat.le_of_ble_eq_true rfl, Nat.le_of_ble_eq_true rfl⟩) hS (fun q _ h => h.elim) (fun q h => h.elim) (fun r1 u9 t9 H locs ht9 hvm9 hr1 hB9 hz9 hk1 hS => ?_)
    have hP := zro1 hP hk1
    have hr1 : r1 = nI (zckM bt (zmks mk im) k) := hr1.trans (zchk_M (fun h => fun q => (of_decide_eq_true (hbt.symm.trans h)).1 (Or.inl q)))
    subst hr1
    have hckle := zckM_le bt (zmks mk im) k
    refine va_put (D := (dC, dI)) (ci := 5) (v := .int (nI ((zckM bt (zmks mk im) k)))) (ty := .int) (C := RX5) (T := TX5) (N := 19) hx hb (dr_words hts d0) (in_X5_shape_X5) tyX5 tyX5_ok nmX5 hown hK hP hD hS 0 rfl rfl 0 (by decide) (dr_words hts d0 (.fieldLink RX5 55 "PlateModesModel" "thrown" "I") (by decide +kernel)) (fun _ h9 => h9) rfl (by decide +kernel) rfl rfl (Nat.le_of_ble_eq_true rfl) dX5_shape_28 (fun H locs hP hD hS => ?_)
    have hP : va_P (dC, dI) vwCl (w5 a0 aT aE aG aR aN aS aQ aW aX cD cI (nI ((zckM bt (zmks mk im) k))) iw ih fa fb fd ib mk im iq tT tE tG tR tN tS tQ tW tX) H := hP
    have hD : va_D A (w5 a0 aT aE aG aR aN aS aQ aW aX cD cI (nI ((zckM bt (zmks mk im) k))) iw ih fa fb fd ib mk im iq tT tE tG tR tN tS tQ tW tX) := hD
    refine lv_aload_n hx hb dX5_shape_31 rfl (lv_at hl 0 rfl) ?_
    refine va_get (D := (dC, dI)) (ci := 5) (v := .int (nI ((zckM bt (zmks mk im) k)))) (C := RX5) (T := TX5) (N := 19) hx hb (dr_words hts d0) (in_X5_shape_X5) hown hK hP 0 rfl rfl 0 (by decide) (dr_words hts d0 (.fieldLink RX5 55 "PlateModesModel" "thrown" "I") (by decide +kernel)) (fun _ h9 => h9) rfl dX5_shape_32 ?_
    refine z_if_le (tgt := 42) hx hb (by omega) dX5_shape_35 (by decide) (fun c2 => ?_) (fun c3 => ?_)
    · skip
      have c_0 := c2
      obtain ⟨hb1, hkM⟩ := zckM_0 c_0
      have hall := of_decide_eq_true (hbt.symm.trans hb1)
      obtain ⟨kn, hk4, rfl⟩ := zmd_of hall.1
      obtain ⟨hmk, hki⟩ := zkM hk4 hq.1 hkM
      obtain ⟨gR, gN, hcn, hsh⟩ := hq.2 hmk
      obtain ⟨gS, gQ⟩ := hsh kn hki
      obtain ⟨xn, yn, hxw, hyh, rfl, rfl⟩ := zcl_of hw6 hh6 hall.2
      refine lv_aload_n hx hb dX5_shape_42 rfl (lv_at hl 0 rfl) ?_
      refine va_get (D := (dC, dI)) (ci := 5) (v := .ref aS) (C := RX5) (T := TX5) (N := 19) hx hb (dr_words hts d0) (in_X5_shape_X5) hown hK hP 0 rfl rfl 14 (by decide) (dr_words hts d0 (.fieldLink RX5 36 "PlateModesModel" "shapes" "[D") (by decide +kernel)) (fun _ h9 => h9) rfl dX5_shape_43 ?_
      refine lv_bipush (v := (nI 36)) hx hb dX5_shape_46 (by decide) ?_
      refine lv_iload_n hx hb dX5_shape_48 rfl (lv_at hl 1 rfl) ?_
      refine t_imul hx hb dX5_shape_49 (v := nI (36 * kn)) (zi_mul rfl) ?_
      refine lv_bipush (v := (nI 6)) hx hb dX5_shape_50 (by decide) ?_
      refine lv_iload_n hx hb dX5_shape_52 rfl (lv_at hl 3 rfl) ?_
      refine t_imul hx hb dX5_shape_53 (v := nI (6 * yn)) (zi_mul rfl) ?_
      refine t_iadd hx hb dX5_shape_54 (v := nI (36 * kn + 6 * yn)) (zi_add (by omega)) ?_
      refine lv_iload_n hx hb dX5_shape_55 rfl (lv_at hl 2 rfl) ?_
      refine t_iadd hx hb dX5_shape_56 (v := nI (36 * kn + 6 * yn + xn)) (zi_add (by omega)) ?_
      refine z_dald (s := s.setDrawn d0) (n := 144) (i := 36 * kn + 6 * yn + xn) hx hb hK hP 6 0 rfl rfl (by omega) (by decide) dX5_shape_57 ?_
      refine W.endD hd0 ?_
      exact W.dret (v := tS (36 * kn + 6 * yn + xn)) hx hb hr (fun t ht hW => ⟨⟨tS (36 * kn + 6 * yn + xn), (nI ((zckM bt (zmks mk im) (nI kn)))), rfl, ⟨by rw [hbt], fun _ => by rw [zn_nI (by omega), zn_nI (by omega), zn_nI (by omega)]; exact zgs_at gS xn yn (by omega) (by omega) (by omega)⟩, by rw [ht]; exact hP, va_K.moved hW.alike hK, hD⟩, hS.F ht⟩) hS.2.2 dX5_shape_58
    · skip
      have c_0 := c3
      refine lv_dconst0 hx hb dX5_shape_38 ?_
      refine lv_goto (tgt := 58) hx hb dX5_shape_39 (by decide) ?_
      refine W.endD hd0 ?_
      exact W.dret (v := FP.dconst0) hx hb hr (fun t ht hW => ⟨⟨FP.dconst0, (nI ((zckM bt (zmks mk im) k))), rfl, ⟨by rw [hbt], fun h => absurd (by rw [hbt]; exact h) (Nat.ne_of_gt c_0)⟩, by rw [ht]; exact hP, va_K.moved hW.alike hK, hD⟩, hS.F ht⟩) hS.2.2 dX5_shape_58
  refine lv_aload_n hx hb dX5_shape_0 rfl (lv_at hl 0 rfl) ?_
  refine lv_aload_n hx hb dX5_shape_1 rfl (lv_at hl 0 rfl) ?_
  refine lv_aload_n hx hb dX5_shape_2 rfl (lv_at hl 0 rfl) ?_
  refine lv_iload_n hx hb dX5_shape_3 rfl (lv_at hl 1 rfl) ?_
  have hPc := hP
  refine va_calli (va_runV (As := [.int k]) (rest := [.ref a0, .ref a0]) ⟨hx, hb, hml, hown, (dr_words hts s.drawn)⟩ (c5_noMode l dC dI a0 aT aE aG aR aN aS aQ aW aX cD cI th iw ih fa fb fd ib mk im iq tT tE tG tR tN tS tQ tW tX k) (cwV 1 (dr_words hts s.drawn) gX5_shape_X5_noMode rfl rfl rfl (by decide +kernel) ⟨Nat.le_of_ble_eq_true rfl, Nat.le_of_ble_eq_true rfl⟩) ⟨zfb, va_recv hK hP (ci := 5) (q0 := 0) rfl rfl, zpre hPc hK⟩ rfl rfl hl.1 rfl (lv_room (Nat.le_of_ble_eq_true rfl)) dX5_shape_4 ⟨Nat.le_of_ble_eq_true rfl, Nat.le_of_ble_eq_true rfl⟩) hS (fun q _ h => h.elim) (fun q h => h.elim) (fun r4 u9 t9 H locs ht9 hvm9 hr4 hB9 hz9 hk1 hS => ?_)
  have hP := zro1 hP hk1
  subst hr4
  refine z_if_ne_p (tgt := 23) hx hb (znmd k) dX5_shape_7 (by decide) (fun c5 => ?_) (fun c6 => ?_)
  · skip
    have c_7 := c5
    refine lv_iconst (v := (nI 0)) hx hb dX5_shape_23 (by decide) ?_
    exact J_24 false _ _ _ _ ((decide_eq_false (fun hh => by obtain ⟨h1, h2⟩ := hh; first | exact h1 c_7 | exact h2 c_16)).symm) hd0 hP hD hS hl
  · skip
    have c_7 := c6
    refine lv_aload_n hx hb dX5_shape_10 rfl (lv_at hl 0 rfl) ?_
    refine lv_iload_n hx hb dX5_shape_11 rfl (lv_at hl 2 rfl) ?_
    refine lv_iload_n hx hb dX5_shape_12 rfl (lv_at hl 3 rfl) ?_
    have hPc := hP
    refine va_calli (va_runV (As := [.int x, .int y]) (rest := [.ref a0, .ref a0]) ⟨hx, hb, hml, hown, (dr_words hts s.drawn)⟩ (c5_noCell l dC dI a0 aT aE aG aR aN aS aQ aW aX cD cI th iw ih fa fb fd ib mk im iq tT tE tG tR tN tS tQ tW tX x y) (cwV 2 (dr_words hts s.drawn) gX5_shape_X5_noCell rfl rfl rfl (by decide +kernel) ⟨Nat.le_of_ble_eq_true rfl, Nat.le_of_ble_eq_true rfl⟩) ⟨zfb, va_recv hK hP (ci := 5) (q0 := 0) rfl rfl, zpre hPc hK⟩ rfl rfl hl.1 rfl (lv_room (Nat.le_of_ble_eq_true rfl)) dX5_shape_13 ⟨Nat.le_of_ble_eq_true rfl, Nat.le_of_ble_eq_true rfl⟩) hS (fun q _ h => h.elim) (fun q h => h.elim) (fun r7 u9 t9 H locs ht9 hvm9 hr7 hB9 hz9 hk1 hS => ?_)
    have hP := zro1 hP hk1
    subst hr7
    refine z_if_ne_p (tgt := 23) hx hb (zncl iw ih x y) dX5_shape_16 (by decide) (fun c8 => ?_) (fun c9 => ?_)
    · skip
      have c_16 := c8
      refine lv_iconst (v := (nI 0)) hx hb dX5_shape_23 (by decide) ?_
      exact J_24 false _ _ _ _ ((decide_eq_false (fun hh => by obtain ⟨h1, h2⟩ := hh; first | exact h1 c_7 | exact h2 c_16)).symm) hd0 hP hD hS hl
    · skip
      have c_16 := c9
      refine lv_iconst (v := (nI 1)) hx hb dX5_shape_19 (by decide) ?_
      refine lv_goto (tgt := 24) hx hb dX5_shape_20 (by decide) ?_
      exact J_24 true _ _ _ _ ((decide_eq_true ⟨c_7, c_16⟩).symm) hd0 hP hD hS hl
theorem in_X5_product_X5 : ∀ w ∈ wsX50, w ∈ wsX5_product := fun w h => List.mem_cons_of_mem _ (List.mem_append_right _ h)
set_option maxHeartbeats 4000000 in
set_option maxRecDepth 100000 in
/-- product -/
theorem c5_product (l : Launch) (dC : Nat → ClassId) (dI : Nat → Nat → Nat) (a0 aT aE aG aR aN aS aQ aW aX : Nat) (cD cI : ClassId) (th : Int32) (iw ih : Nat) (fa fb fd : UInt64) (ib : Nat) (mk : Bool) (im iq : Nat) (tT : Nat → UInt64) (tE : Nat → Int32) (tG tR tN tS tQ : Nat → UInt64) (tW : Nat → Int32) (tX : Nat → UInt64) (T RX NX : Nat → ZD) (gT : zgr tT iw ih T) (hw6 : iw ≤ 6) (hh6 : ih ≤ 6) (hq : q5m iw ih mk im tR tN tS tQ T RX NX (zv fd)) (k o : Int32) (sz : Nat) : MetD lw_cs l yX5_product wsX5_product ({ frames := 2, cells := 0, slots := 0, locals := 48 } : Room) (va_Pc [.ref a0, .int k, .int o] (fun U => U.heap.size = sz ∧ va_P (dC, dI) vwCl (w5 a0 aT aE aG aR aN aS aQ aW aX cD cI th iw ih fa fb fd ib mk im iq tT tE tG tR tN tS tQ tW tX) U.heap ∧ va_K (dC, dI) vwCl [(cD, .double), (cI, .int)] U ∧ va_D (fun _ => True) (w5 a0 aT aE aG aR aN aS aQ aW aX cD cI th iw ih fa fb fd ib mk im iq tT tE tG tR tN tS tQ tW tX))) (va_Qd (fun (r : UInt64) (u : Int32) => u = nI (zckM (decide (¬ znmd k ∧ ¬ znmd o)) (zmks mk im) (zmx k o)) ∧ (zckM (decide (¬ znmd k ∧ ¬ znmd o)) (zmks mk im) (zmx k o) = 0 → zv r = zprod T (zshp iw ih T RX NX (zv fd) (zn k)) (zshp iw ih T RX NX (zv fd) (zn o)) (zv fd) (iw * ih))) (fun u t => (va_P (dC, dI) vwCl (w5 a0 aT aE aG aR aN aS aQ aW aX cD cI u iw ih fa fb fd ib mk im iq tT tE tG tR tN tS tQ tW tX) t.heap ∧ va_K (dC, dI) vwCl [(cD, .double), (cI, .int)] t ∧ va_D (va_A (w5 a0 aT aE aG aR aN aS aQ aW aX cD cI th iw ih fa fb fd ib mk im iq tT tE tG tR tN tS tQ tW tX) sz) (w5 a0 aT aE aG aR aN aS aQ aW aX cD cI u iw ih fa fb fd ib mk im iq tT tE tG tR tN tS tQ tW tX))) (va_A (w5 a0 aT aE aG aR aN aS aQ aW aX cD cI th iw ih fa fb fd ib mk im iq tT tE tG tR tN tS tQ tW tX) sz)) 0 0 (va_A (w5 a0 aT aE aG aR aN aS aQ aW aX cD cI th iw ih fa fb fd ib mk im iq tT tE tG tR tN tS tQ tW tX) sz) := by
  refine MetD.ofW (cc := cX5_product) (maxL := 3) (ret := (some .double)) (by decide) rfl ?_
  intro p e s m args below meth c s₁ B hml hv hd0
  obtain ⟨rfl, hsz, hP, hK, hD0⟩ := hv
  have hx := B.exec
  have hb := B.bytes
  have hr := B.returns
  have hts := atoms_spec (ws := wsX5_product) B.pre
  have hown : s.vm.findClass RX5 = some m.cls := findClass_of_methodNamed B.named
  have hlocks := B.notSynchronized
  subst hsz
  have hD := hD0.self (sz := s.heap.size)
  generalize hAe : va_A (w5 a0 aT aE aG aR aN aS aQ aW aX cD cI th iw ih fa fb fd ib mk im iq tT tE tG tR tN tS tQ tW tX) s.heap.size = A at hD ⊢
  have hA : ∀ q : Nat, s.heap.size ≤ q → A q := fun q h => by rw [← hAe]; exact Or.inr h
  have hS : va_S A s.heap s.heap [] := va_S.rf
  have hl := lv_entry ([.ref a0, .int k, .int o]) (n := 3) (Nat.le_of_ble_eq_true rfl)
  rw [lg_entry_eq]
  generalize (lg_sl ([.ref a0, .int k, .int o]) ++ List.replicate (3 - (lg_sl ([.ref a0, .int k, .int o])).length) Slot.unset).toArray = ls at hl ⊢
  have hl : lv_has ls 3 [(0, .ref a0), (1, .int k), (2, .int o)] := hl
  have J_23 : ∀ (bt : Bool) (d0 : Drawn) (H : Heap) (locs : List Loc) (ls : Array Slot), (bt = decide (¬ znmd k ∧ ¬ znmd o)) → s.drawn.sameBut d0 lw_cs → va_P (dC, dI) vwCl (w5 a0 aT aE aG aR aN aS aQ aW aX cD cI th iw ih fa fb fd ib mk im iq tT tE tG tR tN tS tQ tW tX) H → va_D A (w5 a0 aT aE aG aR aN aS aQ aW aX cD cI th iw ih fa fb fd ib mk im iq tT tE tG tR tN tS tQ tW tX) → va_S A s.heap H locs → lv_has ls 3 [(0, .ref a0), (1, .int k), (2, .int o)] → W p l e (headSpec wsX5_product ({ frames := 2, cells := 0, slots := 0, locals := 48 } : Room)).room (s.setDrawn d0) m ([.ref a0, .int k, .int o] : List Value).toArray below meth c H locs 0 0 (MQD lw_cs below (va_Qd (fun (r : UInt64) (u : Int32) => u = nI (zckM (decide (¬ znmd k ∧ ¬ znmd o)) (zmks mk im) (zmx k o)) ∧ (zckM (decide (¬ znmd k ∧ ¬ znmd o)) (zmks mk im) (zmx k o) = 0 → zv r = zprod T (zshp iw ih T RX NX (zv fd) (zn k)) (zshp iw ih T RX NX (zv fd) (zn o)) (zv fd) (iw * ih))) (fun u t => (va_P (dC, dI) vwCl (w5 a0 aT aE aG aR aN aS aQ aW aX cD cI u iw ih fa fb fd ib mk im iq tT tE tG tR tN tS tQ tW tX) t.heap ∧ va_K (dC, dI) vwCl [(cD, .double), (cI, .int)] t ∧ va_D A (w5 a0 aT aE aG aR aN aS aQ aW aX cD cI u iw ih fa fb fd ib mk im iq tT tE tG tR tN tS tQ tW tX))) A) ([.ref a0, .int k, .int o] : List Value).toArray s 0 0 A) (F0 m 23 ls [.int (zb bt), .ref a0, .ref a0]) := by
    intro bt d0 H locs ls hbt hd0 hP hD hS hl
    refine lv_iload_n hx hb dX5_product_23 rfl (lv_at hl 1 rfl) ?_
    have J_33 : ∀ (mx : Int32) (d0 : Drawn) (H : Heap) (locs : List Loc) (ls : Array Slot), (mx = zmx k o) → s.drawn.sameBut d0 lw_cs → va_P (dC, dI) vwCl (w5 a0 aT aE aG aR aN aS aQ aW aX cD cI th iw ih fa fb fd ib mk im iq tT tE tG tR tN tS tQ tW tX) H → va_D A (w5 a0 aT aE aG aR aN aS aQ aW aX cD cI th iw ih fa fb fd ib mk im iq tT tE tG tR tN tS tQ tW tX) → va_S A s.heap H locs → lv_has ls 3 [(0, .ref a0), (1, .int k), (2, .int o)] → W p l e (headSpec wsX5_product ({ frames := 2, cells := 0, slots := 0, locals := 48 } : Room)).room (s.setDrawn d0) m ([.ref a0, .int k, .int o] : List Value).toArray below meth c H locs 0 0 (MQD lw_cs below (va_Qd (fun (r : UInt64) (u : Int32) => u = nI (zckM (decide (¬ znmd k ∧ ¬ znmd o)) (zmks mk im) (zmx k o)) ∧ (zckM (decide (¬ znmd k ∧ ¬ znmd o)) (zmks mk im) (zmx k o) = 0 → zv r = zprod T (zshp iw ih T RX NX (zv fd) (zn k)) (zshp iw ih T RX NX (zv fd) (zn o)) (zv fd) (iw * ih))) (fun u t => (va_P (dC, dI) vwCl (w5 a0 aT aE aG aR aN aS aQ aW aX cD cI u iw ih fa fb fd ib mk im iq tT tE tG tR tN tS tQ tW tX) t.heap ∧ va_K (dC, dI) vwCl [(cD, .double), (cI, .int)] t ∧ va_D A (w5 a0 aT aE aG aR aN aS aQ aW aX cD cI u iw ih fa fb fd ib mk im iq tT tE tG tR tN tS tQ tW tX))) A) ([.ref a0, .int k, .int o] : List Value).toArray s 0 0 A) (F0 m 33 ls [.int mx, .int (zb bt), .ref a0, .ref a0]) := by
      intro mx d0 H locs ls hmx hd0 hP hD hS hl
      have hPc := hP
      refine va_calli (va_runV (As := [.int (zb bt), .int mx]) (rest := [.ref a0]) ⟨hx, hb, hml, hown, (dr_words hts d0)⟩ (c5_check l dC dI a0 aT aE aG aR aN aS aQ aW aX cD cI th iw ih fa fb fd ib mk im iq tT tE tG tR tN tS tQ tW tX bt mx) (cwV 2 (dr_words hts d0) gX5_product_X5_check rfl rfl rfl (by decide +kernel) ⟨Nat.le_of_ble_eq_true rfl, Nat.le_of_ble_eq_true rfl⟩) ⟨zfb, va_recv hK hP (ci := 5) (q0 := 0) rfl rfl, zpre hPc hK⟩ rfl rfl hl.1 rfl (lv_room (Nat.le_of_ble_eq_true rfl)) dX5_product_33 ⟨Nat.le_of_ble_eq_true rfl, Nat.le_of_ble_eq_true rfl⟩) hS (fun q _ h => h.elim) (fun q h => h.elim) (fun r1 u9 t9 H locs ht9 hvm9 hr1 hB9 hz9 hk1 hS => ?_)
      have hP := zro1 hP hk1
      have hr1 : r1 = nI (zckM bt (zmks mk im) mx) := hr1.trans (zchk_M (fun h => fun q => by have h9 := of_decide_eq_true (hbt.symm.trans h); rw [hmx] at q; unfold zmx at q; split at q; exact h9.1 (Or.inl q); exact h9.2 (Or.inl q)))
      subst hr1
      have hckle := zckM_le bt (zmks mk im) mx
      refine va_put (D := (dC, dI)) (ci := 5) (v := .int (nI ((zckM bt (zmks mk im) mx)))) (ty := .int) (C := RX5) (T := TX5) (N := 19) hx hb (dr_words hts d0) (in_X5_product_X5) tyX5 tyX5_ok nmX5 hown hK hP hD hS 0 rfl rfl 0 (by decide) (dr_words hts d0 (.fieldLink RX5 55 "PlateModesModel" "thrown" "I") (by decide +kernel)) (fun _ h9 => h9) rfl (by decide +kernel) rfl rfl (Nat.le_of_ble_eq_true rfl) dX5_product_36 (fun H locs hP hD hS => ?_)
      have hP : va_P (dC, dI) vwCl (w5 a0 aT aE aG aR aN aS aQ aW aX cD cI (nI ((zckM bt (zmks mk im) mx))) iw ih fa fb fd ib mk im iq tT tE tG tR tN tS tQ tW tX) H := hP
      have hD : va_D A (w5 a0 aT aE aG aR aN aS aQ aW aX cD cI (nI ((zckM bt (zmks mk im) mx))) iw ih fa fb fd ib mk im iq tT tE tG tR tN tS tQ tW tX) := hD
      refine lv_aload_n hx hb dX5_product_39 rfl (lv_at hl 0 rfl) ?_
      refine va_get (D := (dC, dI)) (ci := 5) (v := .int (nI ((zckM bt (zmks mk im) mx)))) (C := RX5) (T := TX5) (N := 19) hx hb (dr_words hts d0) (in_X5_product_X5) hown hK hP 0 rfl rfl 0 (by decide) (dr_words hts d0 (.fieldLink RX5 55 "PlateModesModel" "thrown" "I") (by decide +kernel)) (fun _ h9 => h9) rfl dX5_product_40 ?_
      refine z_if_le (tgt := 50) hx hb (by omega) dX5_product_43 (by decide) (fun c2 => ?_) (fun c3 => ?_)
      · skip
        have c_0 := c2
        obtain ⟨hb1, hkM⟩ := zckM_0 c_0
        have hall := of_decide_eq_true (hbt.symm.trans hb1)
        obtain ⟨kn, hk4, rfl⟩ := zmd_of hall.1
        obtain ⟨on, ho4, rfl⟩ := zmd_of hall.2
        have hM4 := zmks_le (mk := mk) hq.1
        rw [hmx] at hkM
        obtain ⟨hkM, hoM⟩ := zmx_lt (by omega) (by omega) (by omega) hkM
        obtain ⟨hmk, hki⟩ := zkM hk4 hq.1 hkM
        obtain ⟨gR, gN, hcn, hsh⟩ := hq.2 hmk
        obtain ⟨gS, gQ⟩ := hsh kn hki
        obtain ⟨-, hoi⟩ := zkM ho4 hq.1 hoM
        obtain ⟨gS2, gQ2⟩ := hsh on hoi
        refine lv_aload_n hx hb dX5_product_50 rfl (lv_at hl 0 rfl) ?_
        refine lv_iload_n hx hb dX5_product_51 rfl (lv_at hl 1 rfl) ?_
        refine lv_iload_n hx hb dX5_product_52 rfl (lv_at hl 2 rfl) ?_
        have hPc := hP
        refine va_calldD hd0 (va_runV_D (As := [.int (nI kn), .int (nI on)]) (rest := []) ⟨hx, hb, hml, hown, (dr_words hts d0)⟩ (c5_productOf l dC dI a0 aT aE aG aR aN aS aQ aW aX cD cI (nI ((zckM bt (zmks mk im) mx))) iw ih fa fb fd ib mk im iq tT tE tG tR tN tS tQ tW tX kn on (by omega) (by omega) hw6 hh6 T (zshp iw ih T RX NX (zv fd) kn) (zshp iw ih T RX NX (zv fd) on) gT gS gS2) (cwV 2 (dr_words hts d0) gX5_product_X5_productOf rfl rfl rfl (by decide +kernel) ⟨Nat.le_of_ble_eq_true rfl, Nat.le_of_ble_eq_true rfl⟩) ⟨zfb, va_recv hK hP (ci := 5) (q0 := 0) rfl rfl, zpre hPc hK⟩ rfl rfl hl.1 rfl (lv_room (Nat.le_of_ble_eq_true rfl)) dX5_product_53 ⟨Nat.le_of_ble_eq_true rfl, Nat.le_of_ble_eq_true rfl⟩) hS (fun q _ h => h.elim) (fun q h => h.elim) (fun r4 u9 t9 H locs ht9 hvm9 hr4 hB9 hz9 hk1 hS dhd5 hd5 => ?_)
        have hP := zro1 hP hk1
        refine W.endD hd5 ?_
        exact W.dret (v := r4) hx hb hr (fun t ht hW => ⟨⟨r4, (nI ((zckM bt (zmks mk im) mx))), rfl, ⟨by rw [hbt, hmx], fun _ => by rw [zn_nI (by omega), zn_nI (by omega)]; exact hr4⟩, by rw [ht]; exact hP, va_K.moved hW.alike hK, hD⟩, hS.F ht⟩) hS.2.2 dX5_product_56
      · skip
        have c_0 := c3
        refine lv_dconst0 hx hb dX5_product_46 ?_
        refine lv_goto (tgt := 56) hx hb dX5_product_47 (by decide) ?_
        refine W.endD hd0 ?_
        exact W.dret (v := FP.dconst0) hx hb hr (fun t ht hW => ⟨⟨FP.dconst0, (nI ((zckM bt (zmks mk im) mx))), rfl, ⟨by rw [hbt, hmx], fun h => absurd (by rw [hbt, hmx]; exact h) (Nat.ne_of_gt c_0)⟩, by rw [ht]; exact hP, va_K.moved hW.alike hK, hD⟩, hS.F ht⟩) hS.2.2 dX5_product_56
    refine lv_iload_n hx hb dX5_product_24 rfl (lv_at hl 2 rfl) ?_
    refine lv_icmp_le (tgt := 32) hx hb dX5_product_25 (by decide) (fun c6 => ?_) (fun c7 => ?_)
    · skip
      have c_25 := c6
      refine lv_iload_n hx hb dX5_product_32 rfl (lv_at hl 2 rfl) ?_
      exact J_33 o _ _ _ _ ((if_neg (Int32.not_lt.mpr c_25)).symm) hd0 hP hD hS hl
    · skip
      have c_25 := c7
      refine lv_iload_n hx hb dX5_product_28 rfl (lv_at hl 1 rfl) ?_
      refine lv_goto (tgt := 33) hx hb dX5_product_29 (by decide) ?_
      exact J_33 k _ _ _ _ ((if_pos (Int32.not_le.mp c_25)).symm) hd0 hP hD hS hl
  refine lv_aload_n hx hb dX5_product_0 rfl (lv_at hl 0 rfl) ?_
  refine lv_aload_n hx hb dX5_product_1 rfl (lv_at hl 0 rfl) ?_
  refine lv_aload_n hx hb dX5_product_2 rfl (lv_at hl 0 rfl) ?_
  refine lv_iload_n hx hb dX5_product_3 rfl (lv_at hl 1 rfl) ?_
  have hPc := hP
  refine va_calli (va_runV (As := [.int k]) (rest := [.ref a0, .ref a0]) ⟨hx, hb, hml, hown, (dr_words hts s.drawn)⟩ (c5_noMode l dC dI a0 aT aE aG aR aN aS aQ aW aX cD cI th iw ih fa fb fd ib mk im iq tT tE tG tR tN tS tQ tW tX k) (cwV 1 (dr_words hts s.drawn) gX5_product_X5_noMode rfl rfl rfl (by decide +kernel) ⟨Nat.le_of_ble_eq_true rfl, Nat.le_of_ble_eq_true rfl⟩) ⟨zfb, va_recv hK hP (ci := 5) (q0 := 0) rfl rfl, zpre hPc hK⟩ rfl rfl hl.1 rfl (lv_room (Nat.le_of_ble_eq_true rfl)) dX5_product_4 ⟨Nat.le_of_ble_eq_true rfl, Nat.le_of_ble_eq_true rfl⟩) hS (fun q _ h => h.elim) (fun q h => h.elim) (fun r8 u9 t9 H locs ht9 hvm9 hr8 hB9 hz9 hk1 hS => ?_)
  have hP := zro1 hP hk1
  subst hr8
  refine z_if_ne_p (tgt := 22) hx hb (znmd k) dX5_product_7 (by decide) (fun c9 => ?_) (fun c10 => ?_)
  · skip
    have c_7 := c9
    refine lv_iconst (v := (nI 0)) hx hb dX5_product_22 (by decide) ?_
    exact J_23 false _ _ _ _ ((decide_eq_false (fun hh => by obtain ⟨h1, h2⟩ := hh; first | exact h1 c_7 | exact h2 c_15)).symm) hd0 hP hD hS hl
  · skip
    have c_7 := c10
    refine lv_aload_n hx hb dX5_product_10 rfl (lv_at hl 0 rfl) ?_
    refine lv_iload_n hx hb dX5_product_11 rfl (lv_at hl 2 rfl) ?_
    have hPc := hP
    refine va_calli (va_runV (As := [.int o]) (rest := [.ref a0, .ref a0]) ⟨hx, hb, hml, hown, (dr_words hts s.drawn)⟩ (c5_noMode l dC dI a0 aT aE aG aR aN aS aQ aW aX cD cI th iw ih fa fb fd ib mk im iq tT tE tG tR tN tS tQ tW tX o) (cwV 1 (dr_words hts s.drawn) gX5_product_X5_noMode rfl rfl rfl (by decide +kernel) ⟨Nat.le_of_ble_eq_true rfl, Nat.le_of_ble_eq_true rfl⟩) ⟨zfb, va_recv hK hP (ci := 5) (q0 := 0) rfl rfl, zpre hPc hK⟩ rfl rfl hl.1 rfl (lv_room (Nat.le_of_ble_eq_true rfl)) dX5_product_12 ⟨Nat.le_of_ble_eq_true rfl, Nat.le_of_ble_eq_true rfl⟩) hS (fun q _ h => h.elim) (fun q h => h.elim) (fun r11 u9 t9 H locs ht9 hvm9 hr11 hB9 hz9 hk1 hS => ?_)
    have hP := zro1 hP hk1
    subst hr11
    refine z_if_ne_p (tgt := 22) hx hb (znmd o) dX5_product_15 (by decide) (fun c12 => ?_) (fun c13 => ?_)
    · skip
      have c_15 := c12
      refine lv_iconst (v := (nI 0)) hx hb dX5_product_22 (by decide) ?_
      exact J_23 false _ _ _ _ ((decide_eq_false (fun hh => by obtain ⟨h1, h2⟩ := hh; first | exact h1 c_7 | exact h2 c_15)).symm) hd0 hP hD hS hl
    · skip
      have c_15 := c13
      refine lv_iconst (v := (nI 1)) hx hb dX5_product_18 (by decide) ?_
      refine lv_goto (tgt := 23) hx hb dX5_product_19 (by decide) ?_
      exact J_23 true _ _ _ _ ((decide_eq_true ⟨c_7, c_15⟩).symm) hd0 hP hD hS hl
theorem in_X5_weight_X5 : ∀ w ∈ wsX50, w ∈ wsX5_weight := fun w h => List.mem_cons_of_mem _ (List.mem_append_right _ h)
set_option maxHeartbeats 4000000 in
set_option maxRecDepth 100000 in
/-- weight -/
theorem c5_weight (l : Launch) (dC : Nat → ClassId) (dI : Nat → Nat → Nat) (a0 aT aE aG aR aN aS aQ aW aX : Nat) (cD cI : ClassId) (th : Int32) (iw ih : Nat) (fa fb fd : UInt64) (ib : Nat) (mk : Bool) (im iq : Nat) (tT : Nat → UInt64) (tE : Nat → Int32) (tG tR tN tS tQ : Nat → UInt64) (tW : Nat → Int32) (tX : Nat → UInt64) (hw6 : iw ≤ 6) (hh6 : ih ≤ 6) (T : Nat → ZD) (gT : zgr tT iw ih T) (sz : Nat) : MetD lw_cs l yX5_weight wsX5_weight ({ frames := 1, cells := 0, slots := 0, locals := 21 } : Room) (va_Pc [.ref a0] (fun U => U.heap.size = sz ∧ va_P (dC, dI) vwCl (w5 a0 aT aE aG aR aN aS aQ aW aX cD cI th iw ih fa fb fd ib mk im iq tT tE tG tR tN tS tQ tW tX) U.heap ∧ va_K (dC, dI) vwCl [(cD, .double), (cI, .int)] U ∧ va_D (fun _ => True) (w5 a0 aT aE aG aR aN aS aQ aW aX cD cI th iw ih fa fb fd ib mk im iq tT tE tG tR tN tS tQ tW tX))) (va_Qd (fun (r : UInt64) (_ : Unit) => zv r = zwt T (zv fd) (iw * ih)) (fun _ t => (va_P (dC, dI) vwCl (w5 a0 aT aE aG aR aN aS aQ aW aX cD cI (nI 0) iw ih fa fb fd ib mk im iq tT tE tG tR tN tS tQ tW tX) t.heap ∧ va_K (dC, dI) vwCl [(cD, .double), (cI, .int)] t ∧ va_D (va_A (w5 a0 aT aE aG aR aN aS aQ aW aX cD cI th iw ih fa fb fd ib mk im iq tT tE tG tR tN tS tQ tW tX) sz) (w5 a0 aT aE aG aR aN aS aQ aW aX cD cI (nI 0) iw ih fa fb fd ib mk im iq tT tE tG tR tN tS tQ tW tX))) (va_A (w5 a0 aT aE aG aR aN aS aQ aW aX cD cI th iw ih fa fb fd ib mk im iq tT tE tG tR tN tS tQ tW tX) sz)) 0 0 (va_A (w5 a0 aT aE aG aR aN aS aQ aW aX cD cI th iw ih fa fb fd ib mk im iq tT tE tG tR tN tS tQ tW tX) sz) := by
  refine MetD.ofW (cc := cX5_weight) (maxL := 5) (ret := (some .double)) (by decide) rfl ?_
  intro p e s m args below meth c s₁ B hml hv hd0
  obtain ⟨rfl, hsz, hP, hK, hD0⟩ := hv
  have hx := B.exec
  have hb := B.bytes
  have hr := B.returns
  have hts := atoms_spec (ws := wsX5_weight) B.pre
  have hown : s.vm.findClass RX5 = some m.cls := findClass_of_methodNamed B.named
  have hlocks := B.notSynchronized
  subst hsz
  have hD := hD0.self (sz := s.heap.size)
  generalize hAe : va_A (w5 a0 aT aE aG aR aN aS aQ aW aX cD cI th iw ih fa fb fd ib mk im iq tT tE tG tR tN tS tQ tW tX) s.heap.size = A at hD ⊢
  have hA : ∀ q : Nat, s.heap.size ≤ q → A q := fun q h => by rw [← hAe]; exact Or.inr h
  have hS : va_S A s.heap s.heap [] := va_S.rf
  have hl := lv_entry ([.ref a0]) (n := 5) (Nat.le_of_ble_eq_true rfl)
  rw [lg_entry_eq]
  generalize (lg_sl ([.ref a0]) ++ List.replicate (5 - (lg_sl ([.ref a0])).length) Slot.unset).toArray = ls at hl ⊢
  have hl : lv_has ls 5 [(0, .ref a0)] := hl
  refine lv_aload_n hx hb dX5_weight_0 rfl (lv_at hl 0 rfl) ?_
  refine lv_iconst (v := (nI 0)) hx hb dX5_weight_1 (by decide) ?_
  refine va_put (D := (dC, dI)) (ci := 5) (v := .int (nI 0)) (ty := .int) (C := RX5) (T := TX5) (N := 19) hx hb (dr_words hts s.drawn) (in_X5_weight_X5) tyX5 tyX5_ok nmX5 hown hK hP hD hS 0 rfl rfl 0 (by decide) (dr_words hts s.drawn (.fieldLink RX5 55 "PlateModesModel" "thrown" "I") (by decide +kernel)) (fun _ h9 => h9) rfl (by decide +kernel) rfl rfl (Nat.le_of_ble_eq_true rfl) dX5_weight_2 (fun H locs hP hD hS => ?_)
  have hP : va_P (dC, dI) vwCl (w5 a0 aT aE aG aR aN aS aQ aW aX cD cI (nI 0) iw ih fa fb fd ib mk im iq tT tE tG tR tN tS tQ tW tX) H := hP
  have hD : va_D A (w5 a0 aT aE aG aR aN aS aQ aW aX cD cI (nI 0) iw ih fa fb fd ib mk im iq tT tE tG tR tN tS tQ tW tX) := hD
  refine lv_dconst0 hx hb dX5_weight_5 ?_
  refine lv_dstore_n (lv' := [(1, .double FP.dconst0), (0, .ref a0)]) hx hb dX5_weight_6 rfl hl (by decide) rfl (fun ls hl => ?_)
  refine lv_iconst (v := (nI 0)) hx hb dX5_weight_7 (by decide) ?_
  refine lv_istore_n (lv' := [(3, .int (nI 0)), (1, .double FP.dconst0), (0, .ref a0)]) hx hb dX5_weight_8 rfl hl (by decide) rfl (fun ls hl => ?_)
  have L_9 : ∀ (n : Nat) (y : Nat) (sy : UInt64) (d0 : Drawn) (H : Heap) (locs : List Loc) (ls : Array Slot), ih - y < n → (y ≤ ih) → (zv sy = zwt T (zv fd) (y * iw)) → s.drawn.sameBut d0 lw_cs → va_P (dC, dI) vwCl (w5 a0 aT aE aG aR aN aS aQ aW aX cD cI (nI 0) iw ih fa fb fd ib mk im iq tT tE tG tR tN tS tQ tW tX) H → va_D A (w5 a0 aT aE aG aR aN aS aQ aW aX cD cI (nI 0) iw ih fa fb fd ib mk im iq tT tE tG tR tN tS tQ tW tX) → va_S A s.heap H locs → lv_has ls 5 [(3, .int (nI y)), (1, .double sy), (0, .ref a0)] → W p l e (headSpec wsX5_weight ({ frames := 1, cells := 0, slots := 0, locals := 21 } : Room)).room (s.setDrawn d0) m ([.ref a0] : List Value).toArray below meth c H locs 0 0 (MQD lw_cs below (va_Qd (fun (r : UInt64) (_ : Unit) => zv r = zwt T (zv fd) (iw * ih)) (fun _ t => (va_P (dC, dI) vwCl (w5 a0 aT aE aG aR aN aS aQ aW aX cD cI (nI 0) iw ih fa fb fd ib mk im iq tT tE tG tR tN tS tQ tW tX) t.heap ∧ va_K (dC, dI) vwCl [(cD, .double), (cI, .int)] t ∧ va_D A (w5 a0 aT aE aG aR aN aS aQ aW aX cD cI (nI 0) iw ih fa fb fd ib mk im iq tT tE tG tR tN tS tQ tW tX))) A) ([.ref a0] : List Value).toArray s 0 0 A) (F0 m 9 ls []) := by
    intro n
    induction n with
    | zero => intro y sy d0 H locs ls hn; exact absurd hn (Nat.not_lt_zero _)
    | succ n ih_L_9 =>
      intro y sy d0 H locs ls hn hyh hsy hd0 hP hD hS hl
      refine lv_iload_n hx hb dX5_weight_9 rfl (lv_at hl 0 rfl) ?_
      refine lv_aload_n hx hb dX5_weight_10 rfl (lv_at hl 2 rfl) ?_
      refine va_get (D := (dC, dI)) (ci := 5) (v := .int (nI ih)) (C := RX5) (T := TX5) (N := 19) hx hb (dr_words hts d0) (in_X5_weight_X5) hown hK hP 0 rfl rfl 2 (by decide) (dr_words hts d0 (.fieldLink RX5 52 "PlateModesModel" "height" "I") (by decide +kernel)) (fun _ h9 => h9) rfl dX5_weight_11 ?_
      refine z_icmp_ge (a := y) (b := ih) (tgt := 55) hx hb (by omega) (by omega) dX5_weight_14 (by decide) (fun c1 => ?_) (fun c2 => ?_)
      · skip
        refine lv_dload_n hx hb dX5_weight_55 rfl (lv_at hl 1 rfl) ?_
        refine W.endD hd0 ?_
        exact W.dret (v := sy) hx hb hr (fun t ht hW => ⟨⟨sy, (), rfl, (hsy).trans (congrArg (fun z => zwt T (zv fd) z) (show y * iw = iw * ih from by rw [show y = ih by omega, Nat.mul_comm])), by rw [ht]; exact hP, va_K.moved hW.alike hK, hD⟩, hS.F ht⟩) hS.2.2 dX5_weight_56
      · skip
        refine lv_iconst (v := (nI 0)) hx hb dX5_weight_17 (by decide) ?_
        refine lv_istore (lv' := [(4, .int (nI 0)), (3, .int (nI y)), (1, .double sy), (0, .ref a0)]) hx hb dX5_weight_18 hl (by decide) rfl (fun ls hl => ?_)
        have L_20 : ∀ (n : Nat) (x : Nat) (sx : UInt64) (d0 : Drawn) (H : Heap) (locs : List Loc) (ls : Array Slot), iw - x < n → (x ≤ iw) → (zv sx = zwt T (zv fd) (y * iw + x)) → s.drawn.sameBut d0 lw_cs → va_P (dC, dI) vwCl (w5 a0 aT aE aG aR aN aS aQ aW aX cD cI (nI 0) iw ih fa fb fd ib mk im iq tT tE tG tR tN tS tQ tW tX) H → va_D A (w5 a0 aT aE aG aR aN aS aQ aW aX cD cI (nI 0) iw ih fa fb fd ib mk im iq tT tE tG tR tN tS tQ tW tX) → va_S A s.heap H locs → lv_has ls 5 [(4, .int (nI x)), (3, .int (nI y)), (1, .double sx), (0, .ref a0)] → W p l e (headSpec wsX5_weight ({ frames := 1, cells := 0, slots := 0, locals := 21 } : Room)).room (s.setDrawn d0) m ([.ref a0] : List Value).toArray below meth c H locs 0 0 (MQD lw_cs below (va_Qd (fun (r : UInt64) (_ : Unit) => zv r = zwt T (zv fd) (iw * ih)) (fun _ t => (va_P (dC, dI) vwCl (w5 a0 aT aE aG aR aN aS aQ aW aX cD cI (nI 0) iw ih fa fb fd ib mk im iq tT tE tG tR tN tS tQ tW tX) t.heap ∧ va_K (dC, dI) vwCl [(cD, .double), (cI, .int)] t ∧ va_D A (w5 a0 aT aE aG aR aN aS aQ aW aX cD cI (nI 0) iw ih fa fb fd ib mk im iq tT tE tG tR tN tS tQ tW tX))) A) ([.ref a0] : List Value).toArray s 0 0 A) (F0 m 20 ls []) := by
          intro n
          induction n with
          | zero => intro x sx d0 H locs ls hn; exact absurd hn (Nat.not_lt_zero _)
          | succ n ih_L_20 =>
            intro x sx d0 H locs ls hn hxw hsx hd0 hP hD hS hl
            refine lv_iload hx hb dX5_weight_20 (lv_at hl 0 rfl) ?_
            refine lv_aload_n hx hb dX5_weight_22 rfl (lv_at hl 3 rfl) ?_
            refine va_get (D := (dC, dI)) (ci := 5) (v := .int (nI iw)) (C := RX5) (T := TX5) (N := 19) hx hb (dr_words hts d0) (in_X5_weight_X5) hown hK hP 0 rfl rfl 1 (by decide) (dr_words hts d0 (.fieldLink RX5 48 "PlateModesModel" "width" "I") (by decide +kernel)) (fun _ h9 => h9) rfl dX5_weight_23 ?_
            refine z_icmp_ge (a := x) (b := iw) (tgt := 49) hx hb (by omega) (by omega) dX5_weight_26 (by decide) (fun c3 => ?_) (fun c4 => ?_)
            · skip
              refine lv_iinc (v := nI (y + 1)) (lv' := [(3, .int (nI (y + 1))), (4, .int (nI x)), (1, .double sx), (0, .ref a0)]) hx hb dX5_weight_49 hl (k := 1) rfl (show nI y + nI 1 = _ from zi_add (by omega)) (by decide) rfl (fun ls hl => ?_)
              refine lv_goto (tgt := 9) hx hb dX5_weight_52 (by decide) ?_
              exact ih_L_9 (y + 1) sx _ _ _ _ (by omega) (by omega) ((hsx).trans (congrArg (fun z => zwt T (zv fd) z) (show y * iw + x = (y + 1) * iw from by rw [← zrow_end]; omega))) hd0 hP hD hS (lv_sub hl [0, 2, 3] rfl)
            · skip
              refine lv_dload_n hx hb dX5_weight_29 rfl (lv_at hl 2 rfl) ?_
              refine lv_aload_n hx hb dX5_weight_30 rfl (lv_at hl 3 rfl) ?_
              refine lv_bipush (v := (nI 6)) hx hb dX5_weight_31 (by decide) ?_
              refine lv_iload_n hx hb dX5_weight_33 rfl (lv_at hl 1 rfl) ?_
              refine t_imul hx hb dX5_weight_34 (v := nI (6 * y)) (zi_mul rfl) ?_
              refine lv_iload hx hb dX5_weight_35 (lv_at hl 0 rfl) ?_
              refine t_iadd hx hb dX5_weight_37 (v := nI (6 * y + x)) (zi_add (by omega)) ?_
              have hPc := hP
              refine va_calldD hd0 (va_runV_D (As := [.int (nI (6 * y + x))]) (rest := [.double sx]) ⟨hx, hb, hml, hown, (dr_words hts d0)⟩ (c5_mass l dC dI a0 aT aE aG aR aN aS aQ aW aX cD cI (nI 0) iw ih fa fb fd ib mk im iq tT tE tG tR tN tS tQ tW tX (6 * y + x) (by omega)) (cwV 1 (dr_words hts d0) gX5_weight_X5_mass rfl rfl rfl (by decide +kernel) ⟨Nat.le_of_ble_eq_true rfl, Nat.le_of_ble_eq_true rfl⟩) ⟨zfb, va_recv hK hP (ci := 5) (q0 := 0) rfl rfl, zpre hPc hK⟩ rfl rfl hl.1 rfl (lv_room (Nat.le_of_ble_eq_true rfl)) dX5_weight_38 ⟨Nat.le_of_ble_eq_true rfl, Nat.le_of_ble_eq_true rfl⟩) hS (fun q _ h => h.elim) (fun q h => h.elim) (fun r5 u9 t9 H locs ht9 hvm9 hr5 hB9 hz9 hk1 hS dhd6 hd6 => ?_)
              have hP := zro1 hP hk1
              have hr5 : zv r5 = zM (T (y * iw + x)) (zv fd) := by rw [hr5, zgr_at gT x y (by omega) (by omega) (by omega)]
              refine zr_dadd hd6 hx hb (a := zwt T (zv fd) (y * iw + x)) (b := zM (T (y * iw + x)) (zv fd)) hsx hr5 dX5_weight_41 (fun r7 d8 hr7 hd8 => ?_)
              refine lv_dstore_n (lv' := [(1, .double r7), (4, .int (nI x)), (3, .int (nI y)), (0, .ref a0)]) hx hb dX5_weight_42 rfl hl (by decide) rfl (fun ls hl => ?_)
              refine lv_iinc (v := nI (x + 1)) (lv' := [(4, .int (nI (x + 1))), (1, .double r7), (3, .int (nI y)), (0, .ref a0)]) hx hb dX5_weight_43 hl (k := 1) rfl (show nI x + nI 1 = _ from zi_add (by omega)) (by decide) rfl (fun ls hl => ?_)
              refine lv_goto (tgt := 20) hx hb dX5_weight_46 (by decide) ?_
              exact ih_L_20 (x + 1) r7 _ _ _ _ (by omega) (by omega) hr7 hd8 hP hD hS (lv_sub hl [0, 2, 1, 3] rfl)
        exact L_20 _ 0 sy _ _ _ _ (Nat.lt_succ_self _) (by omega) hsy hd0 hP hD hS hl
  exact L_9 _ 0 FP.dconst0 _ _ _ _ (Nat.lt_succ_self _) (by omega) (by rw [Nat.zero_mul]; rfl) hd0 hP hD hS hl
theorem in_X5_mirrored_X5 : ∀ w ∈ wsX50, w ∈ wsX5_mirrored := fun w h => List.mem_cons_of_mem _ (List.mem_append_right _ h)
set_option maxHeartbeats 4000000 in
set_option maxRecDepth 100000 in
/-- mirrored -/
theorem c5_mirrored (l : Launch) (dC : Nat → ClassId) (dI : Nat → Nat → Nat) (a0 aT aE aG aR aN aS aQ aW aX : Nat) (cD cI : ClassId) (th : Int32) (iw ih : Nat) (fa fb fd : UInt64) (ib : Nat) (mk : Bool) (im iq : Nat) (tT : Nat → UInt64) (tE : Nat → Int32) (tG tR tN tS tQ : Nat → UInt64) (tW : Nat → Int32) (tX : Nat → UInt64) (hw6 : iw ≤ 6) (hh6 : ih ≤ 6) (T : Nat → ZD) (gT : zgr tT iw ih T) (ax : Bool) (sz : Nat) : Met l yX5_mirrored wsX5_mirrored ({ frames := 0, cells := 0, slots := 0, locals := 0 } : Room) (va_Pc [.ref a0, .int (zb ax)] (fun U => U.heap.size = sz ∧ va_P (dC, dI) vwCl (w5 a0 aT aE aG aR aN aS aQ aW aX cD cI th iw ih fa fb fd ib mk im iq tT tE tG tR tN tS tQ tW tX) U.heap ∧ va_K (dC, dI) vwCl [(cD, .double), (cI, .int)] U ∧ va_D (fun _ => True) (w5 a0 aT aE aG aR aN aS aQ aW aX cD cI th iw ih fa fb fd ib mk im iq tT tE tG tR tN tS tQ tW tX))) (va_Qi (fun (r : Int32) (_ : Unit) => r = zb (zmir iw ih T ax (iw * ih))) (fun _ t => (va_P (dC, dI) vwCl (w5 a0 aT aE aG aR aN aS aQ aW aX cD cI (nI 0) iw ih fa fb fd ib mk im iq tT tE tG tR tN tS tQ tW tX) t.heap ∧ va_K (dC, dI) vwCl [(cD, .double), (cI, .int)] t ∧ va_D (va_A (w5 a0 aT aE aG aR aN aS aQ aW aX cD cI th iw ih fa fb fd ib mk im iq tT tE tG tR tN tS tQ tW tX) sz) (w5 a0 aT aE aG aR aN aS aQ aW aX cD cI (nI 0) iw ih fa fb fd ib mk im iq tT tE tG tR tN tS tQ tW tX))) (va_A (w5 a0 aT aE aG aR aN aS aQ aW aX cD cI th iw ih fa fb fd ib mk im iq tT tE tG tR tN tS tQ tW tX) sz)) 0 0 (va_A (w5 a0 aT aE aG aR aN aS aQ aW aX cD cI th iw ih fa fb fd ib mk im iq tT tE tG tR tN tS tQ tW tX) sz) := by
  refine Met.ofW (cc := cX5_mirrored) (maxL := 6) (ret := (some .boolean)) (by decide) rfl ?_
  intro p e s m args below meth c s₁ B hml hv
  obtain ⟨rfl, hsz, hP, hK, hD0⟩ := hv
  have hx := B.exec
  have hb := B.bytes
  have hr := B.returns
  have hts := atoms_spec (ws := wsX5_mirrored) B.pre
  have hown : s.vm.findClass RX5 = some m.cls := findClass_of_methodNamed B.named
  have hlocks := B.notSynchronized
  subst hsz
  have hD := hD0.self (sz := s.heap.size)
  generalize hAe : va_A (w5 a0 aT aE aG aR aN aS aQ aW aX cD cI th iw ih fa fb fd ib mk im iq tT tE tG tR tN tS tQ tW tX) s.heap.size = A at hD ⊢
  have hA : ∀ q : Nat, s.heap.size ≤ q → A q := fun q h => by rw [← hAe]; exact Or.inr h
  have hS : va_S A s.heap s.heap [] := va_S.rf
  have hl := lv_entry ([.ref a0, .int (zb ax)]) (n := 6) (Nat.le_of_ble_eq_true rfl)
  rw [lg_entry_eq]
  generalize (lg_sl ([.ref a0, .int (zb ax)]) ++ List.replicate (6 - (lg_sl ([.ref a0, .int (zb ax)])).length) Slot.unset).toArray = ls at hl ⊢
  have hl : lv_has ls 6 [(0, .ref a0), (1, .int (zb ax))] := hl
  refine lv_aload_n hx hb dX5_mirrored_0 rfl (lv_at hl 0 rfl) ?_
  refine lv_iconst (v := (nI 0)) hx hb dX5_mirrored_1 (by decide) ?_
  refine va_put (D := (dC, dI)) (ci := 5) (v := .int (nI 0)) (ty := .int) (C := RX5) (T := TX5) (N := 19) hx hb hts (in_X5_mirrored_X5) tyX5 tyX5_ok nmX5 hown hK hP hD hS 0 rfl rfl 0 (by decide) (hts (.fieldLink RX5 55 "PlateModesModel" "thrown" "I") (by decide +kernel)) (fun _ h9 => h9) rfl (by decide +kernel) rfl rfl (Nat.le_of_ble_eq_true rfl) dX5_mirrored_2 (fun H locs hP hD hS => ?_)
  have hP : va_P (dC, dI) vwCl (w5 a0 aT aE aG aR aN aS aQ aW aX cD cI (nI 0) iw ih fa fb fd ib mk im iq tT tE tG tR tN tS tQ tW tX) H := hP
  have hD : va_D A (w5 a0 aT aE aG aR aN aS aQ aW aX cD cI (nI 0) iw ih fa fb fd ib mk im iq tT tE tG tR tN tS tQ tW tX) := hD
  refine lv_iconst (v := (nI 1)) hx hb dX5_mirrored_5 (by decide) ?_
  refine lv_istore_n (lv' := [(2, .int (nI 1)), (0, .ref a0), (1, .int (zb ax))]) hx hb dX5_mirrored_6 rfl hl (by decide) rfl (fun ls hl => ?_)
  refine lv_iconst (v := (nI 0)) hx hb dX5_mirrored_7 (by decide) ?_
  refine lv_istore_n (lv' := [(3, .int (nI 0)), (2, .int (nI 1)), (0, .ref a0), (1, .int (zb ax))]) hx hb dX5_mirrored_8 rfl hl (by decide) rfl (fun ls hl => ?_)
  have L_9 : ∀ (n : Nat) (y : Nat) (bs : Bool) (H : Heap) (locs : List Loc) (ls : Array Slot), ih - y < n → (y ≤ ih) → (bs = zmir iw ih T ax (y * iw)) → va_P (dC, dI) vwCl (w5 a0 aT aE aG aR aN aS aQ aW aX cD cI (nI 0) iw ih fa fb fd ib mk im iq tT tE tG tR tN tS tQ tW tX) H → va_D A (w5 a0 aT aE aG aR aN aS aQ aW aX cD cI (nI 0) iw ih fa fb fd ib mk im iq tT tE tG tR tN tS tQ tW tX) → va_S A s.heap H locs → lv_has ls 6 [(3, .int (nI y)), (2, .int (zb bs)), (0, .ref a0), (1, .int (zb ax))] → W p l e (headSpec wsX5_mirrored ({ frames := 0, cells := 0, slots := 0, locals := 0 } : Room)).room s m ([.ref a0, .int (zb ax)] : List Value).toArray below meth c H locs 0 0 (MQ below (va_Qi (fun (r : Int32) (_ : Unit) => r = zb (zmir iw ih T ax (iw * ih))) (fun _ t => (va_P (dC, dI) vwCl (w5 a0 aT aE aG aR aN aS aQ aW aX cD cI (nI 0) iw ih fa fb fd ib mk im iq tT tE tG tR tN tS tQ tW tX) t.heap ∧ va_K (dC, dI) vwCl [(cD, .double), (cI, .int)] t ∧ va_D A (w5 a0 aT aE aG aR aN aS aQ aW aX cD cI (nI 0) iw ih fa fb fd ib mk im iq tT tE tG tR tN tS tQ tW tX))) A) ([.ref a0, .int (zb ax)] : List Value).toArray s 0 0 A) (F0 m 9 ls []) := by
    intro n
    induction n with
    | zero => intro y bs H locs ls hn; exact absurd hn (Nat.not_lt_zero _)
    | succ n ih_L_9 =>
      intro y bs H locs ls hn hyh hbs hP hD hS hl
      refine lv_iload_n hx hb dX5_mirrored_9 rfl (lv_at hl 0 rfl) ?_
      refine lv_aload_n hx hb dX5_mirrored_10 rfl (lv_at hl 2 rfl) ?_
      refine va_get (D := (dC, dI)) (ci := 5) (v := .int (nI ih)) (C := RX5) (T := TX5) (N := 19) hx hb hts (in_X5_mirrored_X5) hown hK hP 0 rfl rfl 2 (by decide) (hts (.fieldLink RX5 52 "PlateModesModel" "height" "I") (by decide +kernel)) (fun _ h9 => h9) rfl dX5_mirrored_11 ?_
      refine z_icmp_ge (a := y) (b := ih) (tgt := 111) hx hb (by omega) (by omega) dX5_mirrored_14 (by decide) (fun c1 => ?_) (fun c2 => ?_)
      · skip
        refine lv_iload_n hx hb dX5_mirrored_111 rfl (lv_at hl 1 rfl) ?_
        exact W.zret (v := (zb bs)) hx hb hr (zb_nar _) (fun t ht hW => ⟨⟨(zb bs), (), rfl, congrArg zb (hbs.trans (congrArg (zmir iw ih T ax) (show y * iw = iw * ih from by rw [show y = ih by omega, Nat.mul_comm]))), by rw [ht]; exact hP, va_K.moved hW.alike hK, hD⟩, hS.F ht⟩) hS.2.2 dX5_mirrored_112
      · skip
        refine lv_iconst (v := (nI 0)) hx hb dX5_mirrored_17 (by decide) ?_
        refine lv_istore (lv' := [(4, .int (nI 0)), (3, .int (nI y)), (2, .int (zb bs)), (0, .ref a0), (1, .int (zb ax))]) hx hb dX5_mirrored_18 hl (by decide) rfl (fun ls hl => ?_)
        have L_20 : ∀ (n : Nat) (x : Nat) (bx : Bool) (H : Heap) (locs : List Loc) (ls : Array Slot), iw - x < n → (x ≤ iw) → (bx = zmir iw ih T ax (y * iw + x)) → va_P (dC, dI) vwCl (w5 a0 aT aE aG aR aN aS aQ aW aX cD cI (nI 0) iw ih fa fb fd ib mk im iq tT tE tG tR tN tS tQ tW tX) H → va_D A (w5 a0 aT aE aG aR aN aS aQ aW aX cD cI (nI 0) iw ih fa fb fd ib mk im iq tT tE tG tR tN tS tQ tW tX) → va_S A s.heap H locs → lv_has ls 6 [(4, .int (nI x)), (3, .int (nI y)), (2, .int (zb bx)), (0, .ref a0), (1, .int (zb ax))] → W p l e (headSpec wsX5_mirrored ({ frames := 0, cells := 0, slots := 0, locals := 0 } : Room)).room s m ([.ref a0, .int (zb ax)] : List Value).toArray below meth c H locs 0 0 (MQ below (va_Qi (fun (r : Int32) (_ : Unit) => r = zb (zmir iw ih T ax (iw * ih))) (fun _ t => (va_P (dC, dI) vwCl (w5 a0 aT aE aG aR aN aS aQ aW aX cD cI (nI 0) iw ih fa fb fd ib mk im iq tT tE tG tR tN tS tQ tW tX) t.heap ∧ va_K (dC, dI) vwCl [(cD, .double), (cI, .int)] t ∧ va_D A (w5 a0 aT aE aG aR aN aS aQ aW aX cD cI (nI 0) iw ih fa fb fd ib mk im iq tT tE tG tR tN tS tQ tW tX))) A) ([.ref a0, .int (zb ax)] : List Value).toArray s 0 0 A) (F0 m 20 ls []) := by
          intro n
          induction n with
          | zero => intro x bx H locs ls hn; exact absurd hn (Nat.not_lt_zero _)
          | succ n ih_L_20 =>
            intro x bx H locs ls hn hxw hbx hP hD hS hl
            refine lv_iload hx hb dX5_mirrored_20 (lv_at hl 0 rfl) ?_
            refine lv_aload_n hx hb dX5_mirrored_22 rfl (lv_at hl 3 rfl) ?_
            refine va_get (D := (dC, dI)) (ci := 5) (v := .int (nI iw)) (C := RX5) (T := TX5) (N := 19) hx hb hts (in_X5_mirrored_X5) hown hK hP 0 rfl rfl 1 (by decide) (hts (.fieldLink RX5 48 "PlateModesModel" "width" "I") (by decide +kernel)) (fun _ h9 => h9) rfl dX5_mirrored_23 ?_
            refine z_icmp_ge (a := x) (b := iw) (tgt := 105) hx hb (by omega) (by omega) dX5_mirrored_26 (by decide) (fun c3 => ?_) (fun c4 => ?_)
            · skip
              refine lv_iinc (v := nI (y + 1)) (lv' := [(3, .int (nI (y + 1))), (4, .int (nI x)), (2, .int (zb bx)), (0, .ref a0), (1, .int (zb ax))]) hx hb dX5_mirrored_105 hl (k := 1) rfl (show nI y + nI 1 = _ from zi_add (by omega)) (by decide) rfl (fun ls hl => ?_)
              refine lv_goto (tgt := 9) hx hb dX5_mirrored_108 (by decide) ?_
              exact ih_L_9 (y + 1) bx _ _ _ (by omega) (by omega) (hbx.trans (congrArg (zmir iw ih T ax) (show y * iw + x = (y + 1) * iw from by rw [← zrow_end]; omega))) hP hD hS (lv_sub hl [0, 2, 3, 4] rfl)
            · skip
              have J_64 : ∀ (on : Nat) (H : Heap) (locs : List Loc) (ls : Array Slot), (on < 36) → (zv (tT on) = T (zmirI iw ih ax x y)) → va_P (dC, dI) vwCl (w5 a0 aT aE aG aR aN aS aQ aW aX cD cI (nI 0) iw ih fa fb fd ib mk im iq tT tE tG tR tN tS tQ tW tX) H → va_D A (w5 a0 aT aE aG aR aN aS aQ aW aX cD cI (nI 0) iw ih fa fb fd ib mk im iq tT tE tG tR tN tS tQ tW tX) → va_S A s.heap H locs → lv_has ls 6 [(4, .int (nI x)), (3, .int (nI y)), (2, .int (zb bx)), (0, .ref a0), (1, .int (zb ax))] → W p l e (headSpec wsX5_mirrored ({ frames := 0, cells := 0, slots := 0, locals := 0 } : Room)).room s m ([.ref a0, .int (zb ax)] : List Value).toArray below meth c H locs 0 0 (MQ below (va_Qi (fun (r : Int32) (_ : Unit) => r = zb (zmir iw ih T ax (iw * ih))) (fun _ t => (va_P (dC, dI) vwCl (w5 a0 aT aE aG aR aN aS aQ aW aX cD cI (nI 0) iw ih fa fb fd ib mk im iq tT tE tG tR tN tS tQ tW tX) t.heap ∧ va_K (dC, dI) vwCl [(cD, .double), (cI, .int)] t ∧ va_D A (w5 a0 aT aE aG aR aN aS aQ aW aX cD cI (nI 0) iw ih fa fb fd ib mk im iq tT tE tG tR tN tS tQ tW tX))) A) ([.ref a0, .int (zb ax)] : List Value).toArray s 0 0 A) (F0 m 64 ls [.int (nI on)]) := by
                intro on H locs ls hon hto hP hD hS hl
                refine lv_istore (lv' := [(5, .int (nI on)), (4, .int (nI x)), (3, .int (nI y)), (2, .int (zb bx)), (0, .ref a0), (1, .int (zb ax))]) hx hb dX5_mirrored_64 hl (by decide) rfl (fun ls hl => ?_)
                refine lv_iload_n hx hb dX5_mirrored_66 rfl (lv_at hl 3 rfl) ?_
                refine z_if_eq_b (tgt := 97) hx hb dX5_mirrored_67 (by decide) (fun c5 => ?_) (fun c6 => ?_)
                · skip
                  have c_67 := c5
                  refine lv_iconst (v := (nI 0)) hx hb dX5_mirrored_97 (by decide) ?_
                  refine lv_istore_n (lv' := [(2, .int (nI 0)), (5, .int (nI on)), (4, .int (nI x)), (3, .int (nI y)), (0, .ref a0), (1, .int (zb ax))]) hx hb dX5_mirrored_98 rfl hl (by decide) rfl (fun ls hl => ?_)
                  refine lv_iinc (v := nI (x + 1)) (lv' := [(4, .int (nI (x + 1))), (2, .int (nI 0)), (5, .int (nI on)), (3, .int (nI y)), (0, .ref a0), (1, .int (zb ax))]) hx hb dX5_mirrored_99 hl (k := 2) rfl (show nI x + nI 1 = _ from zi_add (by omega)) (by decide) rfl (fun ls hl => ?_)
                  refine lv_goto (tgt := 20) hx hb dX5_mirrored_102 (by decide) ?_
                  exact ih_L_20 (x + 1) false _ _ _ (by omega) (by omega) (by rw [show y * iw + (x + 1) = y * iw + x + 1 from rfl, zmir_s (by omega), ← hbx]; first | (rw [c_67]; rfl) | (rw [c_67, c_89]; rfl)) hP hD hS (lv_sub hl [0, 3, 1, 4, 5] rfl)
                · skip
                  have c_67 := c6
                  refine lv_aload_n hx hb dX5_mirrored_70 rfl (lv_at hl 4 rfl) ?_
                  refine va_get (D := (dC, dI)) (ci := 5) (v := .ref aT) (C := RX5) (T := TX5) (N := 19) hx hb hts (in_X5_mirrored_X5) hown hK hP 0 rfl rfl 3 (by decide) (hts (.fieldLink RX5 7 "PlateModesModel" "thicks" "[D") (by decide +kernel)) (fun _ h9 => h9) rfl dX5_mirrored_71 ?_
                  refine lv_bipush (v := (nI 6)) hx hb dX5_mirrored_74 (by decide) ?_
                  refine lv_iload_n hx hb dX5_mirrored_76 rfl (lv_at hl 2 rfl) ?_
                  refine t_imul hx hb dX5_mirrored_77 (v := nI (6 * y)) (zi_mul rfl) ?_
                  refine lv_iload hx hb dX5_mirrored_78 (lv_at hl 1 rfl) ?_
                  refine t_iadd hx hb dX5_mirrored_80 (v := nI (6 * y + x)) (zi_add (by omega)) ?_
                  refine z_dald (n := 36) (i := 6 * y + x) hx hb hK hP 1 0 rfl rfl (by omega) (by decide) dX5_mirrored_81 ?_
                  refine lv_aload_n hx hb dX5_mirrored_82 rfl (lv_at hl 4 rfl) ?_
                  refine va_get (D := (dC, dI)) (ci := 5) (v := .ref aT) (C := RX5) (T := TX5) (N := 19) hx hb hts (in_X5_mirrored_X5) hown hK hP 0 rfl rfl 3 (by decide) (hts (.fieldLink RX5 7 "PlateModesModel" "thicks" "[D") (by decide +kernel)) (fun _ h9 => h9) rfl dX5_mirrored_83 ?_
                  refine lv_iload hx hb dX5_mirrored_86 (lv_at hl 0 rfl) ?_
                  refine z_dald (n := 36) (i := on) hx hb hK hP 1 0 rfl rfl (by omega) (by decide) dX5_mirrored_88 ?_
                  refine z_cmp_l_ne (tgt := 97) hx hb (a := T (y * iw + x)) (b := T (zmirI iw ih ax x y)) (zgr_at gT x y (by omega) (by omega) (by omega)) hto dX5_mirrored_89 dX5_mirrored_90 (by decide) (fun c7 => ?_) (fun c8 => ?_)
                  · skip
                    have c_89 := c7
                    refine lv_iconst (v := (nI 0)) hx hb dX5_mirrored_97 (by decide) ?_
                    refine lv_istore_n (lv' := [(2, .int (nI 0)), (5, .int (nI on)), (4, .int (nI x)), (3, .int (nI y)), (0, .ref a0), (1, .int (zb ax))]) hx hb dX5_mirrored_98 rfl hl (by decide) rfl (fun ls hl => ?_)
                    refine lv_iinc (v := nI (x + 1)) (lv' := [(4, .int (nI (x + 1))), (2, .int (nI 0)), (5, .int (nI on)), (3, .int (nI y)), (0, .ref a0), (1, .int (zb ax))]) hx hb dX5_mirrored_99 hl (k := 2) rfl (show nI x + nI 1 = _ from zi_add (by omega)) (by decide) rfl (fun ls hl => ?_)
                    refine lv_goto (tgt := 20) hx hb dX5_mirrored_102 (by decide) ?_
                    exact ih_L_20 (x + 1) false _ _ _ (by omega) (by omega) (by rw [show y * iw + (x + 1) = y * iw + x + 1 from rfl, zmir_s (by omega), ← hbx]; first | (rw [c_67]; rfl) | (rw [c_67, c_89]; rfl)) hP hD hS (lv_sub hl [0, 3, 1, 4, 5] rfl)
                  · skip
                    have c_89 := c8
                    refine lv_iconst (v := (nI 1)) hx hb dX5_mirrored_93 (by decide) ?_
                    refine lv_goto (tgt := 98) hx hb dX5_mirrored_94 (by decide) ?_
                    refine lv_istore_n (lv' := [(2, .int (nI 1)), (5, .int (nI on)), (4, .int (nI x)), (3, .int (nI y)), (0, .ref a0), (1, .int (zb ax))]) hx hb dX5_mirrored_98 rfl hl (by decide) rfl (fun ls hl => ?_)
                    refine lv_iinc (v := nI (x + 1)) (lv' := [(4, .int (nI (x + 1))), (2, .int (nI 1)), (5, .int (nI on)), (3, .int (nI y)), (0, .ref a0), (1, .int (zb ax))]) hx hb dX5_mirrored_99 hl (k := 2) rfl (show nI x + nI 1 = _ from zi_add (by omega)) (by decide) rfl (fun ls hl => ?_)
                    refine lv_goto (tgt := 20) hx hb dX5_mirrored_102 (by decide) ?_
                    exact ih_L_20 (x + 1) true _ _ _ (by omega) (by omega) (by rw [show y * iw + (x + 1) = y * iw + x + 1 from rfl, zmir_s (by omega), ← hbx, c_67, c_89]; rfl) hP hD hS (lv_sub hl [0, 3, 1, 4, 5] rfl)
              refine lv_iload_n hx hb dX5_mirrored_29 rfl (lv_at hl 4 rfl) ?_
              refine z_if_eq_b (tgt := 50) hx hb dX5_mirrored_30 (by decide) (fun c9 => ?_) (fun c10 => ?_)
              · skip
                have c_30 := c9
                refine lv_bipush (v := (nI 6)) hx hb dX5_mirrored_50 (by decide) ?_
                refine lv_aload_n hx hb dX5_mirrored_52 rfl (lv_at hl 3 rfl) ?_
                refine va_get (D := (dC, dI)) (ci := 5) (v := .int (nI ih)) (C := RX5) (T := TX5) (N := 19) hx hb hts (in_X5_mirrored_X5) hown hK hP 0 rfl rfl 2 (by decide) (hts (.fieldLink RX5 52 "PlateModesModel" "height" "I") (by decide +kernel)) (fun _ h9 => h9) rfl dX5_mirrored_53 ?_
                refine lv_iconst (v := (nI 1)) hx hb dX5_mirrored_56 (by decide) ?_
                refine t_isub hx hb dX5_mirrored_57 (v := nI (ih - 1)) (zi_sub (by omega) (by omega)) ?_
                refine lv_iload_n hx hb dX5_mirrored_58 rfl (lv_at hl 1 rfl) ?_
                refine t_isub hx hb dX5_mirrored_59 (v := nI (ih - y - 1)) (zi_sub (by omega) (by omega)) ?_
                refine t_imul hx hb dX5_mirrored_60 (v := nI (6 * ih - 6 * y - 6)) (zi_mul (by omega)) ?_
                refine lv_iload hx hb dX5_mirrored_61 (lv_at hl 0 rfl) ?_
                refine t_iadd hx hb dX5_mirrored_63 (v := nI (6 * ih + x - 6 * y - 6)) (zi_add (by omega)) ?_
                exact J_64 (6 * ih + x - 6 * y - 6) _ _ _ (by omega) ((zgr_at gT x (ih - y - 1) (by omega) (by omega) (by omega)).trans (congrArg T (show (ih - y - 1) * iw + x = zmirI iw ih ax x y from (by unfold zmirI; rw [c_30]; rfl)))) hP hD hS hl
              · skip
                have c_30 := c10
                refine lv_bipush (v := (nI 6)) hx hb dX5_mirrored_33 (by decide) ?_
                refine lv_iload_n hx hb dX5_mirrored_35 rfl (lv_at hl 1 rfl) ?_
                refine t_imul hx hb dX5_mirrored_36 (v := nI (6 * y)) (zi_mul rfl) ?_
                refine lv_aload_n hx hb dX5_mirrored_37 rfl (lv_at hl 3 rfl) ?_
                refine va_get (D := (dC, dI)) (ci := 5) (v := .int (nI iw)) (C := RX5) (T := TX5) (N := 19) hx hb hts (in_X5_mirrored_X5) hown hK hP 0 rfl rfl 1 (by decide) (hts (.fieldLink RX5 48 "PlateModesModel" "width" "I") (by decide +kernel)) (fun _ h9 => h9) rfl dX5_mirrored_38 ?_
                refine t_iadd hx hb dX5_mirrored_41 (v := nI (6 * y + iw)) (zi_add (by omega)) ?_
                refine lv_iconst (v := (nI 1)) hx hb dX5_mirrored_42 (by decide) ?_
                refine t_isub hx hb dX5_mirrored_43 (v := nI (6 * y + iw - 1)) (zi_sub (by omega) (by omega)) ?_
                refine lv_iload hx hb dX5_mirrored_44 (lv_at hl 0 rfl) ?_
                refine t_isub hx hb dX5_mirrored_46 (v := nI (6 * y + iw - x - 1)) (zi_sub (by omega) (by omega)) ?_
                refine lv_goto (tgt := 64) hx hb dX5_mirrored_47 (by decide) ?_
                exact J_64 (6 * y + iw - x - 1) _ _ _ (by omega) ((zgr_at gT (iw - x - 1) y (by omega) (by omega) (by omega)).trans (congrArg T (show y * iw + (iw - x - 1) = zmirI iw ih ax x y from (by unfold zmirI; rw [c_30]; rfl)))) hP hD hS hl
        exact L_20 _ 0 bs _ _ _ (Nat.lt_succ_self _) (by omega) hbs hP hD hS hl
  exact L_9 _ 0 true _ _ _ (Nat.lt_succ_self _) (by omega) (by rw [Nat.zero_mul]; rfl) hP hD hS hl
theorem in_X5_sum_X5 : ∀ w ∈ wsX50, w ∈ wsX5_sum := fun w h => List.mem_cons_of_mem _ (List.mem_append_right _ h)
set_option maxHeartbeats 4000000 in
set_option maxRecDepth 100000 in
/-- sum -/
theorem c5_sum (l : Launch) (dC : Nat → ClassId) (dI : Nat → Nat → Nat) (a0 aT aE aG aR aN aS aQ aW aX : Nat) (cD cI : ClassId) (th : Int32) (iw ih : Nat) (fa fb fd : UInt64) (ib : Nat) (mk : Bool) (im iq : Nat) (tT : Nat → UInt64) (tE : Nat → Int32) (tG tR tN tS tQ : Nat → UInt64) (tW : Nat → Int32) (tX : Nat → UInt64) (T RX NX : Nat → ZD) (gT : zgr tT iw ih T) (hw6 : iw ≤ 6) (hh6 : ih ≤ 6) (hq : q5m iw ih mk im tR tN tS tQ T RX NX (zv fd)) (wn : Nat → Nat) (hq4 : iq ≤ 4) (gW : ∀ i, i < iq → tW i = nI (wn i)) (gw4 : ∀ i, i < iq → wn i < 4) (ws : Nat → ZD) (gX : ∀ i, i < iq → zv (tX i) = ws i) (sz : Nat) : MetD lw_cs l yX5_sum wsX5_sum ({ frames := 1, cells := 0, slots := 0, locals := 25 } : Room) (va_Pc [.ref a0] (fun U => U.heap.size = sz ∧ va_P (dC, dI) vwCl (w5 a0 aT aE aG aR aN aS aQ aW aX cD cI th iw ih fa fb fd ib mk im iq tT tE tG tR tN tS tQ tW tX) U.heap ∧ va_K (dC, dI) vwCl [(cD, .double), (cI, .int)] U ∧ va_D (fun _ => True) (w5 a0 aT aE aG aR aN aS aQ aW aX cD cI th iw ih fa fb fd ib mk im iq tT tE tG tR tN tS tQ tW tX))) (va_Qd (fun (r : UInt64) (u : Int32) => u = nI (zcS iq (zmks mk im) (zneed wn iq)) ∧ (zcS iq (zmks mk im) (zneed wn iq) = 0 → zv r = ztot (fun i => zSQ iw ih T RX NX (zv fd) (wn i)) ws iq)) (fun u t => (va_P (dC, dI) vwCl (w5 a0 aT aE aG aR aN aS aQ aW aX cD cI u iw ih fa fb fd ib mk im iq tT tE tG tR tN tS tQ tW tX) t.heap ∧ va_K (dC, dI) vwCl [(cD, .double), (cI, .int)] t ∧ va_D (va_A (w5 a0 aT aE aG aR aN aS aQ aW aX cD cI th iw ih fa fb fd ib mk im iq tT tE tG tR tN tS tQ tW tX) sz) (w5 a0 aT aE aG aR aN aS aQ aW aX cD cI u iw ih fa fb fd ib mk im iq tT tE tG tR tN tS tQ tW tX))) (va_A (w5 a0 aT aE aG aR aN aS aQ aW aX cD cI th iw ih fa fb fd ib mk im iq tT tE tG tR tN tS tQ tW tX) sz)) 0 0 (va_A (w5 a0 aT aE aG aR aN aS aQ aW aX cD cI th iw ih fa fb fd ib mk im iq tT tE tG tR tN tS tQ tW tX) sz) := by
  refine MetD.ofW (cc := cX5_sum) (maxL := 1) (ret := (some .double)) (by decide) rfl ?_
  intro p e s m args below meth c s₁ B hml hv hd0
  obtain ⟨rfl, hsz, hP, hK, hD0⟩ := hv
  have hx := B.exec
  have hb := B.bytes
  have hr := B.returns
  have hts := atoms_spec (ws := wsX5_sum) B.pre
  have hown : s.vm.findClass RX5 = some m.cls := findClass_of_methodNamed B.named
  have hlocks := B.notSynchronized
  subst hsz
  have hD := hD0.self (sz := s.heap.size)
  generalize hAe : va_A (w5 a0 aT aE aG aR aN aS aQ aW aX cD cI th iw ih fa fb fd ib mk im iq tT tE tG tR tN tS tQ tW tX) s.heap.size = A at hD ⊢
  have hA : ∀ q : Nat, s.heap.size ≤ q → A q := fun q h => by rw [← hAe]; exact Or.inr h
  have hS : va_S A s.heap s.heap [] := va_S.rf
  have hl := lv_entry ([.ref a0]) (n := 1) (Nat.le_of_ble_eq_true rfl)
  rw [lg_entry_eq]
  generalize (lg_sl ([.ref a0]) ++ List.replicate (1 - (lg_sl ([.ref a0])).length) Slot.unset).toArray = ls at hl ⊢
  have hl : lv_has ls 1 [(0, .ref a0)] := hl
  refine lv_aload_n hx hb dX5_sum_0 rfl (lv_at hl 0 rfl) ?_
  refine lv_aload_n hx hb dX5_sum_1 rfl (lv_at hl 0 rfl) ?_
  refine va_get (D := (dC, dI)) (ci := 5) (v := .int (nI iq)) (C := RX5) (T := TX5) (N := 19) hx hb (dr_words hts s.drawn) (in_X5_sum_X5) hown hK hP 0 rfl rfl 16 (by decide) (dr_words hts s.drawn (.fieldLink RX5 143 "PlateModesModel" "wants" "I") (by decide +kernel)) (fun _ h9 => h9) rfl dX5_sum_2 ?_
  refine z_if_le (tgt := 30) hx hb (by omega) dX5_sum_5 (by decide) (fun c1 => ?_) (fun c2 => ?_)
  · skip
    have c_5 := c1
    refine lv_iconst (v := (nI 1)) hx hb dX5_sum_30 (by decide) ?_
    refine va_put (D := (dC, dI)) (ci := 5) (v := .int (nI 1)) (ty := .int) (C := RX5) (T := TX5) (N := 19) hx hb (dr_words hts s.drawn) (in_X5_sum_X5) tyX5 tyX5_ok nmX5 hown hK hP hD hS 0 rfl rfl 0 (by decide) (dr_words hts s.drawn (.fieldLink RX5 55 "PlateModesModel" "thrown" "I") (by decide +kernel)) (fun _ h9 => h9) rfl (by decide +kernel) rfl rfl (Nat.le_of_ble_eq_true rfl) dX5_sum_31 (fun H locs hP hD hS => ?_)
    have hP : va_P (dC, dI) vwCl (w5 a0 aT aE aG aR aN aS aQ aW aX cD cI (nI 1) iw ih fa fb fd ib mk im iq tT tE tG tR tN tS tQ tW tX) H := hP
    have hD : va_D A (w5 a0 aT aE aG aR aN aS aQ aW aX cD cI (nI 1) iw ih fa fb fd ib mk im iq tT tE tG tR tN tS tQ tW tX) := hD
    refine lv_aload_n hx hb dX5_sum_34 rfl (lv_at hl 0 rfl) ?_
    refine va_get (D := (dC, dI)) (ci := 5) (v := .int (nI 1)) (C := RX5) (T := TX5) (N := 19) hx hb (dr_words hts s.drawn) (in_X5_sum_X5) hown hK hP 0 rfl rfl 0 (by decide) (dr_words hts s.drawn (.fieldLink RX5 55 "PlateModesModel" "thrown" "I") (by decide +kernel)) (fun _ h9 => h9) rfl dX5_sum_35 ?_
    refine z_if_le (tgt := 45) hx hb (by omega) dX5_sum_38 (by decide) (fun c3 => ?_) (fun c4 => ?_)
    · skip
      exact absurd c3 (by decide)
    · skip
      refine lv_dconst0 hx hb dX5_sum_41 ?_
      refine lv_goto (tgt := 49) hx hb dX5_sum_42 (by decide) ?_
      refine W.endD hd0 ?_
      exact W.dret (v := FP.dconst0) hx hb hr (fun t ht hW => ⟨⟨FP.dconst0, (nI 1), rfl, ⟨congrArg nI (if_neg (fun hh => by obtain ⟨h1, h2⟩ := hh; first | omega | (rw [c_12, zmks_f] at h2; have := zneed_pos (f := wn) h1; omega) | (rw [c_12, zmks_t] at h2; omega))).symm, fun h => absurd ((if_neg (fun hh => by obtain ⟨h1, h2⟩ := hh; first | omega | (rw [c_12, zmks_f] at h2; have := zneed_pos (f := wn) h1; omega) | (rw [c_12, zmks_t] at h2; omega))).symm.trans h) (by decide)⟩, by rw [ht]; exact hP, va_K.moved hW.alike hK, hD⟩, hS.F ht⟩) hS.2.2 dX5_sum_49
  · skip
    have c_5 := c2
    have h4 := hq.1
    refine lv_aload_n hx hb dX5_sum_8 rfl (lv_at hl 0 rfl) ?_
    refine va_get (D := (dC, dI)) (ci := 5) (v := .int (zb mk)) (C := RX5) (T := TX5) (N := 19) hx hb (dr_words hts s.drawn) (in_X5_sum_X5) hown hK hP 0 rfl rfl 12 (by decide) (dr_words hts s.drawn (.fieldLink RX5 72 "PlateModesModel" "made" "Z") (by decide +kernel)) (fun _ h9 => h9) rfl dX5_sum_9 ?_
    refine z_if_eq_b (tgt := 30) hx hb dX5_sum_12 (by decide) (fun c5 => ?_) (fun c6 => ?_)
    · skip
      have c_12 := c5
      refine lv_iconst (v := (nI 1)) hx hb dX5_sum_30 (by decide) ?_
      refine va_put (D := (dC, dI)) (ci := 5) (v := .int (nI 1)) (ty := .int) (C := RX5) (T := TX5) (N := 19) hx hb (dr_words hts s.drawn) (in_X5_sum_X5) tyX5 tyX5_ok nmX5 hown hK hP hD hS 0 rfl rfl 0 (by decide) (dr_words hts s.drawn (.fieldLink RX5 55 "PlateModesModel" "thrown" "I") (by decide +kernel)) (fun _ h9 => h9) rfl (by decide +kernel) rfl rfl (Nat.le_of_ble_eq_true rfl) dX5_sum_31 (fun H locs hP hD hS => ?_)
      have hP : va_P (dC, dI) vwCl (w5 a0 aT aE aG aR aN aS aQ aW aX cD cI (nI 1) iw ih fa fb fd ib mk im iq tT tE tG tR tN tS tQ tW tX) H := hP
      have hD : va_D A (w5 a0 aT aE aG aR aN aS aQ aW aX cD cI (nI 1) iw ih fa fb fd ib mk im iq tT tE tG tR tN tS tQ tW tX) := hD
      refine lv_aload_n hx hb dX5_sum_34 rfl (lv_at hl 0 rfl) ?_
      refine va_get (D := (dC, dI)) (ci := 5) (v := .int (nI 1)) (C := RX5) (T := TX5) (N := 19) hx hb (dr_words hts s.drawn) (in_X5_sum_X5) hown hK hP 0 rfl rfl 0 (by decide) (dr_words hts s.drawn (.fieldLink RX5 55 "PlateModesModel" "thrown" "I") (by decide +kernel)) (fun _ h9 => h9) rfl dX5_sum_35 ?_
      refine z_if_le (tgt := 45) hx hb (by omega) dX5_sum_38 (by decide) (fun c7 => ?_) (fun c8 => ?_)
      · skip
        exact absurd c7 (by decide)
      · skip
        refine lv_dconst0 hx hb dX5_sum_41 ?_
        refine lv_goto (tgt := 49) hx hb dX5_sum_42 (by decide) ?_
        refine W.endD hd0 ?_
        exact W.dret (v := FP.dconst0) hx hb hr (fun t ht hW => ⟨⟨FP.dconst0, (nI 1), rfl, ⟨congrArg nI (if_neg (fun hh => by obtain ⟨h1, h2⟩ := hh; first | omega | (rw [c_12, zmks_f] at h2; have := zneed_pos (f := wn) h1; omega) | (rw [c_12, zmks_t] at h2; omega))).symm, fun h => absurd ((if_neg (fun hh => by obtain ⟨h1, h2⟩ := hh; first | omega | (rw [c_12, zmks_f] at h2; have := zneed_pos (f := wn) h1; omega) | (rw [c_12, zmks_t] at h2; omega))).symm.trans h) (by decide)⟩, by rw [ht]; exact hP, va_K.moved hW.alike hK, hD⟩, hS.F ht⟩) hS.2.2 dX5_sum_49
    · skip
      have c_12 := c6
      refine lv_aload_n hx hb dX5_sum_15 rfl (lv_at hl 0 rfl) ?_
      refine va_get (D := (dC, dI)) (ci := 5) (v := .int (nI im)) (C := RX5) (T := TX5) (N := 19) hx hb (dr_words hts s.drawn) (in_X5_sum_X5) hown hK hP 0 rfl rfl 13 (by decide) (dr_words hts s.drawn (.fieldLink RX5 116 "PlateModesModel" "many" "I") (by decide +kernel)) (fun _ h9 => h9) rfl dX5_sum_16 ?_
      refine lv_aload_n hx hb dX5_sum_19 rfl (lv_at hl 0 rfl) ?_
      have hPc := hP
      refine va_calli (va_runV (As := []) (rest := [.int (nI im), .ref a0]) ⟨hx, hb, hml, hown, (dr_words hts s.drawn)⟩ (c5_needed l dC dI a0 aT aE aG aR aN aS aQ aW aX cD cI th iw ih fa fb fd ib mk im iq tT tE tG tR tN tS tQ tW tX wn hq4 gW gw4) (cwV 0 (dr_words hts s.drawn) gX5_sum_X5_needed rfl rfl rfl (by decide +kernel) ⟨Nat.le_of_ble_eq_true rfl, Nat.le_of_ble_eq_true rfl⟩) ⟨zfb, va_recv hK hP (ci := 5) (q0 := 0) rfl rfl, zpre hPc hK⟩ rfl rfl hl.1 rfl (lv_room (Nat.le_of_ble_eq_true rfl)) dX5_sum_20 ⟨Nat.le_of_ble_eq_true rfl, Nat.le_of_ble_eq_true rfl⟩) hS (fun q _ h => h.elim) (fun q h => h.elim) (fun r9 u9 t9 H locs ht9 hvm9 hr9 hB9 hz9 hk1 hS => ?_)
      have hP := zro1 hP hk1
      subst hr9
      have hnd4 := zneed_le gw4 iq (Nat.le_refl _)
      refine z_icmp_lt (a := im) (b := (zneed wn iq)) (tgt := 30) hx hb (by omega) (by omega) dX5_sum_23 (by decide) (fun c10 => ?_) (fun c11 => ?_)
      · skip
        have c_23 := c10
        refine lv_iconst (v := (nI 1)) hx hb dX5_sum_30 (by decide) ?_
        refine va_put (D := (dC, dI)) (ci := 5) (v := .int (nI 1)) (ty := .int) (C := RX5) (T := TX5) (N := 19) hx hb (dr_words hts s.drawn) (in_X5_sum_X5) tyX5 tyX5_ok nmX5 hown hK hP hD hS 0 rfl rfl 0 (by decide) (dr_words hts s.drawn (.fieldLink RX5 55 "PlateModesModel" "thrown" "I") (by decide +kernel)) (fun _ h9 => h9) rfl (by decide +kernel) rfl rfl (Nat.le_of_ble_eq_true rfl) dX5_sum_31 (fun H locs hP hD hS => ?_)
        have hP : va_P (dC, dI) vwCl (w5 a0 aT aE aG aR aN aS aQ aW aX cD cI (nI 1) iw ih fa fb fd ib mk im iq tT tE tG tR tN tS tQ tW tX) H := hP
        have hD : va_D A (w5 a0 aT aE aG aR aN aS aQ aW aX cD cI (nI 1) iw ih fa fb fd ib mk im iq tT tE tG tR tN tS tQ tW tX) := hD
        refine lv_aload_n hx hb dX5_sum_34 rfl (lv_at hl 0 rfl) ?_
        refine va_get (D := (dC, dI)) (ci := 5) (v := .int (nI 1)) (C := RX5) (T := TX5) (N := 19) hx hb (dr_words hts s.drawn) (in_X5_sum_X5) hown hK hP 0 rfl rfl 0 (by decide) (dr_words hts s.drawn (.fieldLink RX5 55 "PlateModesModel" "thrown" "I") (by decide +kernel)) (fun _ h9 => h9) rfl dX5_sum_35 ?_
        refine z_if_le (tgt := 45) hx hb (by omega) dX5_sum_38 (by decide) (fun c12 => ?_) (fun c13 => ?_)
        · skip
          exact absurd c12 (by decide)
        · skip
          refine lv_dconst0 hx hb dX5_sum_41 ?_
          refine lv_goto (tgt := 49) hx hb dX5_sum_42 (by decide) ?_
          refine W.endD hd0 ?_
          exact W.dret (v := FP.dconst0) hx hb hr (fun t ht hW => ⟨⟨FP.dconst0, (nI 1), rfl, ⟨congrArg nI (if_neg (fun hh => by obtain ⟨h1, h2⟩ := hh; first | omega | (rw [c_12, zmks_f] at h2; have := zneed_pos (f := wn) h1; omega) | (rw [c_12, zmks_t] at h2; omega))).symm, fun h => absurd ((if_neg (fun hh => by obtain ⟨h1, h2⟩ := hh; first | omega | (rw [c_12, zmks_f] at h2; have := zneed_pos (f := wn) h1; omega) | (rw [c_12, zmks_t] at h2; omega))).symm.trans h) (by decide)⟩, by rw [ht]; exact hP, va_K.moved hW.alike hK, hD⟩, hS.F ht⟩) hS.2.2 dX5_sum_49
      · skip
        have c_23 := c11
        refine lv_iconst (v := (nI 0)) hx hb dX5_sum_26 (by decide) ?_
        refine lv_goto (tgt := 31) hx hb dX5_sum_27 (by decide) ?_
        refine va_put (D := (dC, dI)) (ci := 5) (v := .int (nI 0)) (ty := .int) (C := RX5) (T := TX5) (N := 19) hx hb (dr_words hts s.drawn) (in_X5_sum_X5) tyX5 tyX5_ok nmX5 hown hK hP hD hS 0 rfl rfl 0 (by decide) (dr_words hts s.drawn (.fieldLink RX5 55 "PlateModesModel" "thrown" "I") (by decide +kernel)) (fun _ h9 => h9) rfl (by decide +kernel) rfl rfl (Nat.le_of_ble_eq_true rfl) dX5_sum_31 (fun H locs hP hD hS => ?_)
        have hP : va_P (dC, dI) vwCl (w5 a0 aT aE aG aR aN aS aQ aW aX cD cI (nI 0) iw ih fa fb fd ib mk im iq tT tE tG tR tN tS tQ tW tX) H := hP
        have hD : va_D A (w5 a0 aT aE aG aR aN aS aQ aW aX cD cI (nI 0) iw ih fa fb fd ib mk im iq tT tE tG tR tN tS tQ tW tX) := hD
        refine lv_aload_n hx hb dX5_sum_34 rfl (lv_at hl 0 rfl) ?_
        refine va_get (D := (dC, dI)) (ci := 5) (v := .int (nI 0)) (C := RX5) (T := TX5) (N := 19) hx hb (dr_words hts s.drawn) (in_X5_sum_X5) hown hK hP 0 rfl rfl 0 (by decide) (dr_words hts s.drawn (.fieldLink RX5 55 "PlateModesModel" "thrown" "I") (by decide +kernel)) (fun _ h9 => h9) rfl dX5_sum_35 ?_
        refine z_if_le (tgt := 45) hx hb (by omega) dX5_sum_38 (by decide) (fun c14 => ?_) (fun c15 => ?_)
        · skip
          obtain ⟨gR, gN, hcn, hsh⟩ := hq.2 c_12
          refine lv_aload_n hx hb dX5_sum_45 rfl (lv_at hl 0 rfl) ?_
          have hPc := hP
          refine va_calldD hd0 (va_runV_D (As := []) (rest := []) ⟨hx, hb, hml, hown, (dr_words hts s.drawn)⟩ (c5_total l dC dI a0 aT aE aG aR aN aS aQ aW aX cD cI (nI 0) iw ih fa fb fd ib mk im iq tT tE tG tR tN tS tQ tW tX wn hq4 gW gw4 (fun i => zSQ iw ih T RX NX (zv fd) (wn i)) ws (fun i hi => (hsh (wn i) (Nat.lt_of_lt_of_le (zneed_gt hi) c_23)).2) gX) (cwV 0 (dr_words hts s.drawn) gX5_sum_X5_total rfl rfl rfl (by decide +kernel) ⟨Nat.le_of_ble_eq_true rfl, Nat.le_of_ble_eq_true rfl⟩) ⟨zfb, va_recv hK hP (ci := 5) (q0 := 0) rfl rfl, zpre hPc hK⟩ rfl rfl hl.1 rfl (lv_room (Nat.le_of_ble_eq_true rfl)) dX5_sum_46 ⟨Nat.le_of_ble_eq_true rfl, Nat.le_of_ble_eq_true rfl⟩) hS (fun q _ h => h.elim) (fun q h => h.elim) (fun r16 u9 t9 H locs ht9 hvm9 hr16 hB9 hz9 hk1 hS dhd17 hd17 => ?_)
          have hP := zro1 hP hk1
          refine W.endD hd17 ?_
          exact W.dret (v := r16) hx hb hr (fun t ht hW => ⟨⟨r16, (nI 0), rfl, ⟨congrArg nI (if_pos ⟨c_5, by rw [c_12, zmks_t]; omega⟩).symm, fun _ => hr16⟩, by rw [ht]; exact hP, va_K.moved hW.alike hK, hD⟩, hS.F ht⟩) hS.2.2 dX5_sum_49
        · skip
          exact absurd c15 (by decide)
theorem in_X5_coupled_X5 : ∀ w ∈ wsX50, w ∈ wsX5_coupled := fun w h => List.mem_cons_of_mem _ (List.mem_append_right _ h)
set_option maxHeartbeats 4000000 in
set_option maxRecDepth 100000 in
/-- coupled -/
theorem c5_coupled (l : Launch) (dC : Nat → ClassId) (dI : Nat → Nat → Nat) (a0 aT aE aG aR aN aS aQ aW aX : Nat) (cD cI : ClassId) (th : Int32) (iw ih : Nat) (fa fb fd : UInt64) (ib : Nat) (mk : Bool) (im iq : Nat) (tT : Nat → UInt64) (tE : Nat → Int32) (tG tR tN tS tQ : Nat → UInt64) (tW : Nat → Int32) (tX : Nat → UInt64) (T RX NX : Nat → ZD) (gT : zgr tT iw ih T) (hw6 : iw ≤ 6) (hh6 : ih ≤ 6) (hq : q5m iw ih mk im tR tN tS tQ T RX NX (zv fd)) (k : Int32) (va vb : UInt64) (gr : Bool) (sz : Nat) : MetD lw_cs l yX5_coupled wsX5_coupled ({ frames := 2, cells := 0, slots := 0, locals := 46 } : Room) (va_Pc [.ref a0, .int k, .double va, .double vb, .int (zb gr)] (fun U => U.heap.size = sz ∧ va_P (dC, dI) vwCl (w5 a0 aT aE aG aR aN aS aQ aW aX cD cI th iw ih fa fb fd ib mk im iq tT tE tG tR tN tS tQ tW tX) U.heap ∧ va_K (dC, dI) vwCl [(cD, .double), (cI, .int)] U ∧ va_D (fun _ => True) (w5 a0 aT aE aG aR aN aS aQ aW aX cD cI th iw ih fa fb fd ib mk im iq tT tE tG tR tN tS tQ tW tX))) (va_Qd (fun (r : UInt64) (u : Int32) => u = nI (zcC (zmks mk im) k (zv va) (zv vb)) ∧ (zcC (zmks mk im) k (zv va) (zv vb) = 0 → zv r = zcpV (zSQ iw ih T RX NX (zv fd) (zn k)) (zsum T (zshp iw ih T RX NX (zv fd) (zn k)) (iw * ih)) (zv va) (zv vb) gr)) (fun u t => (va_P (dC, dI) vwCl (w5 a0 aT aE aG aR aN aS aQ aW aX cD cI u iw ih fa fb fd ib mk im iq tT tE tG tR tN tS tQ tW tX) t.heap ∧ va_K (dC, dI) vwCl [(cD, .double), (cI, .int)] t ∧ va_D (va_A (w5 a0 aT aE aG aR aN aS aQ aW aX cD cI th iw ih fa fb fd ib mk im iq tT tE tG tR tN tS tQ tW tX) sz) (w5 a0 aT aE aG aR aN aS aQ aW aX cD cI u iw ih fa fb fd ib mk im iq tT tE tG tR tN tS tQ tW tX))) (va_A (w5 a0 aT aE aG aR aN aS aQ aW aX cD cI th iw ih fa fb fd ib mk im iq tT tE tG tR tN tS tQ tW tX) sz)) 0 0 (va_A (w5 a0 aT aE aG aR aN aS aQ aW aX cD cI th iw ih fa fb fd ib mk im iq tT tE tG tR tN tS tQ tW tX) sz) := by
  refine MetD.ofW (cc := cX5_coupled) (maxL := 13) (ret := (some .double)) (by decide) rfl ?_
  intro p e s m args below meth c s₁ B hml hv hd0
  obtain ⟨rfl, hsz, hP, hK, hD0⟩ := hv
  have hx := B.exec
  have hb := B.bytes
  have hr := B.returns
  have hts := atoms_spec (ws := wsX5_coupled) B.pre
  have hown : s.vm.findClass RX5 = some m.cls := findClass_of_methodNamed B.named
  have hlocks := B.notSynchronized
  subst hsz
  have hD := hD0.self (sz := s.heap.size)
  generalize hAe : va_A (w5 a0 aT aE aG aR aN aS aQ aW aX cD cI th iw ih fa fb fd ib mk im iq tT tE tG tR tN tS tQ tW tX) s.heap.size = A at hD ⊢
  have hA : ∀ q : Nat, s.heap.size ≤ q → A q := fun q h => by rw [← hAe]; exact Or.inr h
  have hS : va_S A s.heap s.heap [] := va_S.rf
  have hl := lv_entry ([.ref a0, .int k, .double va, .double vb, .int (zb gr)]) (n := 13) (Nat.le_of_ble_eq_true rfl)
  rw [lg_entry_eq]
  generalize (lg_sl ([.ref a0, .int k, .double va, .double vb, .int (zb gr)]) ++ List.replicate (13 - (lg_sl ([.ref a0, .int k, .double va, .double vb, .int (zb gr)])).length) Slot.unset).toArray = ls at hl ⊢
  have hl : lv_has ls 13 [(0, .ref a0), (1, .int k), (2, .double va), (4, .double vb), (6, .int (zb gr))] := hl
  refine lv_aload_n hx hb dX5_coupled_0 rfl (lv_at hl 0 rfl) ?_
  refine lv_aload_n hx hb dX5_coupled_1 rfl (lv_at hl 0 rfl) ?_
  refine lv_iload_n hx hb dX5_coupled_2 rfl (lv_at hl 1 rfl) ?_
  have hPc := hP
  refine va_calli (va_runV (As := [.int k]) (rest := [.ref a0]) ⟨hx, hb, hml, hown, (dr_words hts s.drawn)⟩ (c5_noMode l dC dI a0 aT aE aG aR aN aS aQ aW aX cD cI th iw ih fa fb fd ib mk im iq tT tE tG tR tN tS tQ tW tX k) (cwV 1 (dr_words hts s.drawn) gX5_coupled_X5_noMode rfl rfl rfl (by decide +kernel) ⟨Nat.le_of_ble_eq_true rfl, Nat.le_of_ble_eq_true rfl⟩) ⟨zfb, va_recv hK hP (ci := 5) (q0 := 0) rfl rfl, zpre hPc hK⟩ rfl rfl hl.1 rfl (lv_room (Nat.le_of_ble_eq_true rfl)) dX5_coupled_3 ⟨Nat.le_of_ble_eq_true rfl, Nat.le_of_ble_eq_true rfl⟩) hS (fun q _ h => h.elim) (fun q h => h.elim) (fun r1 u9 t9 H locs ht9 hvm9 hr1 hB9 hz9 hk1 hS => ?_)
  have hP := zro1 hP hk1
  subst hr1
  refine z_if_eq_p (tgt := 13) hx hb (znmd k) dX5_coupled_6 (by decide) (fun c2 => ?_) (fun c3 => ?_)
  · skip
    have c_6 := c2
    refine lv_dload_n hx hb dX5_coupled_13 rfl (lv_at hl 2 rfl) ?_
    refine lv_dconst0 hx hb dX5_coupled_14 ?_
    refine lv_ldc2d (v := 4620693217682128896) hx hb hown (dr_words hts s.drawn (.constantDouble RX5 66 (4620693217682128896)) (by decide +kernel)) dX5_coupled_15 ?_
    refine va_calli (va_runS (As := [.double va, .double FP.dconst0, .double 4620693217682128896]) (rest := [.ref a0]) ⟨hx, hb, hml, hown, (dr_words hts s.drawn)⟩ (c5_between l va FP.dconst0 4620693217682128896) (va_cwS 3 (dr_words hts s.drawn) gX5_coupled_X5_between rfl rfl rfl (by decide +kernel) ⟨Nat.le_of_ble_eq_true rfl, Nat.le_of_ble_eq_true rfl⟩) ⟨zfb0, zpre0⟩ rfl rfl hl.1 rfl (lv_room (Nat.le_of_ble_eq_true rfl)) dX5_coupled_18 ⟨Nat.le_of_ble_eq_true rfl, Nat.le_of_ble_eq_true rfl⟩) hS (fun q _ h => h.elim) (fun q h => h.elim) (fun r4 u9 t9 H locs ht9 hvm9 hr4 hB9 hz9 hk1 hS => ?_)
    have hP := zro1 hP hk1
    have hr4 : r4 = zb (zbt (zv va) z0 (zv 4620693217682128896)) := hr4
    subst hr4
    refine z_if_eq_b (tgt := 36) hx hb dX5_coupled_21 (by decide) (fun c5 => ?_) (fun c6 => ?_)
    · skip
      have c_21 := c5
      refine lv_iconst (v := (nI 2)) hx hb dX5_coupled_36 (by decide) ?_
      refine lv_goto (tgt := 60) hx hb dX5_coupled_37 (by decide) ?_
      refine va_put (D := (dC, dI)) (ci := 5) (v := .int (nI 2)) (ty := .int) (C := RX5) (T := TX5) (N := 19) hx hb (dr_words hts s.drawn) (in_X5_coupled_X5) tyX5 tyX5_ok nmX5 hown hK hP hD hS 0 rfl rfl 0 (by decide) (dr_words hts s.drawn (.fieldLink RX5 55 "PlateModesModel" "thrown" "I") (by decide +kernel)) (fun _ h9 => h9) rfl (by decide +kernel) rfl rfl (Nat.le_of_ble_eq_true rfl) dX5_coupled_60 (fun H locs hP hD hS => ?_)
      have hP : va_P (dC, dI) vwCl (w5 a0 aT aE aG aR aN aS aQ aW aX cD cI (nI 2) iw ih fa fb fd ib mk im iq tT tE tG tR tN tS tQ tW tX) H := hP
      have hD : va_D A (w5 a0 aT aE aG aR aN aS aQ aW aX cD cI (nI 2) iw ih fa fb fd ib mk im iq tT tE tG tR tN tS tQ tW tX) := hD
      refine lv_aload_n hx hb dX5_coupled_63 rfl (lv_at hl 0 rfl) ?_
      refine va_get (D := (dC, dI)) (ci := 5) (v := .int (nI 2)) (C := RX5) (T := TX5) (N := 19) hx hb (dr_words hts s.drawn) (in_X5_coupled_X5) hown hK hP 0 rfl rfl 0 (by decide) (dr_words hts s.drawn (.fieldLink RX5 55 "PlateModesModel" "thrown" "I") (by decide +kernel)) (fun _ h9 => h9) rfl dX5_coupled_64 ?_
      refine z_if_le (tgt := 72) hx hb (by omega) dX5_coupled_67 (by decide) (fun c7 => ?_) (fun c8 => ?_)
      · skip
        exact absurd c7 (by decide)
      · skip
        refine lv_dconst0 hx hb dX5_coupled_70 ?_
        refine W.endD hd0 ?_
        exact W.dret (v := FP.dconst0) hx hb hr (fun t ht hW => ⟨⟨FP.dconst0, (nI 2), rfl, ⟨congrArg nI ((if_neg c_6).trans (if_pos (by first | (rw [c_21]; rfl) | (rw [c_21, c_33]; rfl)))).symm, fun h => absurd (((if_neg c_6).trans (if_pos (by first | (rw [c_21]; rfl) | (rw [c_21, c_33]; rfl)))).symm.trans h) (by decide)⟩, by rw [ht]; exact hP, va_K.moved hW.alike hK, hD⟩, hS.F ht⟩) hS.2.2 dX5_coupled_71
    · skip
      have c_21 := c6
      refine lv_dload hx hb dX5_coupled_24 (lv_at hl 3 rfl) ?_
      refine lv_dconst0 hx hb dX5_coupled_26 ?_
      refine lv_ldc2d (v := 4620693217682128896) hx hb hown (dr_words hts s.drawn (.constantDouble RX5 66 (4620693217682128896)) (by decide +kernel)) dX5_coupled_27 ?_
      refine va_calli (va_runS (As := [.double vb, .double FP.dconst0, .double 4620693217682128896]) (rest := [.ref a0]) ⟨hx, hb, hml, hown, (dr_words hts s.drawn)⟩ (c5_between l vb FP.dconst0 4620693217682128896) (va_cwS 3 (dr_words hts s.drawn) gX5_coupled_X5_between rfl rfl rfl (by decide +kernel) ⟨Nat.le_of_ble_eq_true rfl, Nat.le_of_ble_eq_true rfl⟩) ⟨zfb0, zpre0⟩ rfl rfl hl.1 rfl (lv_room (Nat.le_of_ble_eq_true rfl)) dX5_coupled_30 ⟨Nat.le_of_ble_eq_true rfl, Nat.le_of_ble_eq_true rfl⟩) hS (fun q _ h => h.elim) (fun q h => h.elim) (fun r9 u9 t9 H locs ht9 hvm9 hr9 hB9 hz9 hk1 hS => ?_)
      have hP := zro1 hP hk1
      have hr9 : r9 = zb (zbt (zv vb) z0 (zv 4620693217682128896)) := hr9
      subst hr9
      refine z_if_ne_b (tgt := 40) hx hb dX5_coupled_33 (by decide) (fun c10 => ?_) (fun c11 => ?_)
      · skip
        have c_33 := c10
        refine lv_aload_n hx hb dX5_coupled_40 rfl (lv_at hl 0 rfl) ?_
        refine va_get (D := (dC, dI)) (ci := 5) (v := .int (zb mk)) (C := RX5) (T := TX5) (N := 19) hx hb (dr_words hts s.drawn) (in_X5_coupled_X5) hown hK hP 0 rfl rfl 12 (by decide) (dr_words hts s.drawn (.fieldLink RX5 72 "PlateModesModel" "made" "Z") (by decide +kernel)) (fun _ h9 => h9) rfl dX5_coupled_41 ?_
        refine z_if_eq_b (tgt := 59) hx hb dX5_coupled_44 (by decide) (fun c12 => ?_) (fun c13 => ?_)
        · skip
          have c_44 := c12
          refine lv_iconst (v := (nI 3)) hx hb dX5_coupled_59 (by decide) ?_
          refine va_put (D := (dC, dI)) (ci := 5) (v := .int (nI 3)) (ty := .int) (C := RX5) (T := TX5) (N := 19) hx hb (dr_words hts s.drawn) (in_X5_coupled_X5) tyX5 tyX5_ok nmX5 hown hK hP hD hS 0 rfl rfl 0 (by decide) (dr_words hts s.drawn (.fieldLink RX5 55 "PlateModesModel" "thrown" "I") (by decide +kernel)) (fun _ h9 => h9) rfl (by decide +kernel) rfl rfl (Nat.le_of_ble_eq_true rfl) dX5_coupled_60 (fun H locs hP hD hS => ?_)
          have hP : va_P (dC, dI) vwCl (w5 a0 aT aE aG aR aN aS aQ aW aX cD cI (nI 3) iw ih fa fb fd ib mk im iq tT tE tG tR tN tS tQ tW tX) H := hP
          have hD : va_D A (w5 a0 aT aE aG aR aN aS aQ aW aX cD cI (nI 3) iw ih fa fb fd ib mk im iq tT tE tG tR tN tS tQ tW tX) := hD
          refine lv_aload_n hx hb dX5_coupled_63 rfl (lv_at hl 0 rfl) ?_
          refine va_get (D := (dC, dI)) (ci := 5) (v := .int (nI 3)) (C := RX5) (T := TX5) (N := 19) hx hb (dr_words hts s.drawn) (in_X5_coupled_X5) hown hK hP 0 rfl rfl 0 (by decide) (dr_words hts s.drawn (.fieldLink RX5 55 "PlateModesModel" "thrown" "I") (by decide +kernel)) (fun _ h9 => h9) rfl dX5_coupled_64 ?_
          refine z_if_le (tgt := 72) hx hb (by omega) dX5_coupled_67 (by decide) (fun c14 => ?_) (fun c15 => ?_)
          · skip
            exact absurd c14 (by decide)
          · skip
            refine lv_dconst0 hx hb dX5_coupled_70 ?_
            refine W.endD hd0 ?_
            exact W.dret (v := FP.dconst0) hx hb hr (fun t ht hW => ⟨⟨FP.dconst0, (nI 3), rfl, ⟨congrArg nI ((if_neg c_6).trans ((if_neg (by rw [c_21, c_33]; decide)).trans (if_neg (fun z => by have z2 := (zltM (fun q => c_6 (Or.inl q))).mp z; first | exact absurd (c_44.symm.trans z2.1) (by decide) | exact c_52 z2.2)))).symm, fun h => absurd (((if_neg c_6).trans ((if_neg (by rw [c_21, c_33]; decide)).trans (if_neg (fun z => by have z2 := (zltM (fun q => c_6 (Or.inl q))).mp z; first | exact absurd (c_44.symm.trans z2.1) (by decide) | exact c_52 z2.2)))).symm.trans h) (by decide)⟩, by rw [ht]; exact hP, va_K.moved hW.alike hK, hD⟩, hS.F ht⟩) hS.2.2 dX5_coupled_71
        · skip
          have c_44 := c13
          refine lv_iload_n hx hb dX5_coupled_47 rfl (lv_at hl 1 rfl) ?_
          refine lv_aload_n hx hb dX5_coupled_48 rfl (lv_at hl 0 rfl) ?_
          refine va_get (D := (dC, dI)) (ci := 5) (v := .int (nI im)) (C := RX5) (T := TX5) (N := 19) hx hb (dr_words hts s.drawn) (in_X5_coupled_X5) hown hK hP 0 rfl rfl 13 (by decide) (dr_words hts s.drawn (.fieldLink RX5 116 "PlateModesModel" "many" "I") (by decide +kernel)) (fun _ h9 => h9) rfl dX5_coupled_49 ?_
          refine lv_icmp_ge (tgt := 59) hx hb dX5_coupled_52 (by decide) (fun c16 => ?_) (fun c17 => ?_)
          · skip
            have c_52 := Int32.not_lt.mpr c16
            refine lv_iconst (v := (nI 3)) hx hb dX5_coupled_59 (by decide) ?_
            refine va_put (D := (dC, dI)) (ci := 5) (v := .int (nI 3)) (ty := .int) (C := RX5) (T := TX5) (N := 19) hx hb (dr_words hts s.drawn) (in_X5_coupled_X5) tyX5 tyX5_ok nmX5 hown hK hP hD hS 0 rfl rfl 0 (by decide) (dr_words hts s.drawn (.fieldLink RX5 55 "PlateModesModel" "thrown" "I") (by decide +kernel)) (fun _ h9 => h9) rfl (by decide +kernel) rfl rfl (Nat.le_of_ble_eq_true rfl) dX5_coupled_60 (fun H locs hP hD hS => ?_)
            have hP : va_P (dC, dI) vwCl (w5 a0 aT aE aG aR aN aS aQ aW aX cD cI (nI 3) iw ih fa fb fd ib mk im iq tT tE tG tR tN tS tQ tW tX) H := hP
            have hD : va_D A (w5 a0 aT aE aG aR aN aS aQ aW aX cD cI (nI 3) iw ih fa fb fd ib mk im iq tT tE tG tR tN tS tQ tW tX) := hD
            refine lv_aload_n hx hb dX5_coupled_63 rfl (lv_at hl 0 rfl) ?_
            refine va_get (D := (dC, dI)) (ci := 5) (v := .int (nI 3)) (C := RX5) (T := TX5) (N := 19) hx hb (dr_words hts s.drawn) (in_X5_coupled_X5) hown hK hP 0 rfl rfl 0 (by decide) (dr_words hts s.drawn (.fieldLink RX5 55 "PlateModesModel" "thrown" "I") (by decide +kernel)) (fun _ h9 => h9) rfl dX5_coupled_64 ?_
            refine z_if_le (tgt := 72) hx hb (by omega) dX5_coupled_67 (by decide) (fun c18 => ?_) (fun c19 => ?_)
            · skip
              exact absurd c18 (by decide)
            · skip
              refine lv_dconst0 hx hb dX5_coupled_70 ?_
              refine W.endD hd0 ?_
              exact W.dret (v := FP.dconst0) hx hb hr (fun t ht hW => ⟨⟨FP.dconst0, (nI 3), rfl, ⟨congrArg nI ((if_neg c_6).trans ((if_neg (by rw [c_21, c_33]; decide)).trans (if_neg (fun z => by have z2 := (zltM (fun q => c_6 (Or.inl q))).mp z; first | exact absurd (c_44.symm.trans z2.1) (by decide) | exact c_52 z2.2)))).symm, fun h => absurd (((if_neg c_6).trans ((if_neg (by rw [c_21, c_33]; decide)).trans (if_neg (fun z => by have z2 := (zltM (fun q => c_6 (Or.inl q))).mp z; first | exact absurd (c_44.symm.trans z2.1) (by decide) | exact c_52 z2.2)))).symm.trans h) (by decide)⟩, by rw [ht]; exact hP, va_K.moved hW.alike hK, hD⟩, hS.F ht⟩) hS.2.2 dX5_coupled_71
          · skip
            have c_52 := Int32.not_le.mp c17
            refine lv_iconst (v := (nI 0)) hx hb dX5_coupled_55 (by decide) ?_
            refine lv_goto (tgt := 60) hx hb dX5_coupled_56 (by decide) ?_
            refine va_put (D := (dC, dI)) (ci := 5) (v := .int (nI 0)) (ty := .int) (C := RX5) (T := TX5) (N := 19) hx hb (dr_words hts s.drawn) (in_X5_coupled_X5) tyX5 tyX5_ok nmX5 hown hK hP hD hS 0 rfl rfl 0 (by decide) (dr_words hts s.drawn (.fieldLink RX5 55 "PlateModesModel" "thrown" "I") (by decide +kernel)) (fun _ h9 => h9) rfl (by decide +kernel) rfl rfl (Nat.le_of_ble_eq_true rfl) dX5_coupled_60 (fun H locs hP hD hS => ?_)
            have hP : va_P (dC, dI) vwCl (w5 a0 aT aE aG aR aN aS aQ aW aX cD cI (nI 0) iw ih fa fb fd ib mk im iq tT tE tG tR tN tS tQ tW tX) H := hP
            have hD : va_D A (w5 a0 aT aE aG aR aN aS aQ aW aX cD cI (nI 0) iw ih fa fb fd ib mk im iq tT tE tG tR tN tS tQ tW tX) := hD
            refine lv_aload_n hx hb dX5_coupled_63 rfl (lv_at hl 0 rfl) ?_
            refine va_get (D := (dC, dI)) (ci := 5) (v := .int (nI 0)) (C := RX5) (T := TX5) (N := 19) hx hb (dr_words hts s.drawn) (in_X5_coupled_X5) hown hK hP 0 rfl rfl 0 (by decide) (dr_words hts s.drawn (.fieldLink RX5 55 "PlateModesModel" "thrown" "I") (by decide +kernel)) (fun _ h9 => h9) rfl dX5_coupled_64 ?_
            refine z_if_le (tgt := 72) hx hb (by omega) dX5_coupled_67 (by decide) (fun c20 => ?_) (fun c21 => ?_)
            · skip
              obtain ⟨kn, hk4, rfl⟩ := zmd_of c_6
              have hkM : nI kn < nI (zmks mk im) := (zltM (fun q => c_6 (Or.inl q))).mpr ⟨c_44, c_52⟩
              obtain ⟨hmk, hki⟩ := zkM hk4 hq.1 hkM
              obtain ⟨gR, gN, hcn, hsh⟩ := hq.2 hmk
              obtain ⟨gS, gQ⟩ := hsh kn hki
              refine lv_aload_n hx hb dX5_coupled_72 rfl (lv_at hl 0 rfl) ?_
              refine lv_iload_n hx hb dX5_coupled_73 rfl (lv_at hl 1 rfl) ?_
              have hPc := hP
              refine va_calldD hd0 (va_runV_D (As := [.int (nI kn)]) (rest := []) ⟨hx, hb, hml, hown, (dr_words hts s.drawn)⟩ (c5_sumOf l dC dI a0 aT aE aG aR aN aS aQ aW aX cD cI (nI 0) iw ih fa fb fd ib mk im iq tT tE tG tR tN tS tQ tW tX kn (by omega) hw6 hh6 T (zshp iw ih T RX NX (zv fd) kn) gT gS) (cwV 1 (dr_words hts s.drawn) gX5_coupled_X5_sumOf rfl rfl rfl (by decide +kernel) ⟨Nat.le_of_ble_eq_true rfl, Nat.le_of_ble_eq_true rfl⟩) ⟨zfb, va_recv hK hP (ci := 5) (q0 := 0) rfl rfl, zpre hPc hK⟩ rfl rfl hl.1 rfl (lv_room (Nat.le_of_ble_eq_true rfl)) dX5_coupled_74 ⟨Nat.le_of_ble_eq_true rfl, Nat.le_of_ble_eq_true rfl⟩) hS (fun q _ h => h.elim) (fun q h => h.elim) (fun r22 u9 t9 H locs ht9 hvm9 hr22 hB9 hz9 hk1 hS dhd23 hd23 => ?_)
              have hP := zro1 hP hk1
              refine lv_dstore (lv' := [(7, .double r22), (0, .ref a0), (1, .int (nI kn)), (2, .double va), (4, .double vb), (6, .int (zb gr))]) hx hb dX5_coupled_77 hl (by decide) rfl (fun ls hl => ?_)
              refine lv_aload_n hx hb dX5_coupled_79 rfl (lv_at hl 1 rfl) ?_
              refine va_get (D := (dC, dI)) (ci := 5) (v := .ref aQ) (C := RX5) (T := TX5) (N := 19) hx hb (dr_words hts dhd23) (in_X5_coupled_X5) hown hK hP 0 rfl rfl 15 (by decide) (dr_words hts dhd23 (.fieldLink RX5 39 "PlateModesModel" "squares" "[D") (by decide +kernel)) (fun _ h9 => h9) rfl dX5_coupled_80 ?_
              refine lv_iload_n hx hb dX5_coupled_83 rfl (lv_at hl 2 rfl) ?_
              refine z_dald (s := s.setDrawn dhd23) (n := 4) (i := kn) hx hb hK hP 7 0 rfl rfl (by omega) (by decide) dX5_coupled_84 ?_
              refine lv_dload_n hx hb dX5_coupled_85 rfl (lv_at hl 3 rfl) ?_
              refine lv_dload hx hb dX5_coupled_86 (lv_at hl 0 rfl) ?_
              refine zr_dmul hd23 hx hb (a := zv va) (b := zsum T (zshp iw ih T RX NX (zv fd) kn) (iw * ih)) rfl hr22 dX5_coupled_88 (fun r24 d25 hr24 hd25 => ?_)
              refine lv_dload hx hb dX5_coupled_89 (lv_at hl 0 rfl) ?_
              refine zr_dmul hd25 hx hb (a := zM (zv va) (zsum T (zshp iw ih T RX NX (zv fd) kn) (iw * ih))) (b := zsum T (zshp iw ih T RX NX (zv fd) kn) (iw * ih)) hr24 hr22 dX5_coupled_91 (fun r26 d27 hr26 hd27 => ?_)
              refine zr_dadd hd27 hx hb (a := zSQ iw ih T RX NX (zv fd) kn) (b := zM (zM (zv va) (zsum T (zshp iw ih T RX NX (zv fd) kn) (iw * ih))) (zsum T (zshp iw ih T RX NX (zv fd) kn) (iw * ih))) gQ hr26 dX5_coupled_92 (fun r28 d29 hr28 hd29 => ?_)
              refine lv_dload hx hb dX5_coupled_93 (lv_at hl 4 rfl) ?_
              refine zr_dadd hd29 hx hb (a := zA (zSQ iw ih T RX NX (zv fd) kn) (zM (zM (zv va) (zsum T (zshp iw ih T RX NX (zv fd) kn) (iw * ih))) (zsum T (zshp iw ih T RX NX (zv fd) kn) (iw * ih)))) (b := zv vb) hr28 rfl dX5_coupled_95 (fun r30 d31 hr30 hd31 => ?_)
              refine lv_dstore (lv' := [(9, .double r30), (7, .double r22), (0, .ref a0), (1, .int (nI kn)), (2, .double va), (4, .double vb), (6, .int (zb gr))]) hx hb dX5_coupled_96 hl (by decide) rfl (fun ls hl => ?_)
              refine lv_dload hx hb dX5_coupled_98 (lv_at hl 0 rfl) ?_
              refine lv_dload hx hb dX5_coupled_100 (lv_at hl 0 rfl) ?_
              refine zr_dmul hd31 hx hb (a := zA (zA (zSQ iw ih T RX NX (zv fd) kn) (zM (zM (zv va) (zsum T (zshp iw ih T RX NX (zv fd) kn) (iw * ih))) (zsum T (zshp iw ih T RX NX (zv fd) kn) (iw * ih)))) (zv vb)) (b := zA (zA (zSQ iw ih T RX NX (zv fd) kn) (zM (zM (zv va) (zsum T (zshp iw ih T RX NX (zv fd) kn) (iw * ih))) (zsum T (zshp iw ih T RX NX (zv fd) kn) (iw * ih)))) (zv vb)) hr30 hr30 dX5_coupled_102 (fun r32 d33 hr32 hd33 => ?_)
              refine lv_ldc2d (v := 4616189618054758400) hx hb hown (dr_words hts d33 (.constantDouble RX5 139 (4616189618054758400)) (by decide +kernel)) dX5_coupled_103 ?_
              refine lv_aload_n hx hb dX5_coupled_106 rfl (lv_at hl 2 rfl) ?_
              refine va_get (D := (dC, dI)) (ci := 5) (v := .ref aQ) (C := RX5) (T := TX5) (N := 19) hx hb (dr_words hts d33) (in_X5_coupled_X5) hown hK hP 0 rfl rfl 15 (by decide) (dr_words hts d33 (.fieldLink RX5 39 "PlateModesModel" "squares" "[D") (by decide +kernel)) (fun _ h9 => h9) rfl dX5_coupled_107 ?_
              refine lv_iload_n hx hb dX5_coupled_110 rfl (lv_at hl 3 rfl) ?_
              refine z_dald (s := s.setDrawn d33) (n := 4) (i := kn) hx hb hK hP 7 0 rfl rfl (by omega) (by decide) dX5_coupled_111 ?_
              refine zr_dmul hd33 hx hb (a := zv 4616189618054758400) (b := zSQ iw ih T RX NX (zv fd) kn) rfl gQ dX5_coupled_112 (fun r34 d35 hr34 hd35 => ?_)
              refine lv_dload hx hb dX5_coupled_113 (lv_at hl 5 rfl) ?_
              refine zr_dmul hd35 hx hb (a := zM (zv 4616189618054758400) (zSQ iw ih T RX NX (zv fd) kn)) (b := zv vb) hr34 rfl dX5_coupled_115 (fun r36 d37 hr36 hd37 => ?_)
              refine zr_dsub hd37 hx hb (a := zM (zA (zA (zSQ iw ih T RX NX (zv fd) kn) (zM (zM (zv va) (zsum T (zshp iw ih T RX NX (zv fd) kn) (iw * ih))) (zsum T (zshp iw ih T RX NX (zv fd) kn) (iw * ih)))) (zv vb)) (zA (zA (zSQ iw ih T RX NX (zv fd) kn) (zM (zM (zv va) (zsum T (zshp iw ih T RX NX (zv fd) kn) (iw * ih))) (zsum T (zshp iw ih T RX NX (zv fd) kn) (iw * ih)))) (zv vb))) (b := zM (zM (zv 4616189618054758400) (zSQ iw ih T RX NX (zv fd) kn)) (zv vb)) hr32 hr36 dX5_coupled_116 (fun r38 d39 hr38 hd39 => ?_)
              refine va_calldD hd39 (va_runS_D (As := [.double r38]) (rest := []) ⟨hx, hb, hml, hown, (dr_words hts d39)⟩ (c5_root l r38) (va_cwS 1 (dr_words hts d39) gX5_coupled_X5_root rfl rfl rfl (by decide +kernel) ⟨Nat.le_of_ble_eq_true rfl, Nat.le_of_ble_eq_true rfl⟩) ⟨zfb0, zpre0⟩ rfl rfl hl.1 rfl (lv_room (Nat.le_of_ble_eq_true rfl)) dX5_coupled_117 ⟨Nat.le_of_ble_eq_true rfl, Nat.le_of_ble_eq_true rfl⟩) hS (fun q _ h => h.elim) (fun q h => h.elim) (fun r40 u9 t9 H locs ht9 hvm9 hr40 hB9 hz9 hk1 hS dhd41 hd41 => ?_)
              have hP := zro1 hP hk1
              have hr40 : zv r40 = zroot (zS (zM (zA (zA (zSQ iw ih T RX NX (zv fd) kn) (zM (zM (zv va) (zsum T (zshp iw ih T RX NX (zv fd) kn) (iw * ih))) (zsum T (zshp iw ih T RX NX (zv fd) kn) (iw * ih)))) (zv vb)) (zA (zA (zSQ iw ih T RX NX (zv fd) kn) (zM (zM (zv va) (zsum T (zshp iw ih T RX NX (zv fd) kn) (iw * ih))) (zsum T (zshp iw ih T RX NX (zv fd) kn) (iw * ih)))) (zv vb))) (zM (zM (zv 4616189618054758400) (zSQ iw ih T RX NX (zv fd) kn)) (zv vb))) := hr40.trans (congrArg zroot hr38)
              refine lv_dstore (lv' := [(11, .double r40), (9, .double r30), (7, .double r22), (0, .ref a0), (1, .int (nI kn)), (2, .double va), (4, .double vb), (6, .int (zb gr))]) hx hb dX5_coupled_120 hl (by decide) rfl (fun ls hl => ?_)
              refine lv_iload hx hb dX5_coupled_122 (lv_at hl 7 rfl) ?_
              refine z_if_eq_b (tgt := 139) hx hb dX5_coupled_124 (by decide) (fun c42 => ?_) (fun c43 => ?_)
              · skip
                have c_124 := c42
                refine lv_dload hx hb dX5_coupled_139 (lv_at hl 1 rfl) ?_
                refine lv_dload hx hb dX5_coupled_141 (lv_at hl 0 rfl) ?_
                refine zr_dsub hd41 hx hb (a := zA (zA (zSQ iw ih T RX NX (zv fd) kn) (zM (zM (zv va) (zsum T (zshp iw ih T RX NX (zv fd) kn) (iw * ih))) (zsum T (zshp iw ih T RX NX (zv fd) kn) (iw * ih)))) (zv vb)) (b := zroot (zS (zM (zA (zA (zSQ iw ih T RX NX (zv fd) kn) (zM (zM (zv va) (zsum T (zshp iw ih T RX NX (zv fd) kn) (iw * ih))) (zsum T (zshp iw ih T RX NX (zv fd) kn) (iw * ih)))) (zv vb)) (zA (zA (zSQ iw ih T RX NX (zv fd) kn) (zM (zM (zv va) (zsum T (zshp iw ih T RX NX (zv fd) kn) (iw * ih))) (zsum T (zshp iw ih T RX NX (zv fd) kn) (iw * ih)))) (zv vb))) (zM (zM (zv 4616189618054758400) (zSQ iw ih T RX NX (zv fd) kn)) (zv vb)))) hr30 hr40 dX5_coupled_143 (fun r44 d45 hr44 hd45 => ?_)
                refine lv_ldc2d (v := 4611686018427387904) hx hb hown (dr_words hts d45 (.constantDouble RX5 58 (4611686018427387904)) (by decide +kernel)) dX5_coupled_144 ?_
                refine zr_ddiv hd45 hx hb (a := zS (zA (zA (zSQ iw ih T RX NX (zv fd) kn) (zM (zM (zv va) (zsum T (zshp iw ih T RX NX (zv fd) kn) (iw * ih))) (zsum T (zshp iw ih T RX NX (zv fd) kn) (iw * ih)))) (zv vb)) (zroot (zS (zM (zA (zA (zSQ iw ih T RX NX (zv fd) kn) (zM (zM (zv va) (zsum T (zshp iw ih T RX NX (zv fd) kn) (iw * ih))) (zsum T (zshp iw ih T RX NX (zv fd) kn) (iw * ih)))) (zv vb)) (zA (zA (zSQ iw ih T RX NX (zv fd) kn) (zM (zM (zv va) (zsum T (zshp iw ih T RX NX (zv fd) kn) (iw * ih))) (zsum T (zshp iw ih T RX NX (zv fd) kn) (iw * ih)))) (zv vb))) (zM (zM (zv 4616189618054758400) (zSQ iw ih T RX NX (zv fd) kn)) (zv vb))))) (b := zv 4611686018427387904) hr44 rfl dX5_coupled_147 (fun r46 d47 hr46 hd47 => ?_)
                refine W.endD hd47 ?_
                exact W.dret (v := r46) hx hb hr (fun t ht hW => ⟨⟨r46, (nI 0), rfl, ⟨congrArg nI ((if_neg c_6).trans ((if_neg (by rw [c_21, c_33]; decide)).trans (if_pos ((zltM (fun q => c_6 (Or.inl q))).mpr ⟨c_44, c_52⟩)))).symm, fun _ => by rw [zn_nI (by omega)]; exact (hr46).trans (if_neg (by rw [c_124]; decide)).symm⟩, by rw [ht]; exact hP, va_K.moved hW.alike hK, hD⟩, hS.F ht⟩) hS.2.2 dX5_coupled_148
              · skip
                have c_124 := c43
                refine lv_dload hx hb dX5_coupled_127 (lv_at hl 1 rfl) ?_
                refine lv_dload hx hb dX5_coupled_129 (lv_at hl 0 rfl) ?_
                refine zr_dadd hd41 hx hb (a := zA (zA (zSQ iw ih T RX NX (zv fd) kn) (zM (zM (zv va) (zsum T (zshp iw ih T RX NX (zv fd) kn) (iw * ih))) (zsum T (zshp iw ih T RX NX (zv fd) kn) (iw * ih)))) (zv vb)) (b := zroot (zS (zM (zA (zA (zSQ iw ih T RX NX (zv fd) kn) (zM (zM (zv va) (zsum T (zshp iw ih T RX NX (zv fd) kn) (iw * ih))) (zsum T (zshp iw ih T RX NX (zv fd) kn) (iw * ih)))) (zv vb)) (zA (zA (zSQ iw ih T RX NX (zv fd) kn) (zM (zM (zv va) (zsum T (zshp iw ih T RX NX (zv fd) kn) (iw * ih))) (zsum T (zshp iw ih T RX NX (zv fd) kn) (iw * ih)))) (zv vb))) (zM (zM (zv 4616189618054758400) (zSQ iw ih T RX NX (zv fd) kn)) (zv vb)))) hr30 hr40 dX5_coupled_131 (fun r48 d49 hr48 hd49 => ?_)
                refine lv_ldc2d (v := 4611686018427387904) hx hb hown (dr_words hts d49 (.constantDouble RX5 58 (4611686018427387904)) (by decide +kernel)) dX5_coupled_132 ?_
                refine zr_ddiv hd49 hx hb (a := zA (zA (zA (zSQ iw ih T RX NX (zv fd) kn) (zM (zM (zv va) (zsum T (zshp iw ih T RX NX (zv fd) kn) (iw * ih))) (zsum T (zshp iw ih T RX NX (zv fd) kn) (iw * ih)))) (zv vb)) (zroot (zS (zM (zA (zA (zSQ iw ih T RX NX (zv fd) kn) (zM (zM (zv va) (zsum T (zshp iw ih T RX NX (zv fd) kn) (iw * ih))) (zsum T (zshp iw ih T RX NX (zv fd) kn) (iw * ih)))) (zv vb)) (zA (zA (zSQ iw ih T RX NX (zv fd) kn) (zM (zM (zv va) (zsum T (zshp iw ih T RX NX (zv fd) kn) (iw * ih))) (zsum T (zshp iw ih T RX NX (zv fd) kn) (iw * ih)))) (zv vb))) (zM (zM (zv 4616189618054758400) (zSQ iw ih T RX NX (zv fd) kn)) (zv vb))))) (b := zv 4611686018427387904) hr48 rfl dX5_coupled_135 (fun r50 d51 hr50 hd51 => ?_)
                refine lv_goto (tgt := 148) hx hb dX5_coupled_136 (by decide) ?_
                refine W.endD hd51 ?_
                exact W.dret (v := r50) hx hb hr (fun t ht hW => ⟨⟨r50, (nI 0), rfl, ⟨congrArg nI ((if_neg c_6).trans ((if_neg (by rw [c_21, c_33]; decide)).trans (if_pos ((zltM (fun q => c_6 (Or.inl q))).mpr ⟨c_44, c_52⟩)))).symm, fun _ => by rw [zn_nI (by omega)]; exact (hr50).trans (if_pos c_124).symm⟩, by rw [ht]; exact hP, va_K.moved hW.alike hK, hD⟩, hS.F ht⟩) hS.2.2 dX5_coupled_148
            · skip
              exact absurd c21 (by decide)
      · skip
        have c_33 := c11
        refine lv_iconst (v := (nI 2)) hx hb dX5_coupled_36 (by decide) ?_
        refine lv_goto (tgt := 60) hx hb dX5_coupled_37 (by decide) ?_
        refine va_put (D := (dC, dI)) (ci := 5) (v := .int (nI 2)) (ty := .int) (C := RX5) (T := TX5) (N := 19) hx hb (dr_words hts s.drawn) (in_X5_coupled_X5) tyX5 tyX5_ok nmX5 hown hK hP hD hS 0 rfl rfl 0 (by decide) (dr_words hts s.drawn (.fieldLink RX5 55 "PlateModesModel" "thrown" "I") (by decide +kernel)) (fun _ h9 => h9) rfl (by decide +kernel) rfl rfl (Nat.le_of_ble_eq_true rfl) dX5_coupled_60 (fun H locs hP hD hS => ?_)
        have hP : va_P (dC, dI) vwCl (w5 a0 aT aE aG aR aN aS aQ aW aX cD cI (nI 2) iw ih fa fb fd ib mk im iq tT tE tG tR tN tS tQ tW tX) H := hP
        have hD : va_D A (w5 a0 aT aE aG aR aN aS aQ aW aX cD cI (nI 2) iw ih fa fb fd ib mk im iq tT tE tG tR tN tS tQ tW tX) := hD
        refine lv_aload_n hx hb dX5_coupled_63 rfl (lv_at hl 0 rfl) ?_
        refine va_get (D := (dC, dI)) (ci := 5) (v := .int (nI 2)) (C := RX5) (T := TX5) (N := 19) hx hb (dr_words hts s.drawn) (in_X5_coupled_X5) hown hK hP 0 rfl rfl 0 (by decide) (dr_words hts s.drawn (.fieldLink RX5 55 "PlateModesModel" "thrown" "I") (by decide +kernel)) (fun _ h9 => h9) rfl dX5_coupled_64 ?_
        refine z_if_le (tgt := 72) hx hb (by omega) dX5_coupled_67 (by decide) (fun c52 => ?_) (fun c53 => ?_)
        · skip
          exact absurd c52 (by decide)
        · skip
          refine lv_dconst0 hx hb dX5_coupled_70 ?_
          refine W.endD hd0 ?_
          exact W.dret (v := FP.dconst0) hx hb hr (fun t ht hW => ⟨⟨FP.dconst0, (nI 2), rfl, ⟨congrArg nI ((if_neg c_6).trans (if_pos (by first | (rw [c_21]; rfl) | (rw [c_21, c_33]; rfl)))).symm, fun h => absurd (((if_neg c_6).trans (if_pos (by first | (rw [c_21]; rfl) | (rw [c_21, c_33]; rfl)))).symm.trans h) (by decide)⟩, by rw [ht]; exact hP, va_K.moved hW.alike hK, hD⟩, hS.F ht⟩) hS.2.2 dX5_coupled_71
  · skip
    have c_6 := c3
    refine lv_iconst (v := (nI 1)) hx hb dX5_coupled_9 (by decide) ?_
    refine lv_goto (tgt := 60) hx hb dX5_coupled_10 (by decide) ?_
    refine va_put (D := (dC, dI)) (ci := 5) (v := .int (nI 1)) (ty := .int) (C := RX5) (T := TX5) (N := 19) hx hb (dr_words hts s.drawn) (in_X5_coupled_X5) tyX5 tyX5_ok nmX5 hown hK hP hD hS 0 rfl rfl 0 (by decide) (dr_words hts s.drawn (.fieldLink RX5 55 "PlateModesModel" "thrown" "I") (by decide +kernel)) (fun _ h9 => h9) rfl (by decide +kernel) rfl rfl (Nat.le_of_ble_eq_true rfl) dX5_coupled_60 (fun H locs hP hD hS => ?_)
    have hP : va_P (dC, dI) vwCl (w5 a0 aT aE aG aR aN aS aQ aW aX cD cI (nI 1) iw ih fa fb fd ib mk im iq tT tE tG tR tN tS tQ tW tX) H := hP
    have hD : va_D A (w5 a0 aT aE aG aR aN aS aQ aW aX cD cI (nI 1) iw ih fa fb fd ib mk im iq tT tE tG tR tN tS tQ tW tX) := hD
    refine lv_aload_n hx hb dX5_coupled_63 rfl (lv_at hl 0 rfl) ?_
    refine va_get (D := (dC, dI)) (ci := 5) (v := .int (nI 1)) (C := RX5) (T := TX5) (N := 19) hx hb (dr_words hts s.drawn) (in_X5_coupled_X5) hown hK hP 0 rfl rfl 0 (by decide) (dr_words hts s.drawn (.fieldLink RX5 55 "PlateModesModel" "thrown" "I") (by decide +kernel)) (fun _ h9 => h9) rfl dX5_coupled_64 ?_
    refine z_if_le (tgt := 72) hx hb (by omega) dX5_coupled_67 (by decide) (fun c54 => ?_) (fun c55 => ?_)
    · skip
      exact absurd c54 (by decide)
    · skip
      refine lv_dconst0 hx hb dX5_coupled_70 ?_
      refine W.endD hd0 ?_
      exact W.dret (v := FP.dconst0) hx hb hr (fun t ht hW => ⟨⟨FP.dconst0, (nI 1), rfl, ⟨congrArg nI (if_pos c_6).symm, fun h => absurd ((if_pos c_6).symm.trans h) (by decide)⟩, by rw [ht]; exact hP, va_K.moved hW.alike hK, hD⟩, hS.F ht⟩) hS.2.2 dX5_coupled_71
theorem in_X5_tap_X5 : ∀ w ∈ wsX50, w ∈ wsX5_tap := fun w h => List.mem_cons_of_mem _ (List.mem_append_right _ h)
set_option maxHeartbeats 4000000 in
set_option maxRecDepth 100000 in
/-- tap -/
theorem c5_tap (l : Launch) (dC : Nat → ClassId) (dI : Nat → Nat → Nat) (a0 aT aE aG aR aN aS aQ aW aX : Nat) (cD cI : ClassId) (th : Int32) (iw ih : Nat) (fa fb fd : UInt64) (ib : Nat) (mk : Bool) (im iq : Nat) (tT : Nat → UInt64) (tE : Nat → Int32) (tG tR tN tS tQ : Nat → UInt64) (tW : Nat → Int32) (tX : Nat → UInt64) (T RX NX : Nat → ZD) (gT : zgr tT iw ih T) (hw6 : iw ≤ 6) (hh6 : ih ≤ 6) (hq : q5m iw ih mk im tR tN tS tQ T RX NX (zv fd)) (k x y : Int32) (va : UInt64) (sz : Nat) : MetD lw_cs l yX5_tap wsX5_tap ({ frames := 1, cells := 0, slots := 0, locals := 25 } : Room) (va_Pc [.ref a0, .int k, .int x, .int y, .double va] (fun U => U.heap.size = sz ∧ va_P (dC, dI) vwCl (w5 a0 aT aE aG aR aN aS aQ aW aX cD cI th iw ih fa fb fd ib mk im iq tT tE tG tR tN tS tQ tW tX) U.heap ∧ va_K (dC, dI) vwCl [(cD, .double), (cI, .int)] U ∧ va_D (fun _ => True) (w5 a0 aT aE aG aR aN aS aQ aW aX cD cI th iw ih fa fb fd ib mk im iq tT tE tG tR tN tS tQ tW tX))) (va_Qd (fun (r : UInt64) (u : Int32) => u = nI (zcT iw ih (zmks mk im) k x y (zv va)) ∧ (zcT iw ih (zmks mk im) k x y (zv va) = 0 → zv r = ztapV (zshp iw ih T RX NX (zv fd) (zn k) (zn y * iw + zn x)) (zv va) (zSQ iw ih T RX NX (zv fd) (zn k)))) (fun u t => (va_P (dC, dI) vwCl (w5 a0 aT aE aG aR aN aS aQ aW aX cD cI u iw ih fa fb fd ib mk im iq tT tE tG tR tN tS tQ tW tX) t.heap ∧ va_K (dC, dI) vwCl [(cD, .double), (cI, .int)] t ∧ va_D (va_A (w5 a0 aT aE aG aR aN aS aQ aW aX cD cI th iw ih fa fb fd ib mk im iq tT tE tG tR tN tS tQ tW tX) sz) (w5 a0 aT aE aG aR aN aS aQ aW aX cD cI u iw ih fa fb fd ib mk im iq tT tE tG tR tN tS tQ tW tX))) (va_A (w5 a0 aT aE aG aR aN aS aQ aW aX cD cI th iw ih fa fb fd ib mk im iq tT tE tG tR tN tS tQ tW tX) sz)) 0 0 (va_A (w5 a0 aT aE aG aR aN aS aQ aW aX cD cI th iw ih fa fb fd ib mk im iq tT tE tG tR tN tS tQ tW tX) sz) := by
  refine MetD.ofW (cc := cX5_tap) (maxL := 8) (ret := (some .double)) (by decide) rfl ?_
  intro p e s m args below meth c s₁ B hml hv hd0
  obtain ⟨rfl, hsz, hP, hK, hD0⟩ := hv
  have hx := B.exec
  have hb := B.bytes
  have hr := B.returns
  have hts := atoms_spec (ws := wsX5_tap) B.pre
  have hown : s.vm.findClass RX5 = some m.cls := findClass_of_methodNamed B.named
  have hlocks := B.notSynchronized
  subst hsz
  have hD := hD0.self (sz := s.heap.size)
  generalize hAe : va_A (w5 a0 aT aE aG aR aN aS aQ aW aX cD cI th iw ih fa fb fd ib mk im iq tT tE tG tR tN tS tQ tW tX) s.heap.size = A at hD ⊢
  have hA : ∀ q : Nat, s.heap.size ≤ q → A q := fun q h => by rw [← hAe]; exact Or.inr h
  have hS : va_S A s.heap s.heap [] := va_S.rf
  have hl := lv_entry ([.ref a0, .int k, .int x, .int y, .double va]) (n := 8) (Nat.le_of_ble_eq_true rfl)
  rw [lg_entry_eq]
  generalize (lg_sl ([.ref a0, .int k, .int x, .int y, .double va]) ++ List.replicate (8 - (lg_sl ([.ref a0, .int k, .int x, .int y, .double va])).length) Slot.unset).toArray = ls at hl ⊢
  have hl : lv_has ls 8 [(0, .ref a0), (1, .int k), (2, .int x), (3, .int y), (4, .double va)] := hl
  refine lv_aload_n hx hb dX5_tap_0 rfl (lv_at hl 0 rfl) ?_
  refine lv_aload_n hx hb dX5_tap_1 rfl (lv_at hl 0 rfl) ?_
  refine lv_iload_n hx hb dX5_tap_2 rfl (lv_at hl 1 rfl) ?_
  have hPc := hP
  refine va_calli (va_runV (As := [.int k]) (rest := [.ref a0]) ⟨hx, hb, hml, hown, (dr_words hts s.drawn)⟩ (c5_noMode l dC dI a0 aT aE aG aR aN aS aQ aW aX cD cI th iw ih fa fb fd ib mk im iq tT tE tG tR tN tS tQ tW tX k) (cwV 1 (dr_words hts s.drawn) gX5_tap_X5_noMode rfl rfl rfl (by decide +kernel) ⟨Nat.le_of_ble_eq_true rfl, Nat.le_of_ble_eq_true rfl⟩) ⟨zfb, va_recv hK hP (ci := 5) (q0 := 0) rfl rfl, zpre hPc hK⟩ rfl rfl hl.1 rfl (lv_room (Nat.le_of_ble_eq_true rfl)) dX5_tap_3 ⟨Nat.le_of_ble_eq_true rfl, Nat.le_of_ble_eq_true rfl⟩) hS (fun q _ h => h.elim) (fun q h => h.elim) (fun r1 u9 t9 H locs ht9 hvm9 hr1 hB9 hz9 hk1 hS => ?_)
  have hP := zro1 hP hk1
  subst hr1
  refine z_if_ne_p (tgt := 18) hx hb (znmd k) dX5_tap_6 (by decide) (fun c2 => ?_) (fun c3 => ?_)
  · skip
    have c_6 := c2
    refine lv_iconst (v := (nI 1)) hx hb dX5_tap_18 (by decide) ?_
    refine lv_goto (tgt := 58) hx hb dX5_tap_19 (by decide) ?_
    refine va_put (D := (dC, dI)) (ci := 5) (v := .int (nI 1)) (ty := .int) (C := RX5) (T := TX5) (N := 19) hx hb (dr_words hts s.drawn) (in_X5_tap_X5) tyX5 tyX5_ok nmX5 hown hK hP hD hS 0 rfl rfl 0 (by decide) (dr_words hts s.drawn (.fieldLink RX5 55 "PlateModesModel" "thrown" "I") (by decide +kernel)) (fun _ h9 => h9) rfl (by decide +kernel) rfl rfl (Nat.le_of_ble_eq_true rfl) dX5_tap_58 (fun H locs hP hD hS => ?_)
    have hP : va_P (dC, dI) vwCl (w5 a0 aT aE aG aR aN aS aQ aW aX cD cI (nI 1) iw ih fa fb fd ib mk im iq tT tE tG tR tN tS tQ tW tX) H := hP
    have hD : va_D A (w5 a0 aT aE aG aR aN aS aQ aW aX cD cI (nI 1) iw ih fa fb fd ib mk im iq tT tE tG tR tN tS tQ tW tX) := hD
    refine lv_aload_n hx hb dX5_tap_61 rfl (lv_at hl 0 rfl) ?_
    refine va_get (D := (dC, dI)) (ci := 5) (v := .int (nI 1)) (C := RX5) (T := TX5) (N := 19) hx hb (dr_words hts s.drawn) (in_X5_tap_X5) hown hK hP 0 rfl rfl 0 (by decide) (dr_words hts s.drawn (.fieldLink RX5 55 "PlateModesModel" "thrown" "I") (by decide +kernel)) (fun _ h9 => h9) rfl dX5_tap_62 ?_
    refine z_if_le (tgt := 70) hx hb (by omega) dX5_tap_65 (by decide) (fun c4 => ?_) (fun c5 => ?_)
    · skip
      exact absurd c4 (by decide)
    · skip
      refine lv_dconst0 hx hb dX5_tap_68 ?_
      refine W.endD hd0 ?_
      exact W.dret (v := FP.dconst0) hx hb hr (fun t ht hW => ⟨⟨FP.dconst0, (nI 1), rfl, ⟨congrArg nI (if_pos (by first | exact Or.inl c_6 | exact Or.inr c_15)).symm, fun h => absurd ((if_pos (by first | exact Or.inl c_6 | exact Or.inr c_15)).symm.trans h) (by decide)⟩, by rw [ht]; exact hP, va_K.moved hW.alike hK, hD⟩, hS.F ht⟩) hS.2.2 dX5_tap_69
  · skip
    have c_6 := c3
    refine lv_aload_n hx hb dX5_tap_9 rfl (lv_at hl 0 rfl) ?_
    refine lv_iload_n hx hb dX5_tap_10 rfl (lv_at hl 2 rfl) ?_
    refine lv_iload_n hx hb dX5_tap_11 rfl (lv_at hl 3 rfl) ?_
    have hPc := hP
    refine va_calli (va_runV (As := [.int x, .int y]) (rest := [.ref a0]) ⟨hx, hb, hml, hown, (dr_words hts s.drawn)⟩ (c5_noCell l dC dI a0 aT aE aG aR aN aS aQ aW aX cD cI th iw ih fa fb fd ib mk im iq tT tE tG tR tN tS tQ tW tX x y) (cwV 2 (dr_words hts s.drawn) gX5_tap_X5_noCell rfl rfl rfl (by decide +kernel) ⟨Nat.le_of_ble_eq_true rfl, Nat.le_of_ble_eq_true rfl⟩) ⟨zfb, va_recv hK hP (ci := 5) (q0 := 0) rfl rfl, zpre hPc hK⟩ rfl rfl hl.1 rfl (lv_room (Nat.le_of_ble_eq_true rfl)) dX5_tap_12 ⟨Nat.le_of_ble_eq_true rfl, Nat.le_of_ble_eq_true rfl⟩) hS (fun q _ h => h.elim) (fun q h => h.elim) (fun r6 u9 t9 H locs ht9 hvm9 hr6 hB9 hz9 hk1 hS => ?_)
    have hP := zro1 hP hk1
    subst hr6
    refine z_if_eq_p (tgt := 22) hx hb (zncl iw ih x y) dX5_tap_15 (by decide) (fun c7 => ?_) (fun c8 => ?_)
    · skip
      have c_15 := c7
      refine lv_dload hx hb dX5_tap_22 (lv_at hl 4 rfl) ?_
      refine lv_dconst0 hx hb dX5_tap_24 ?_
      refine lv_ldc2d (v := 4634204016564240384) hx hb hown (dr_words hts s.drawn (.constantDouble RX5 141 (4634204016564240384)) (by decide +kernel)) dX5_tap_25 ?_
      refine va_calli (va_runS (As := [.double va, .double FP.dconst0, .double 4634204016564240384]) (rest := [.ref a0]) ⟨hx, hb, hml, hown, (dr_words hts s.drawn)⟩ (c5_between l va FP.dconst0 4634204016564240384) (va_cwS 3 (dr_words hts s.drawn) gX5_tap_X5_between rfl rfl rfl (by decide +kernel) ⟨Nat.le_of_ble_eq_true rfl, Nat.le_of_ble_eq_true rfl⟩) ⟨zfb0, zpre0⟩ rfl rfl hl.1 rfl (lv_room (Nat.le_of_ble_eq_true rfl)) dX5_tap_28 ⟨Nat.le_of_ble_eq_true rfl, Nat.le_of_ble_eq_true rfl⟩) hS (fun q _ h => h.elim) (fun q h => h.elim) (fun r9 u9 t9 H locs ht9 hvm9 hr9 hB9 hz9 hk1 hS => ?_)
      have hP := zro1 hP hk1
      have hr9 : r9 = zb (zbt (zv va) z0 (zv 4634204016564240384)) := hr9
      subst hr9
      refine z_if_ne_b (tgt := 38) hx hb dX5_tap_31 (by decide) (fun c10 => ?_) (fun c11 => ?_)
      · skip
        have c_31 := c10
        refine lv_aload_n hx hb dX5_tap_38 rfl (lv_at hl 0 rfl) ?_
        refine va_get (D := (dC, dI)) (ci := 5) (v := .int (zb mk)) (C := RX5) (T := TX5) (N := 19) hx hb (dr_words hts s.drawn) (in_X5_tap_X5) hown hK hP 0 rfl rfl 12 (by decide) (dr_words hts s.drawn (.fieldLink RX5 72 "PlateModesModel" "made" "Z") (by decide +kernel)) (fun _ h9 => h9) rfl dX5_tap_39 ?_
        refine z_if_eq_b (tgt := 57) hx hb dX5_tap_42 (by decide) (fun c12 => ?_) (fun c13 => ?_)
        · skip
          have c_44 := c12
          refine lv_iconst (v := (nI 3)) hx hb dX5_tap_57 (by decide) ?_
          refine va_put (D := (dC, dI)) (ci := 5) (v := .int (nI 3)) (ty := .int) (C := RX5) (T := TX5) (N := 19) hx hb (dr_words hts s.drawn) (in_X5_tap_X5) tyX5 tyX5_ok nmX5 hown hK hP hD hS 0 rfl rfl 0 (by decide) (dr_words hts s.drawn (.fieldLink RX5 55 "PlateModesModel" "thrown" "I") (by decide +kernel)) (fun _ h9 => h9) rfl (by decide +kernel) rfl rfl (Nat.le_of_ble_eq_true rfl) dX5_tap_58 (fun H locs hP hD hS => ?_)
          have hP : va_P (dC, dI) vwCl (w5 a0 aT aE aG aR aN aS aQ aW aX cD cI (nI 3) iw ih fa fb fd ib mk im iq tT tE tG tR tN tS tQ tW tX) H := hP
          have hD : va_D A (w5 a0 aT aE aG aR aN aS aQ aW aX cD cI (nI 3) iw ih fa fb fd ib mk im iq tT tE tG tR tN tS tQ tW tX) := hD
          refine lv_aload_n hx hb dX5_tap_61 rfl (lv_at hl 0 rfl) ?_
          refine va_get (D := (dC, dI)) (ci := 5) (v := .int (nI 3)) (C := RX5) (T := TX5) (N := 19) hx hb (dr_words hts s.drawn) (in_X5_tap_X5) hown hK hP 0 rfl rfl 0 (by decide) (dr_words hts s.drawn (.fieldLink RX5 55 "PlateModesModel" "thrown" "I") (by decide +kernel)) (fun _ h9 => h9) rfl dX5_tap_62 ?_
          refine z_if_le (tgt := 70) hx hb (by omega) dX5_tap_65 (by decide) (fun c14 => ?_) (fun c15 => ?_)
          · skip
            exact absurd c14 (by decide)
          · skip
            refine lv_dconst0 hx hb dX5_tap_68 ?_
            refine W.endD hd0 ?_
            exact W.dret (v := FP.dconst0) hx hb hr (fun t ht hW => ⟨⟨FP.dconst0, (nI 3), rfl, ⟨congrArg nI ((if_neg (fun q => q.elim c_6 c_15)).trans ((if_neg (by rw [c_31]; decide)).trans (if_neg (fun z => by have z2 := (zltM (fun q => c_6 (Or.inl q))).mp z; first | exact absurd (c_44.symm.trans z2.1) (by decide) | exact c_52 z2.2)))).symm, fun h => absurd (((if_neg (fun q => q.elim c_6 c_15)).trans ((if_neg (by rw [c_31]; decide)).trans (if_neg (fun z => by have z2 := (zltM (fun q => c_6 (Or.inl q))).mp z; first | exact absurd (c_44.symm.trans z2.1) (by decide) | exact c_52 z2.2)))).symm.trans h) (by decide)⟩, by rw [ht]; exact hP, va_K.moved hW.alike hK, hD⟩, hS.F ht⟩) hS.2.2 dX5_tap_69
        · skip
          have c_44 := c13
          refine lv_iload_n hx hb dX5_tap_45 rfl (lv_at hl 1 rfl) ?_
          refine lv_aload_n hx hb dX5_tap_46 rfl (lv_at hl 0 rfl) ?_
          refine va_get (D := (dC, dI)) (ci := 5) (v := .int (nI im)) (C := RX5) (T := TX5) (N := 19) hx hb (dr_words hts s.drawn) (in_X5_tap_X5) hown hK hP 0 rfl rfl 13 (by decide) (dr_words hts s.drawn (.fieldLink RX5 116 "PlateModesModel" "many" "I") (by decide +kernel)) (fun _ h9 => h9) rfl dX5_tap_47 ?_
          refine lv_icmp_ge (tgt := 57) hx hb dX5_tap_50 (by decide) (fun c16 => ?_) (fun c17 => ?_)
          · skip
            have c_52 := Int32.not_lt.mpr c16
            refine lv_iconst (v := (nI 3)) hx hb dX5_tap_57 (by decide) ?_
            refine va_put (D := (dC, dI)) (ci := 5) (v := .int (nI 3)) (ty := .int) (C := RX5) (T := TX5) (N := 19) hx hb (dr_words hts s.drawn) (in_X5_tap_X5) tyX5 tyX5_ok nmX5 hown hK hP hD hS 0 rfl rfl 0 (by decide) (dr_words hts s.drawn (.fieldLink RX5 55 "PlateModesModel" "thrown" "I") (by decide +kernel)) (fun _ h9 => h9) rfl (by decide +kernel) rfl rfl (Nat.le_of_ble_eq_true rfl) dX5_tap_58 (fun H locs hP hD hS => ?_)
            have hP : va_P (dC, dI) vwCl (w5 a0 aT aE aG aR aN aS aQ aW aX cD cI (nI 3) iw ih fa fb fd ib mk im iq tT tE tG tR tN tS tQ tW tX) H := hP
            have hD : va_D A (w5 a0 aT aE aG aR aN aS aQ aW aX cD cI (nI 3) iw ih fa fb fd ib mk im iq tT tE tG tR tN tS tQ tW tX) := hD
            refine lv_aload_n hx hb dX5_tap_61 rfl (lv_at hl 0 rfl) ?_
            refine va_get (D := (dC, dI)) (ci := 5) (v := .int (nI 3)) (C := RX5) (T := TX5) (N := 19) hx hb (dr_words hts s.drawn) (in_X5_tap_X5) hown hK hP 0 rfl rfl 0 (by decide) (dr_words hts s.drawn (.fieldLink RX5 55 "PlateModesModel" "thrown" "I") (by decide +kernel)) (fun _ h9 => h9) rfl dX5_tap_62 ?_
            refine z_if_le (tgt := 70) hx hb (by omega) dX5_tap_65 (by decide) (fun c18 => ?_) (fun c19 => ?_)
            · skip
              exact absurd c18 (by decide)
            · skip
              refine lv_dconst0 hx hb dX5_tap_68 ?_
              refine W.endD hd0 ?_
              exact W.dret (v := FP.dconst0) hx hb hr (fun t ht hW => ⟨⟨FP.dconst0, (nI 3), rfl, ⟨congrArg nI ((if_neg (fun q => q.elim c_6 c_15)).trans ((if_neg (by rw [c_31]; decide)).trans (if_neg (fun z => by have z2 := (zltM (fun q => c_6 (Or.inl q))).mp z; first | exact absurd (c_44.symm.trans z2.1) (by decide) | exact c_52 z2.2)))).symm, fun h => absurd (((if_neg (fun q => q.elim c_6 c_15)).trans ((if_neg (by rw [c_31]; decide)).trans (if_neg (fun z => by have z2 := (zltM (fun q => c_6 (Or.inl q))).mp z; first | exact absurd (c_44.symm.trans z2.1) (by decide) | exact c_52 z2.2)))).symm.trans h) (by decide)⟩, by rw [ht]; exact hP, va_K.moved hW.alike hK, hD⟩, hS.F ht⟩) hS.2.2 dX5_tap_69
          · skip
            have c_52 := Int32.not_le.mp c17
            refine lv_iconst (v := (nI 0)) hx hb dX5_tap_53 (by decide) ?_
            refine lv_goto (tgt := 58) hx hb dX5_tap_54 (by decide) ?_
            refine va_put (D := (dC, dI)) (ci := 5) (v := .int (nI 0)) (ty := .int) (C := RX5) (T := TX5) (N := 19) hx hb (dr_words hts s.drawn) (in_X5_tap_X5) tyX5 tyX5_ok nmX5 hown hK hP hD hS 0 rfl rfl 0 (by decide) (dr_words hts s.drawn (.fieldLink RX5 55 "PlateModesModel" "thrown" "I") (by decide +kernel)) (fun _ h9 => h9) rfl (by decide +kernel) rfl rfl (Nat.le_of_ble_eq_true rfl) dX5_tap_58 (fun H locs hP hD hS => ?_)
            have hP : va_P (dC, dI) vwCl (w5 a0 aT aE aG aR aN aS aQ aW aX cD cI (nI 0) iw ih fa fb fd ib mk im iq tT tE tG tR tN tS tQ tW tX) H := hP
            have hD : va_D A (w5 a0 aT aE aG aR aN aS aQ aW aX cD cI (nI 0) iw ih fa fb fd ib mk im iq tT tE tG tR tN tS tQ tW tX) := hD
            refine lv_aload_n hx hb dX5_tap_61 rfl (lv_at hl 0 rfl) ?_
            refine va_get (D := (dC, dI)) (ci := 5) (v := .int (nI 0)) (C := RX5) (T := TX5) (N := 19) hx hb (dr_words hts s.drawn) (in_X5_tap_X5) hown hK hP 0 rfl rfl 0 (by decide) (dr_words hts s.drawn (.fieldLink RX5 55 "PlateModesModel" "thrown" "I") (by decide +kernel)) (fun _ h9 => h9) rfl dX5_tap_62 ?_
            refine z_if_le (tgt := 70) hx hb (by omega) dX5_tap_65 (by decide) (fun c20 => ?_) (fun c21 => ?_)
            · skip
              obtain ⟨kn, hk4, rfl⟩ := zmd_of c_6
              obtain ⟨xn, yn, hxw, hyh, rfl, rfl⟩ := zcl_of hw6 hh6 c_15
              have hkM : nI kn < nI (zmks mk im) := (zltM (fun q => c_6 (Or.inl q))).mpr ⟨c_44, c_52⟩
              obtain ⟨hmk, hki⟩ := zkM hk4 hq.1 hkM
              obtain ⟨gR, gN, hcn, hsh⟩ := hq.2 hmk
              obtain ⟨gS, gQ⟩ := hsh kn hki
              refine lv_aload_n hx hb dX5_tap_70 rfl (lv_at hl 0 rfl) ?_
              refine va_get (D := (dC, dI)) (ci := 5) (v := .ref aS) (C := RX5) (T := TX5) (N := 19) hx hb (dr_words hts s.drawn) (in_X5_tap_X5) hown hK hP 0 rfl rfl 14 (by decide) (dr_words hts s.drawn (.fieldLink RX5 36 "PlateModesModel" "shapes" "[D") (by decide +kernel)) (fun _ h9 => h9) rfl dX5_tap_71 ?_
              refine lv_bipush (v := (nI 36)) hx hb dX5_tap_74 (by decide) ?_
              refine lv_iload_n hx hb dX5_tap_76 rfl (lv_at hl 1 rfl) ?_
              refine t_imul hx hb dX5_tap_77 (v := nI (36 * kn)) (zi_mul rfl) ?_
              refine lv_bipush (v := (nI 6)) hx hb dX5_tap_78 (by decide) ?_
              refine lv_iload_n hx hb dX5_tap_80 rfl (lv_at hl 3 rfl) ?_
              refine t_imul hx hb dX5_tap_81 (v := nI (6 * yn)) (zi_mul rfl) ?_
              refine t_iadd hx hb dX5_tap_82 (v := nI (36 * kn + 6 * yn)) (zi_add (by omega)) ?_
              refine lv_iload_n hx hb dX5_tap_83 rfl (lv_at hl 2 rfl) ?_
              refine t_iadd hx hb dX5_tap_84 (v := nI (36 * kn + 6 * yn + xn)) (zi_add (by omega)) ?_
              refine z_dald (s := s.setDrawn s.drawn) (n := 144) (i := 36 * kn + 6 * yn + xn) hx hb hK hP 6 0 rfl rfl (by omega) (by decide) dX5_tap_85 ?_
              refine lv_dstore (lv' := [(6, .double (tS (36 * kn + 6 * yn + xn))), (0, .ref a0), (1, .int (nI kn)), (2, .int (nI xn)), (3, .int (nI yn)), (4, .double va)]) hx hb dX5_tap_86 hl (by decide) rfl (fun ls hl => ?_)
              refine lv_dload hx hb dX5_tap_88 (lv_at hl 0 rfl) ?_
              refine lv_dload hx hb dX5_tap_90 (lv_at hl 0 rfl) ?_
              refine zr_dmul hd0 hx hb (a := zshp iw ih T RX NX (zv fd) kn (yn * iw + xn)) (b := zshp iw ih T RX NX (zv fd) kn (yn * iw + xn)) (zgs_at gS xn yn (by omega) (by omega) (by omega)) (zgs_at gS xn yn (by omega) (by omega) (by omega)) dX5_tap_92 (fun r22 d23 hr22 hd23 => ?_)
              refine lv_dconst1 hx hb dX5_tap_93 ?_
              refine lv_dload hx hb dX5_tap_94 (lv_at hl 5 rfl) ?_
              refine lv_aload_n hx hb dX5_tap_96 rfl (lv_at hl 1 rfl) ?_
              refine va_get (D := (dC, dI)) (ci := 5) (v := .ref aQ) (C := RX5) (T := TX5) (N := 19) hx hb (dr_words hts d23) (in_X5_tap_X5) hown hK hP 0 rfl rfl 15 (by decide) (dr_words hts d23 (.fieldLink RX5 39 "PlateModesModel" "squares" "[D") (by decide +kernel)) (fun _ h9 => h9) rfl dX5_tap_97 ?_
              refine lv_iload_n hx hb dX5_tap_100 rfl (lv_at hl 2 rfl) ?_
              refine z_dald (s := s.setDrawn d23) (n := 4) (i := kn) hx hb hK hP 7 0 rfl rfl (by omega) (by decide) dX5_tap_101 ?_
              refine zr_dsub hd23 hx hb (a := zv va) (b := zSQ iw ih T RX NX (zv fd) kn) rfl gQ dX5_tap_102 (fun r24 d25 hr24 hd25 => ?_)
              refine lv_dload hx hb dX5_tap_103 (lv_at hl 5 rfl) ?_
              refine lv_aload_n hx hb dX5_tap_105 rfl (lv_at hl 1 rfl) ?_
              refine va_get (D := (dC, dI)) (ci := 5) (v := .ref aQ) (C := RX5) (T := TX5) (N := 19) hx hb (dr_words hts d25) (in_X5_tap_X5) hown hK hP 0 rfl rfl 15 (by decide) (dr_words hts d25 (.fieldLink RX5 39 "PlateModesModel" "squares" "[D") (by decide +kernel)) (fun _ h9 => h9) rfl dX5_tap_106 ?_
              refine lv_iload_n hx hb dX5_tap_109 rfl (lv_at hl 2 rfl) ?_
              refine z_dald (s := s.setDrawn d25) (n := 4) (i := kn) hx hb hK hP 7 0 rfl rfl (by omega) (by decide) dX5_tap_110 ?_
              refine zr_dsub hd25 hx hb (a := zv va) (b := zSQ iw ih T RX NX (zv fd) kn) rfl gQ dX5_tap_111 (fun r26 d27 hr26 hd27 => ?_)
              refine zr_dmul hd27 hx hb (a := zS (zv va) (zSQ iw ih T RX NX (zv fd) kn)) (b := zS (zv va) (zSQ iw ih T RX NX (zv fd) kn)) hr24 hr26 dX5_tap_112 (fun r28 d29 hr28 hd29 => ?_)
              refine zr_dadd hd29 hx hb (a := z1) (b := zM (zS (zv va) (zSQ iw ih T RX NX (zv fd) kn)) (zS (zv va) (zSQ iw ih T RX NX (zv fd) kn))) rfl hr28 dX5_tap_113 (fun r30 d31 hr30 hd31 => ?_)
              refine zr_ddiv hd31 hx hb (a := zM (zshp iw ih T RX NX (zv fd) kn (yn * iw + xn)) (zshp iw ih T RX NX (zv fd) kn (yn * iw + xn))) (b := zA z1 (zM (zS (zv va) (zSQ iw ih T RX NX (zv fd) kn)) (zS (zv va) (zSQ iw ih T RX NX (zv fd) kn)))) hr22 hr30 dX5_tap_114 (fun r32 d33 hr32 hd33 => ?_)
              refine W.endD hd33 ?_
              exact W.dret (v := r32) hx hb hr (fun t ht hW => ⟨⟨r32, (nI 0), rfl, ⟨congrArg nI ((if_neg (fun q => q.elim c_6 c_15)).trans ((if_neg (by rw [c_31]; decide)).trans (if_pos ((zltM (fun q => c_6 (Or.inl q))).mpr ⟨c_44, c_52⟩)))).symm, fun _ => by rw [zn_nI (by omega), zn_nI (by omega), zn_nI (by omega)]; exact hr32⟩, by rw [ht]; exact hP, va_K.moved hW.alike hK, hD⟩, hS.F ht⟩) hS.2.2 dX5_tap_115
            · skip
              exact absurd c21 (by decide)
      · skip
        have c_31 := c11
        refine lv_iconst (v := (nI 2)) hx hb dX5_tap_34 (by decide) ?_
        refine lv_goto (tgt := 58) hx hb dX5_tap_35 (by decide) ?_
        refine va_put (D := (dC, dI)) (ci := 5) (v := .int (nI 2)) (ty := .int) (C := RX5) (T := TX5) (N := 19) hx hb (dr_words hts s.drawn) (in_X5_tap_X5) tyX5 tyX5_ok nmX5 hown hK hP hD hS 0 rfl rfl 0 (by decide) (dr_words hts s.drawn (.fieldLink RX5 55 "PlateModesModel" "thrown" "I") (by decide +kernel)) (fun _ h9 => h9) rfl (by decide +kernel) rfl rfl (Nat.le_of_ble_eq_true rfl) dX5_tap_58 (fun H locs hP hD hS => ?_)
        have hP : va_P (dC, dI) vwCl (w5 a0 aT aE aG aR aN aS aQ aW aX cD cI (nI 2) iw ih fa fb fd ib mk im iq tT tE tG tR tN tS tQ tW tX) H := hP
        have hD : va_D A (w5 a0 aT aE aG aR aN aS aQ aW aX cD cI (nI 2) iw ih fa fb fd ib mk im iq tT tE tG tR tN tS tQ tW tX) := hD
        refine lv_aload_n hx hb dX5_tap_61 rfl (lv_at hl 0 rfl) ?_
        refine va_get (D := (dC, dI)) (ci := 5) (v := .int (nI 2)) (C := RX5) (T := TX5) (N := 19) hx hb (dr_words hts s.drawn) (in_X5_tap_X5) hown hK hP 0 rfl rfl 0 (by decide) (dr_words hts s.drawn (.fieldLink RX5 55 "PlateModesModel" "thrown" "I") (by decide +kernel)) (fun _ h9 => h9) rfl dX5_tap_62 ?_
        refine z_if_le (tgt := 70) hx hb (by omega) dX5_tap_65 (by decide) (fun c34 => ?_) (fun c35 => ?_)
        · skip
          exact absurd c34 (by decide)
        · skip
          refine lv_dconst0 hx hb dX5_tap_68 ?_
          refine W.endD hd0 ?_
          exact W.dret (v := FP.dconst0) hx hb hr (fun t ht hW => ⟨⟨FP.dconst0, (nI 2), rfl, ⟨congrArg nI ((if_neg (fun q => q.elim c_6 c_15)).trans (if_pos c_31)).symm, fun h => absurd (((if_neg (fun q => q.elim c_6 c_15)).trans (if_pos c_31)).symm.trans h) (by decide)⟩, by rw [ht]; exact hP, va_K.moved hW.alike hK, hD⟩, hS.F ht⟩) hS.2.2 dX5_tap_69
    · skip
      have c_15 := c8
      refine lv_iconst (v := (nI 1)) hx hb dX5_tap_18 (by decide) ?_
      refine lv_goto (tgt := 58) hx hb dX5_tap_19 (by decide) ?_
      refine va_put (D := (dC, dI)) (ci := 5) (v := .int (nI 1)) (ty := .int) (C := RX5) (T := TX5) (N := 19) hx hb (dr_words hts s.drawn) (in_X5_tap_X5) tyX5 tyX5_ok nmX5 hown hK hP hD hS 0 rfl rfl 0 (by decide) (dr_words hts s.drawn (.fieldLink RX5 55 "PlateModesModel" "thrown" "I") (by decide +kernel)) (fun _ h9 => h9) rfl (by decide +kernel) rfl rfl (Nat.le_of_ble_eq_true rfl) dX5_tap_58 (fun H locs hP hD hS => ?_)
      have hP : va_P (dC, dI) vwCl (w5 a0 aT aE aG aR aN aS aQ aW aX cD cI (nI 1) iw ih fa fb fd ib mk im iq tT tE tG tR tN tS tQ tW tX) H := hP
      have hD : va_D A (w5 a0 aT aE aG aR aN aS aQ aW aX cD cI (nI 1) iw ih fa fb fd ib mk im iq tT tE tG tR tN tS tQ tW tX) := hD
      refine lv_aload_n hx hb dX5_tap_61 rfl (lv_at hl 0 rfl) ?_
      refine va_get (D := (dC, dI)) (ci := 5) (v := .int (nI 1)) (C := RX5) (T := TX5) (N := 19) hx hb (dr_words hts s.drawn) (in_X5_tap_X5) hown hK hP 0 rfl rfl 0 (by decide) (dr_words hts s.drawn (.fieldLink RX5 55 "PlateModesModel" "thrown" "I") (by decide +kernel)) (fun _ h9 => h9) rfl dX5_tap_62 ?_
      refine z_if_le (tgt := 70) hx hb (by omega) dX5_tap_65 (by decide) (fun c36 => ?_) (fun c37 => ?_)
      · skip
        exact absurd c36 (by decide)
      · skip
        refine lv_dconst0 hx hb dX5_tap_68 ?_
        refine W.endD hd0 ?_
        exact W.dret (v := FP.dconst0) hx hb hr (fun t ht hW => ⟨⟨FP.dconst0, (nI 1), rfl, ⟨congrArg nI (if_pos (by first | exact Or.inl c_6 | exact Or.inr c_15)).symm, fun h => absurd ((if_pos (by first | exact Or.inl c_6 | exact Or.inr c_15)).symm.trans h) (by decide)⟩, by rw [ht]; exact hP, va_K.moved hW.alike hK, hD⟩, hS.F ht⟩) hS.2.2 dX5_tap_69
